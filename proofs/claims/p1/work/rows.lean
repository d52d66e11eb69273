section
-- ===== PART A: goes FIRST, ahead of the names: the tables' words, and 'selects' of the private methods out of them =====
/-- a private method of a class that the tables say can be made, by its rows of tables_1 -/
def lw_okq (q : MethodName × Nat) : Prop := (q.1.cls ≠ "java/lang/invoke/MethodHandle" ∧ q.1.cls ≠ "java/lang/invoke/VarHandle") ∧ Cond.instantiable q.1.cls q.2 ∈ tables_1 ∧ Cond.privateMethod q.1 ∈ tables_1 ∧ Cond.instanceMethod q.1 ∈ tables_1
theorem lw_p0 : lw_okq (⟨"MovingExits$Reader", "advance", "()V"⟩, 10) := ⟨⟨by decide +kernel, by decide +kernel⟩, List.mem_of_getElem? (i := 197) (by decide +kernel), List.mem_of_getElem? (i := 436) (by decide +kernel), List.mem_of_getElem? (i := 437) (by decide +kernel)⟩
theorem lw_p1 : lw_okq (⟨"MovingExits$Reader", "readNumber", "()V"⟩, 10) := ⟨⟨by decide +kernel, by decide +kernel⟩, List.mem_of_getElem? (i := 197) (by decide +kernel), List.mem_of_getElem? (i := 444) (by decide +kernel), List.mem_of_getElem? (i := 445) (by decide +kernel)⟩
theorem lw_p2 : lw_okq (⟨"MovingExits$Reader", "readWord", "()V"⟩, 10) := ⟨⟨by decide +kernel, by decide +kernel⟩, List.mem_of_getElem? (i := 197) (by decide +kernel), List.mem_of_getElem? (i := 452) (by decide +kernel), List.mem_of_getElem? (i := 453) (by decide +kernel)⟩
theorem lw_p3 : lw_okq (⟨"MovingExits$Reader", "readHall", "()Z"⟩, 10) := ⟨⟨by decide +kernel, by decide +kernel⟩, List.mem_of_getElem? (i := 197) (by decide +kernel), List.mem_of_getElem? (i := 456) (by decide +kernel), List.mem_of_getElem? (i := 457) (by decide +kernel)⟩
theorem lw_p4 : lw_okq (⟨"MovingExits$Reader", "take", "(I)Z"⟩, 10) := ⟨⟨by decide +kernel, by decide +kernel⟩, List.mem_of_getElem? (i := 197) (by decide +kernel), List.mem_of_getElem? (i := 461) (by decide +kernel), List.mem_of_getElem? (i := 462) (by decide +kernel)⟩
theorem lw_p5 : lw_okq (⟨"MovingExits$Reader", "refuse", "(II)Z"⟩, 10) := ⟨⟨by decide +kernel, by decide +kernel⟩, List.mem_of_getElem? (i := 197) (by decide +kernel), List.mem_of_getElem? (i := 465) (by decide +kernel), List.mem_of_getElem? (i := 466) (by decide +kernel)⟩
theorem lw_p6 : lw_okq (⟨"MovingExits$Reader", "takeNumber", "(II)Z"⟩, 10) := ⟨⟨by decide +kernel, by decide +kernel⟩, List.mem_of_getElem? (i := 197) (by decide +kernel), List.mem_of_getElem? (i := 470) (by decide +kernel), List.mem_of_getElem? (i := 471) (by decide +kernel)⟩
theorem lw_p7 : lw_okq (⟨"MovingExits$Reader", "readPlace", "()Z"⟩, 10) := ⟨⟨by decide +kernel, by decide +kernel⟩, List.mem_of_getElem? (i := 197) (by decide +kernel), List.mem_of_getElem? (i := 476) (by decide +kernel), List.mem_of_getElem? (i := 477) (by decide +kernel)⟩
theorem lw_p8 : lw_okq (⟨"MovingExits$Reader", "readExit", "()Z"⟩, 10) := ⟨⟨by decide +kernel, by decide +kernel⟩, List.mem_of_getElem? (i := 197) (by decide +kernel), List.mem_of_getElem? (i := 486) (by decide +kernel), List.mem_of_getElem? (i := 487) (by decide +kernel)⟩
theorem lw_p9 : lw_okq (⟨"MovingExits$Reader", "readKing", "(I)Z"⟩, 10) := ⟨⟨by decide +kernel, by decide +kernel⟩, List.mem_of_getElem? (i := 197) (by decide +kernel), List.mem_of_getElem? (i := 496) (by decide +kernel), List.mem_of_getElem? (i := 497) (by decide +kernel)⟩
theorem lw_p10 : lw_okq (⟨"MovingExits$Reader", "readSits", "()Z"⟩, 10) := ⟨⟨by decide +kernel, by decide +kernel⟩, List.mem_of_getElem? (i := 197) (by decide +kernel), List.mem_of_getElem? (i := 500) (by decide +kernel), List.mem_of_getElem? (i := 501) (by decide +kernel)⟩
theorem lw_p11 : lw_okq (⟨"MovingExits$Acts", "turnScrews", "(I)V"⟩, 5) := ⟨⟨by decide +kernel, by decide +kernel⟩, List.mem_of_getElem? (i := 236) (by decide +kernel), List.mem_of_getElem? (i := 524) (by decide +kernel), List.mem_of_getElem? (i := 525) (by decide +kernel)⟩
theorem lw_p12 : lw_okq (⟨"MovingExits$Acts", "staysAsKings", "(II)Z"⟩, 5) := ⟨⟨by decide +kernel, by decide +kernel⟩, List.mem_of_getElem? (i := 236) (by decide +kernel), List.mem_of_getElem? (i := 528) (by decide +kernel), List.mem_of_getElem? (i := 529) (by decide +kernel)⟩
theorem lw_p13 : lw_okq (⟨"MovingExits$Acts", "paced", "(II)I"⟩, 5) := ⟨⟨by decide +kernel, by decide +kernel⟩, List.mem_of_getElem? (i := 236) (by decide +kernel), List.mem_of_getElem? (i := 667) (by decide +kernel), List.mem_of_getElem? (i := 668) (by decide +kernel)⟩
theorem lw_p14 : lw_okq (⟨"MovingExits$Acts", "paceAll", "(I)V"⟩, 5) := ⟨⟨by decide +kernel, by decide +kernel⟩, List.mem_of_getElem? (i := 236) (by decide +kernel), List.mem_of_getElem? (i := 671) (by decide +kernel), List.mem_of_getElem? (i := 672) (by decide +kernel)⟩
theorem lw_p15 : lw_okq (⟨"MovingExits$Rush", "gather", "(II)V"⟩, 15) := ⟨⟨by decide +kernel, by decide +kernel⟩, List.mem_of_getElem? (i := 288) (by decide +kernel), List.mem_of_getElem? (i := 753) (by decide +kernel), List.mem_of_getElem? (i := 754) (by decide +kernel)⟩
def lw_privs_1 : List (MethodName × Nat) := [(⟨"MovingExits$Reader", "advance", "()V"⟩, 10), (⟨"MovingExits$Reader", "readNumber", "()V"⟩, 10), (⟨"MovingExits$Reader", "readWord", "()V"⟩, 10), (⟨"MovingExits$Reader", "readHall", "()Z"⟩, 10), (⟨"MovingExits$Reader", "take", "(I)Z"⟩, 10), (⟨"MovingExits$Reader", "refuse", "(II)Z"⟩, 10), (⟨"MovingExits$Reader", "takeNumber", "(II)Z"⟩, 10), (⟨"MovingExits$Reader", "readPlace", "()Z"⟩, 10), (⟨"MovingExits$Reader", "readExit", "()Z"⟩, 10), (⟨"MovingExits$Reader", "readKing", "(I)Z"⟩, 10), (⟨"MovingExits$Reader", "readSits", "()Z"⟩, 10), (⟨"MovingExits$Acts", "turnScrews", "(I)V"⟩, 5), (⟨"MovingExits$Acts", "staysAsKings", "(II)Z"⟩, 5), (⟨"MovingExits$Acts", "paced", "(II)I"⟩, 5), (⟨"MovingExits$Acts", "paceAll", "(I)V"⟩, 5), (⟨"MovingExits$Rush", "gather", "(II)V"⟩, 15)]
theorem lw_r1 : ∀ q ∈ lw_privs_1, lw_okq q := List.forall_mem_cons.mpr ⟨lw_p0, List.forall_mem_cons.mpr ⟨lw_p1, List.forall_mem_cons.mpr ⟨lw_p2, List.forall_mem_cons.mpr ⟨lw_p3, List.forall_mem_cons.mpr ⟨lw_p4, List.forall_mem_cons.mpr ⟨lw_p5, List.forall_mem_cons.mpr ⟨lw_p6, List.forall_mem_cons.mpr ⟨lw_p7, List.forall_mem_cons.mpr ⟨lw_p8, List.forall_mem_cons.mpr ⟨lw_p9, List.forall_mem_cons.mpr ⟨lw_p10, List.forall_mem_cons.mpr ⟨lw_p11, List.forall_mem_cons.mpr ⟨lw_p12, List.forall_mem_cons.mpr ⟨lw_p13, List.forall_mem_cons.mpr ⟨lw_p14, List.forall_mem_cons.mpr ⟨lw_p15, fun _ h => absurd h List.not_mem_nil⟩⟩⟩⟩⟩⟩⟩⟩⟩⟩⟩⟩⟩⟩⟩⟩
theorem lw_p16 : lw_okq (⟨"MovingExits$Rush", "lookRound", "(I)V"⟩, 15) := ⟨⟨by decide +kernel, by decide +kernel⟩, List.mem_of_getElem? (i := 288) (by decide +kernel), List.mem_of_getElem? (i := 758) (by decide +kernel), List.mem_of_getElem? (i := 759) (by decide +kernel)⟩
theorem lw_p17 : lw_okq (⟨"MovingExits$Rush", "spotOrNone", "(II)I"⟩, 15) := ⟨⟨by decide +kernel, by decide +kernel⟩, List.mem_of_getElem? (i := 288) (by decide +kernel), List.mem_of_getElem? (i := 762) (by decide +kernel), List.mem_of_getElem? (i := 763) (by decide +kernel)⟩
theorem lw_p18 : lw_okq (⟨"MovingExits$Rush", "sendAll", "(I)V"⟩, 15) := ⟨⟨by decide +kernel, by decide +kernel⟩, List.mem_of_getElem? (i := 288) (by decide +kernel), List.mem_of_getElem? (i := 786) (by decide +kernel), List.mem_of_getElem? (i := 787) (by decide +kernel)⟩
theorem lw_p19 : lw_okq (⟨"MovingExits$Rush", "sendOne", "()Z"⟩, 15) := ⟨⟨by decide +kernel, by decide +kernel⟩, List.mem_of_getElem? (i := 288) (by decide +kernel), List.mem_of_getElem? (i := 791) (by decide +kernel), List.mem_of_getElem? (i := 792) (by decide +kernel)⟩
theorem lw_p20 : lw_okq (⟨"MovingExits$Rush", "canStillEnd", "(II)Z"⟩, 15) := ⟨⟨by decide +kernel, by decide +kernel⟩, List.mem_of_getElem? (i := 288) (by decide +kernel), List.mem_of_getElem? (i := 795) (by decide +kernel), List.mem_of_getElem? (i := 796) (by decide +kernel)⟩
theorem lw_p21 : lw_okq (⟨"MovingExits$Rush", "reach", "(II)V"⟩, 15) := ⟨⟨by decide +kernel, by decide +kernel⟩, List.mem_of_getElem? (i := 288) (by decide +kernel), List.mem_of_getElem? (i := 799) (by decide +kernel), List.mem_of_getElem? (i := 800) (by decide +kernel)⟩
theorem lw_p22 : lw_okq (⟨"MovingExits$Rush", "comeIn", "(I)V"⟩, 15) := ⟨⟨by decide +kernel, by decide +kernel⟩, List.mem_of_getElem? (i := 288) (by decide +kernel), List.mem_of_getElem? (i := 803) (by decide +kernel), List.mem_of_getElem? (i := 804) (by decide +kernel)⟩
theorem lw_p23 : lw_okq (⟨"MovingExits$Rush", "turnAsideFromExit", "(II)V"⟩, 15) := ⟨⟨by decide +kernel, by decide +kernel⟩, List.mem_of_getElem? (i := 288) (by decide +kernel), List.mem_of_getElem? (i := 807) (by decide +kernel), List.mem_of_getElem? (i := 808) (by decide +kernel)⟩
theorem lw_p24 : lw_okq (⟨"MovingExits$Rush", "goOut", "(I)I"⟩, 15) := ⟨⟨by decide +kernel, by decide +kernel⟩, List.mem_of_getElem? (i := 288) (by decide +kernel), List.mem_of_getElem? (i := 811) (by decide +kernel), List.mem_of_getElem? (i := 812) (by decide +kernel)⟩
theorem lw_p25 : lw_okq (⟨"MovingExits$Rush", "turnPaths", "(I)V"⟩, 15) := ⟨⟨by decide +kernel, by decide +kernel⟩, List.mem_of_getElem? (i := 288) (by decide +kernel), List.mem_of_getElem? (i := 815) (by decide +kernel), List.mem_of_getElem? (i := 816) (by decide +kernel)⟩
theorem lw_p26 : lw_okq (⟨"MovingExits$Rush", "fewestThinkable", "()I"⟩, 15) := ⟨⟨by decide +kernel, by decide +kernel⟩, List.mem_of_getElem? (i := 288) (by decide +kernel), List.mem_of_getElem? (i := 827) (by decide +kernel), List.mem_of_getElem? (i := 828) (by decide +kernel)⟩
theorem lw_p27 : lw_okq (⟨"MovingExits$Acts", "isDraught", "(II)Z"⟩, 5) := ⟨⟨by decide +kernel, by decide +kernel⟩, List.mem_of_getElem? (i := 236) (by decide +kernel), List.mem_of_getElem? (i := 891) (by decide +kernel), List.mem_of_getElem? (i := 892) (by decide +kernel)⟩
theorem lw_p28 : lw_okq (⟨"MovingExits", "refusalOfSeen", "(I)I"⟩, 13) := ⟨⟨by decide +kernel, by decide +kernel⟩, List.mem_of_getElem? (i := 19) (by decide +kernel), List.mem_of_getElem? (i := 903) (by decide +kernel), List.mem_of_getElem? (i := 904) (by decide +kernel)⟩
theorem lw_p29 : lw_okq (⟨"MovingExits", "refusalOfRow", "(II)I"⟩, 13) := ⟨⟨by decide +kernel, by decide +kernel⟩, List.mem_of_getElem? (i := 19) (by decide +kernel), List.mem_of_getElem? (i := 907) (by decide +kernel), List.mem_of_getElem? (i := 908) (by decide +kernel)⟩
theorem lw_p30 : lw_okq (⟨"MovingExits$Clues", "leftByAsking", "(IJ)I"⟩, 2) := ⟨⟨by decide +kernel, by decide +kernel⟩, List.mem_of_getElem? (i := 262) (by decide +kernel), List.mem_of_getElem? (i := 945) (by decide +kernel), List.mem_of_getElem? (i := 946) (by decide +kernel)⟩
theorem lw_p31 : lw_okq (⟨"MovingExits", "refusalOfFell", "(I)I"⟩, 13) := ⟨⟨by decide +kernel, by decide +kernel⟩, List.mem_of_getElem? (i := 19) (by decide +kernel), List.mem_of_getElem? (i := 963) (by decide +kernel), List.mem_of_getElem? (i := 964) (by decide +kernel)⟩
def lw_privs_2 : List (MethodName × Nat) := [(⟨"MovingExits$Rush", "lookRound", "(I)V"⟩, 15), (⟨"MovingExits$Rush", "spotOrNone", "(II)I"⟩, 15), (⟨"MovingExits$Rush", "sendAll", "(I)V"⟩, 15), (⟨"MovingExits$Rush", "sendOne", "()Z"⟩, 15), (⟨"MovingExits$Rush", "canStillEnd", "(II)Z"⟩, 15), (⟨"MovingExits$Rush", "reach", "(II)V"⟩, 15), (⟨"MovingExits$Rush", "comeIn", "(I)V"⟩, 15), (⟨"MovingExits$Rush", "turnAsideFromExit", "(II)V"⟩, 15), (⟨"MovingExits$Rush", "goOut", "(I)I"⟩, 15), (⟨"MovingExits$Rush", "turnPaths", "(I)V"⟩, 15), (⟨"MovingExits$Rush", "fewestThinkable", "()I"⟩, 15), (⟨"MovingExits$Acts", "isDraught", "(II)Z"⟩, 5), (⟨"MovingExits", "refusalOfSeen", "(I)I"⟩, 13), (⟨"MovingExits", "refusalOfRow", "(II)I"⟩, 13), (⟨"MovingExits$Clues", "leftByAsking", "(IJ)I"⟩, 2), (⟨"MovingExits", "refusalOfFell", "(I)I"⟩, 13)]
theorem lw_r2 : ∀ q ∈ lw_privs_2, lw_okq q := List.forall_mem_cons.mpr ⟨lw_p16, List.forall_mem_cons.mpr ⟨lw_p17, List.forall_mem_cons.mpr ⟨lw_p18, List.forall_mem_cons.mpr ⟨lw_p19, List.forall_mem_cons.mpr ⟨lw_p20, List.forall_mem_cons.mpr ⟨lw_p21, List.forall_mem_cons.mpr ⟨lw_p22, List.forall_mem_cons.mpr ⟨lw_p23, List.forall_mem_cons.mpr ⟨lw_p24, List.forall_mem_cons.mpr ⟨lw_p25, List.forall_mem_cons.mpr ⟨lw_p26, List.forall_mem_cons.mpr ⟨lw_p27, List.forall_mem_cons.mpr ⟨lw_p28, List.forall_mem_cons.mpr ⟨lw_p29, List.forall_mem_cons.mpr ⟨lw_p30, List.forall_mem_cons.mpr ⟨lw_p31, fun _ h => absurd h List.not_mem_nil⟩⟩⟩⟩⟩⟩⟩⟩⟩⟩⟩⟩⟩⟩⟩⟩
theorem lw_p32 : lw_okq (⟨"MovingExits", "canDraw", "(II)Z"⟩, 13) := ⟨⟨by decide +kernel, by decide +kernel⟩, List.mem_of_getElem? (i := 19) (by decide +kernel), List.mem_of_getElem? (i := 1093) (by decide +kernel), List.mem_of_getElem? (i := 1094) (by decide +kernel)⟩
theorem lw_p33 : lw_okq (⟨"MovingExits$Crowd", "goesOut", "(III)V"⟩, 3) := ⟨⟨by decide +kernel, by decide +kernel⟩, List.mem_of_getElem? (i := 350) (by decide +kernel), List.mem_of_getElem? (i := 1107) (by decide +kernel), List.mem_of_getElem? (i := 1108) (by decide +kernel)⟩
theorem lw_p34 : lw_okq (⟨"MovingExits", "slotsWithRow", "()I"⟩, 13) := ⟨⟨by decide +kernel, by decide +kernel⟩, List.mem_of_getElem? (i := 19) (by decide +kernel), List.mem_of_getElem? (i := 1127) (by decide +kernel), List.mem_of_getElem? (i := 1128) (by decide +kernel)⟩
theorem lw_p35 : lw_okq (⟨"MovingExits$Slot", "cut", "(J)J"⟩, 3) := ⟨⟨by decide +kernel, by decide +kernel⟩, List.mem_of_getElem? (i := 176) (by decide +kernel), List.mem_of_getElem? (i := 1167) (by decide +kernel), List.mem_of_getElem? (i := 1168) (by decide +kernel)⟩
theorem lw_p36 : lw_okq (⟨"MovingExitsModel", "four", "(I)V"⟩, 36) := ⟨⟨by decide +kernel, by decide +kernel⟩, List.mem_of_getElem? (i := 1180) (by decide +kernel), List.mem_of_getElem? (i := 1321) (by decide +kernel), List.mem_of_getElem? (i := 1322) (by decide +kernel)⟩
theorem lw_p37 : lw_okq (⟨"MovingExitsModel", "clears", "()V"⟩, 36) := ⟨⟨by decide +kernel, by decide +kernel⟩, List.mem_of_getElem? (i := 1180) (by decide +kernel), List.mem_of_getElem? (i := 1337) (by decide +kernel), List.mem_of_getElem? (i := 1338) (by decide +kernel)⟩
theorem lw_p38 : lw_okq (⟨"MovingExitsModel", "begins", "()V"⟩, 36) := ⟨⟨by decide +kernel, by decide +kernel⟩, List.mem_of_getElem? (i := 1180) (by decide +kernel), List.mem_of_getElem? (i := 1341) (by decide +kernel), List.mem_of_getElem? (i := 1342) (by decide +kernel)⟩
theorem lw_p39 : lw_okq (⟨"MovingExitsModel", "next", "()V"⟩, 36) := ⟨⟨by decide +kernel, by decide +kernel⟩, List.mem_of_getElem? (i := 1180) (by decide +kernel), List.mem_of_getElem? (i := 1345) (by decide +kernel), List.mem_of_getElem? (i := 1346) (by decide +kernel)⟩
theorem lw_p40 : lw_okq (⟨"MovingExitsModel", "isByte", "(III)Z"⟩, 36) := ⟨⟨by decide +kernel, by decide +kernel⟩, List.mem_of_getElem? (i := 1180) (by decide +kernel), List.mem_of_getElem? (i := 1349) (by decide +kernel), List.mem_of_getElem? (i := 1350) (by decide +kernel)⟩
theorem lw_p41 : lw_okq (⟨"MovingExitsModel", "isGood", "()Z"⟩, 36) := ⟨⟨by decide +kernel, by decide +kernel⟩, List.mem_of_getElem? (i := 1180) (by decide +kernel), List.mem_of_getElem? (i := 1358) (by decide +kernel), List.mem_of_getElem? (i := 1359) (by decide +kernel)⟩
theorem lw_p42 : lw_okq (⟨"MovingExitsModel", "asks", "(J)V"⟩, 36) := ⟨⟨by decide +kernel, by decide +kernel⟩, List.mem_of_getElem? (i := 1180) (by decide +kernel), List.mem_of_getElem? (i := 1363) (by decide +kernel), List.mem_of_getElem? (i := 1364) (by decide +kernel)⟩
theorem lw_p43 : lw_okq (⟨"MovingExitsModel", "takes", "(J)Z"⟩, 36) := ⟨⟨by decide +kernel, by decide +kernel⟩, List.mem_of_getElem? (i := 1180) (by decide +kernel), List.mem_of_getElem? (i := 1367) (by decide +kernel), List.mem_of_getElem? (i := 1368) (by decide +kernel)⟩
theorem lw_p44 : lw_okq (⟨"MovingExitsModel", "is", "(J)Z"⟩, 36) := ⟨⟨by decide +kernel, by decide +kernel⟩, List.mem_of_getElem? (i := 1180) (by decide +kernel), List.mem_of_getElem? (i := 1371) (by decide +kernel), List.mem_of_getElem? (i := 1372) (by decide +kernel)⟩
theorem lw_p45 : lw_okq (⟨"MovingExitsModel", "fails", "(I)V"⟩, 36) := ⟨⟨by decide +kernel, by decide +kernel⟩, List.mem_of_getElem? (i := 1180) (by decide +kernel), List.mem_of_getElem? (i := 1375) (by decide +kernel), List.mem_of_getElem? (i := 1376) (by decide +kernel)⟩
theorem lw_p46 : lw_okq (⟨"MovingExitsModel", "number", "(JII)I"⟩, 36) := ⟨⟨by decide +kernel, by decide +kernel⟩, List.mem_of_getElem? (i := 1180) (by decide +kernel), List.mem_of_getElem? (i := 1380) (by decide +kernel), List.mem_of_getElem? (i := 1381) (by decide +kernel)⟩
theorem lw_p47 : lw_okq (⟨"MovingExitsModel", "number", "(II)I"⟩, 36) := ⟨⟨by decide +kernel, by decide +kernel⟩, List.mem_of_getElem? (i := 1180) (by decide +kernel), List.mem_of_getElem? (i := 1384) (by decide +kernel), List.mem_of_getElem? (i := 1385) (by decide +kernel)⟩
def lw_privs_3 : List (MethodName × Nat) := [(⟨"MovingExits", "canDraw", "(II)Z"⟩, 13), (⟨"MovingExits$Crowd", "goesOut", "(III)V"⟩, 3), (⟨"MovingExits", "slotsWithRow", "()I"⟩, 13), (⟨"MovingExits$Slot", "cut", "(J)J"⟩, 3), (⟨"MovingExitsModel", "four", "(I)V"⟩, 36), (⟨"MovingExitsModel", "clears", "()V"⟩, 36), (⟨"MovingExitsModel", "begins", "()V"⟩, 36), (⟨"MovingExitsModel", "next", "()V"⟩, 36), (⟨"MovingExitsModel", "isByte", "(III)Z"⟩, 36), (⟨"MovingExitsModel", "isGood", "()Z"⟩, 36), (⟨"MovingExitsModel", "asks", "(J)V"⟩, 36), (⟨"MovingExitsModel", "takes", "(J)Z"⟩, 36), (⟨"MovingExitsModel", "is", "(J)Z"⟩, 36), (⟨"MovingExitsModel", "fails", "(I)V"⟩, 36), (⟨"MovingExitsModel", "number", "(JII)I"⟩, 36), (⟨"MovingExitsModel", "number", "(II)I"⟩, 36)]
theorem lw_r3 : ∀ q ∈ lw_privs_3, lw_okq q := List.forall_mem_cons.mpr ⟨lw_p32, List.forall_mem_cons.mpr ⟨lw_p33, List.forall_mem_cons.mpr ⟨lw_p34, List.forall_mem_cons.mpr ⟨lw_p35, List.forall_mem_cons.mpr ⟨lw_p36, List.forall_mem_cons.mpr ⟨lw_p37, List.forall_mem_cons.mpr ⟨lw_p38, List.forall_mem_cons.mpr ⟨lw_p39, List.forall_mem_cons.mpr ⟨lw_p40, List.forall_mem_cons.mpr ⟨lw_p41, List.forall_mem_cons.mpr ⟨lw_p42, List.forall_mem_cons.mpr ⟨lw_p43, List.forall_mem_cons.mpr ⟨lw_p44, List.forall_mem_cons.mpr ⟨lw_p45, List.forall_mem_cons.mpr ⟨lw_p46, List.forall_mem_cons.mpr ⟨lw_p47, fun _ h => absurd h List.not_mem_nil⟩⟩⟩⟩⟩⟩⟩⟩⟩⟩⟩⟩⟩⟩⟩⟩
theorem lw_p48 : lw_okq (⟨"MovingExitsModel", "line", "()V"⟩, 36) := ⟨⟨by decide +kernel, by decide +kernel⟩, List.mem_of_getElem? (i := 1180) (by decide +kernel), List.mem_of_getElem? (i := 1390) (by decide +kernel), List.mem_of_getElem? (i := 1391) (by decide +kernel)⟩
theorem lw_p49 : lw_okq (⟨"MovingExitsModel", "hasRead", "(I)I"⟩, 36) := ⟨⟨by decide +kernel, by decide +kernel⟩, List.mem_of_getElem? (i := 1180) (by decide +kernel), List.mem_of_getElem? (i := 1396) (by decide +kernel), List.mem_of_getElem? (i := 1397) (by decide +kernel)⟩
theorem lw_p50 : lw_okq (⟨"MovingExitsModel", "placeLine", "()V"⟩, 36) := ⟨⟨by decide +kernel, by decide +kernel⟩, List.mem_of_getElem? (i := 1180) (by decide +kernel), List.mem_of_getElem? (i := 1400) (by decide +kernel), List.mem_of_getElem? (i := 1401) (by decide +kernel)⟩
theorem lw_p51 : lw_okq (⟨"MovingExitsModel", "rowHere", "()I"⟩, 36) := ⟨⟨by decide +kernel, by decide +kernel⟩, List.mem_of_getElem? (i := 1180) (by decide +kernel), List.mem_of_getElem? (i := 1404) (by decide +kernel), List.mem_of_getElem? (i := 1405) (by decide +kernel)⟩
theorem lw_p52 : lw_okq (⟨"MovingExitsModel", "placeAt", "(II)I"⟩, 36) := ⟨⟨by decide +kernel, by decide +kernel⟩, List.mem_of_getElem? (i := 1180) (by decide +kernel), List.mem_of_getElem? (i := 1408) (by decide +kernel), List.mem_of_getElem? (i := 1409) (by decide +kernel)⟩
theorem lw_p53 : lw_okq (⟨"MovingExitsModel", "seatHere", "()I"⟩, 36) := ⟨⟨by decide +kernel, by decide +kernel⟩, List.mem_of_getElem? (i := 1180) (by decide +kernel), List.mem_of_getElem? (i := 1412) (by decide +kernel), List.mem_of_getElem? (i := 1413) (by decide +kernel)⟩
theorem lw_p54 : lw_okq (⟨"MovingExitsModel", "exitLine", "()V"⟩, 36) := ⟨⟨by decide +kernel, by decide +kernel⟩, List.mem_of_getElem? (i := 1180) (by decide +kernel), List.mem_of_getElem? (i := 1418) (by decide +kernel), List.mem_of_getElem? (i := 1419) (by decide +kernel)⟩
theorem lw_p55 : lw_okq (⟨"MovingExitsModel", "hasExit", "(I)Z"⟩, 36) := ⟨⟨by decide +kernel, by decide +kernel⟩, List.mem_of_getElem? (i := 1180) (by decide +kernel), List.mem_of_getElem? (i := 1422) (by decide +kernel), List.mem_of_getElem? (i := 1423) (by decide +kernel)⟩
theorem lw_p56 : lw_okq (⟨"MovingExitsModel", "sitsLine", "()V"⟩, 36) := ⟨⟨by decide +kernel, by decide +kernel⟩, List.mem_of_getElem? (i := 1180) (by decide +kernel), List.mem_of_getElem? (i := 1429) (by decide +kernel), List.mem_of_getElem? (i := 1430) (by decide +kernel)⟩
theorem lw_p57 : lw_okq (⟨"MovingExitsModel", "ends", "()V"⟩, 36) := ⟨⟨by decide +kernel, by decide +kernel⟩, List.mem_of_getElem? (i := 1180) (by decide +kernel), List.mem_of_getElem? (i := 1433) (by decide +kernel), List.mem_of_getElem? (i := 1434) (by decide +kernel)⟩
theorem lw_p58 : lw_okq (⟨"MovingExitsModel", "isOver", "()V"⟩, 36) := ⟨⟨by decide +kernel, by decide +kernel⟩, List.mem_of_getElem? (i := 1180) (by decide +kernel), List.mem_of_getElem? (i := 1437) (by decide +kernel), List.mem_of_getElem? (i := 1438) (by decide +kernel)⟩
theorem lw_p59 : lw_okq (⟨"MovingExitsModel", "copyHall", "(II)V"⟩, 36) := ⟨⟨by decide +kernel, by decide +kernel⟩, List.mem_of_getElem? (i := 1180) (by decide +kernel), List.mem_of_getElem? (i := 1441) (by decide +kernel), List.mem_of_getElem? (i := 1442) (by decide +kernel)⟩
theorem lw_p60 : lw_okq (⟨"MovingExitsModel", "isPlace", "(J)Z"⟩, 36) := ⟨⟨by decide +kernel, by decide +kernel⟩, List.mem_of_getElem? (i := 1180) (by decide +kernel), List.mem_of_getElem? (i := 1452) (by decide +kernel), List.mem_of_getElem? (i := 1453) (by decide +kernel)⟩
theorem lw_p61 : lw_okq (⟨"MovingExitsModel", "of", "(II)I"⟩, 36) := ⟨⟨by decide +kernel, by decide +kernel⟩, List.mem_of_getElem? (i := 1180) (by decide +kernel), List.mem_of_getElem? (i := 1456) (by decide +kernel), List.mem_of_getElem? (i := 1457) (by decide +kernel)⟩
theorem lw_p62 : lw_okq (⟨"MovingExitsModel", "isExit", "(J)Z"⟩, 36) := ⟨⟨by decide +kernel, by decide +kernel⟩, List.mem_of_getElem? (i := 1180) (by decide +kernel), List.mem_of_getElem? (i := 1464) (by decide +kernel), List.mem_of_getElem? (i := 1465) (by decide +kernel)⟩
theorem lw_p63 : lw_okq (⟨"MovingExitsModel", "isSeat", "(JJ)Z"⟩, 36) := ⟨⟨by decide +kernel, by decide +kernel⟩, List.mem_of_getElem? (i := 1180) (by decide +kernel), List.mem_of_getElem? (i := 1472) (by decide +kernel), List.mem_of_getElem? (i := 1473) (by decide +kernel)⟩
def lw_privs_4 : List (MethodName × Nat) := [(⟨"MovingExitsModel", "line", "()V"⟩, 36), (⟨"MovingExitsModel", "hasRead", "(I)I"⟩, 36), (⟨"MovingExitsModel", "placeLine", "()V"⟩, 36), (⟨"MovingExitsModel", "rowHere", "()I"⟩, 36), (⟨"MovingExitsModel", "placeAt", "(II)I"⟩, 36), (⟨"MovingExitsModel", "seatHere", "()I"⟩, 36), (⟨"MovingExitsModel", "exitLine", "()V"⟩, 36), (⟨"MovingExitsModel", "hasExit", "(I)Z"⟩, 36), (⟨"MovingExitsModel", "sitsLine", "()V"⟩, 36), (⟨"MovingExitsModel", "ends", "()V"⟩, 36), (⟨"MovingExitsModel", "isOver", "()V"⟩, 36), (⟨"MovingExitsModel", "copyHall", "(II)V"⟩, 36), (⟨"MovingExitsModel", "isPlace", "(J)Z"⟩, 36), (⟨"MovingExitsModel", "of", "(II)I"⟩, 36), (⟨"MovingExitsModel", "isExit", "(J)Z"⟩, 36), (⟨"MovingExitsModel", "isSeat", "(JJ)Z"⟩, 36)]
theorem lw_r4 : ∀ q ∈ lw_privs_4, lw_okq q := List.forall_mem_cons.mpr ⟨lw_p48, List.forall_mem_cons.mpr ⟨lw_p49, List.forall_mem_cons.mpr ⟨lw_p50, List.forall_mem_cons.mpr ⟨lw_p51, List.forall_mem_cons.mpr ⟨lw_p52, List.forall_mem_cons.mpr ⟨lw_p53, List.forall_mem_cons.mpr ⟨lw_p54, List.forall_mem_cons.mpr ⟨lw_p55, List.forall_mem_cons.mpr ⟨lw_p56, List.forall_mem_cons.mpr ⟨lw_p57, List.forall_mem_cons.mpr ⟨lw_p58, List.forall_mem_cons.mpr ⟨lw_p59, List.forall_mem_cons.mpr ⟨lw_p60, List.forall_mem_cons.mpr ⟨lw_p61, List.forall_mem_cons.mpr ⟨lw_p62, List.forall_mem_cons.mpr ⟨lw_p63, fun _ h => absurd h List.not_mem_nil⟩⟩⟩⟩⟩⟩⟩⟩⟩⟩⟩⟩⟩⟩⟩⟩
theorem lw_p64 : lw_okq (⟨"MovingExitsModel", "isRow", "(J)Z"⟩, 36) := ⟨⟨by decide +kernel, by decide +kernel⟩, List.mem_of_getElem? (i := 1180) (by decide +kernel), List.mem_of_getElem? (i := 1476) (by decide +kernel), List.mem_of_getElem? (i := 1477) (by decide +kernel)⟩
theorem lw_p65 : lw_okq (⟨"MovingExitsModel", "isAct", "(I)Z"⟩, 36) := ⟨⟨by decide +kernel, by decide +kernel⟩, List.mem_of_getElem? (i := 1180) (by decide +kernel), List.mem_of_getElem? (i := 1484) (by decide +kernel), List.mem_of_getElem? (i := 1485) (by decide +kernel)⟩
theorem lw_p66 : lw_okq (⟨"MovingExitsModel", "isHall", "()Z"⟩, 36) := ⟨⟨by decide +kernel, by decide +kernel⟩, List.mem_of_getElem? (i := 1180) (by decide +kernel), List.mem_of_getElem? (i := 1488) (by decide +kernel), List.mem_of_getElem? (i := 1489) (by decide +kernel)⟩
theorem lw_p67 : lw_okq (⟨"MovingExitsModel", "lays", "()V"⟩, 36) := ⟨⟨by decide +kernel, by decide +kernel⟩, List.mem_of_getElem? (i := 1180) (by decide +kernel), List.mem_of_getElem? (i := 1493) (by decide +kernel), List.mem_of_getElem? (i := 1494) (by decide +kernel)⟩
theorem lw_p68 : lw_okq (⟨"MovingExitsModel", "goesTo", "(II)I"⟩, 36) := ⟨⟨by decide +kernel, by decide +kernel⟩, List.mem_of_getElem? (i := 1180) (by decide +kernel), List.mem_of_getElem? (i := 1497) (by decide +kernel), List.mem_of_getElem? (i := 1498) (by decide +kernel)⟩
theorem lw_p69 : lw_okq (⟨"MovingExitsModel", "stays", "(II)Z"⟩, 36) := ⟨⟨by decide +kernel, by decide +kernel⟩, List.mem_of_getElem? (i := 1180) (by decide +kernel), List.mem_of_getElem? (i := 1501) (by decide +kernel), List.mem_of_getElem? (i := 1502) (by decide +kernel)⟩
theorem lw_p70 : lw_okq (⟨"MovingExitsModel", "isStayed", "(II)Z"⟩, 36) := ⟨⟨by decide +kernel, by decide +kernel⟩, List.mem_of_getElem? (i := 1180) (by decide +kernel), List.mem_of_getElem? (i := 1505) (by decide +kernel), List.mem_of_getElem? (i := 1506) (by decide +kernel)⟩
theorem lw_p71 : lw_okq (⟨"MovingExitsModel", "placeOf", "(II)I"⟩, 36) := ⟨⟨by decide +kernel, by decide +kernel⟩, List.mem_of_getElem? (i := 1180) (by decide +kernel), List.mem_of_getElem? (i := 1509) (by decide +kernel), List.mem_of_getElem? (i := 1510) (by decide +kernel)⟩
theorem lw_p72 : lw_okq (⟨"MovingExitsModel", "whoOf", "(II)I"⟩, 36) := ⟨⟨by decide +kernel, by decide +kernel⟩, List.mem_of_getElem? (i := 1180) (by decide +kernel), List.mem_of_getElem? (i := 1517) (by decide +kernel), List.mem_of_getElem? (i := 1518) (by decide +kernel)⟩
theorem lw_p73 : lw_okq (⟨"MovingExitsModel", "behindOf", "(II)I"⟩, 36) := ⟨⟨by decide +kernel, by decide +kernel⟩, List.mem_of_getElem? (i := 1180) (by decide +kernel), List.mem_of_getElem? (i := 1525) (by decide +kernel), List.mem_of_getElem? (i := 1526) (by decide +kernel)⟩
theorem lw_p74 : lw_okq (⟨"MovingExitsModel", "doublesOf", "(I)I"⟩, 36) := ⟨⟨by decide +kernel, by decide +kernel⟩, List.mem_of_getElem? (i := 1180) (by decide +kernel), List.mem_of_getElem? (i := 1541) (by decide +kernel), List.mem_of_getElem? (i := 1542) (by decide +kernel)⟩
theorem lw_p75 : lw_okq (⟨"MovingExitsModel", "areAlike", "(II)Z"⟩, 36) := ⟨⟨by decide +kernel, by decide +kernel⟩, List.mem_of_getElem? (i := 1180) (by decide +kernel), List.mem_of_getElem? (i := 1556) (by decide +kernel), List.mem_of_getElem? (i := 1557) (by decide +kernel)⟩
theorem lw_p76 : lw_okq (⟨"MovingExitsModel", "farOf", "(III)I"⟩, 36) := ⟨⟨by decide +kernel, by decide +kernel⟩, List.mem_of_getElem? (i := 1180) (by decide +kernel), List.mem_of_getElem? (i := 1576) (by decide +kernel), List.mem_of_getElem? (i := 1577) (by decide +kernel)⟩
theorem lw_p77 : lw_okq (⟨"MovingExitsModel", "nearest", "(IIIZ)I"⟩, 36) := ⟨⟨by decide +kernel, by decide +kernel⟩, List.mem_of_getElem? (i := 1180) (by decide +kernel), List.mem_of_getElem? (i := 1580) (by decide +kernel), List.mem_of_getElem? (i := 1581) (by decide +kernel)⟩
theorem lw_p78 : lw_okq (⟨"MovingExitsModel", "isGoodExit", "(II)Z"⟩, 36) := ⟨⟨by decide +kernel, by decide +kernel⟩, List.mem_of_getElem? (i := 1180) (by decide +kernel), List.mem_of_getElem? (i := 1584) (by decide +kernel), List.mem_of_getElem? (i := 1585) (by decide +kernel)⟩
theorem lw_p79 : lw_okq (⟨"MovingExitsModel", "isGoodPlace", "(I)Z"⟩, 36) := ⟨⟨by decide +kernel, by decide +kernel⟩, List.mem_of_getElem? (i := 1180) (by decide +kernel), List.mem_of_getElem? (i := 1588) (by decide +kernel), List.mem_of_getElem? (i := 1589) (by decide +kernel)⟩
def lw_privs_5 : List (MethodName × Nat) := [(⟨"MovingExitsModel", "isRow", "(J)Z"⟩, 36), (⟨"MovingExitsModel", "isAct", "(I)Z"⟩, 36), (⟨"MovingExitsModel", "isHall", "()Z"⟩, 36), (⟨"MovingExitsModel", "lays", "()V"⟩, 36), (⟨"MovingExitsModel", "goesTo", "(II)I"⟩, 36), (⟨"MovingExitsModel", "stays", "(II)Z"⟩, 36), (⟨"MovingExitsModel", "isStayed", "(II)Z"⟩, 36), (⟨"MovingExitsModel", "placeOf", "(II)I"⟩, 36), (⟨"MovingExitsModel", "whoOf", "(II)I"⟩, 36), (⟨"MovingExitsModel", "behindOf", "(II)I"⟩, 36), (⟨"MovingExitsModel", "doublesOf", "(I)I"⟩, 36), (⟨"MovingExitsModel", "areAlike", "(II)Z"⟩, 36), (⟨"MovingExitsModel", "farOf", "(III)I"⟩, 36), (⟨"MovingExitsModel", "nearest", "(IIIZ)I"⟩, 36), (⟨"MovingExitsModel", "isGoodExit", "(II)Z"⟩, 36), (⟨"MovingExitsModel", "isGoodPlace", "(I)Z"⟩, 36)]
theorem lw_r5 : ∀ q ∈ lw_privs_5, lw_okq q := List.forall_mem_cons.mpr ⟨lw_p64, List.forall_mem_cons.mpr ⟨lw_p65, List.forall_mem_cons.mpr ⟨lw_p66, List.forall_mem_cons.mpr ⟨lw_p67, List.forall_mem_cons.mpr ⟨lw_p68, List.forall_mem_cons.mpr ⟨lw_p69, List.forall_mem_cons.mpr ⟨lw_p70, List.forall_mem_cons.mpr ⟨lw_p71, List.forall_mem_cons.mpr ⟨lw_p72, List.forall_mem_cons.mpr ⟨lw_p73, List.forall_mem_cons.mpr ⟨lw_p74, List.forall_mem_cons.mpr ⟨lw_p75, List.forall_mem_cons.mpr ⟨lw_p76, List.forall_mem_cons.mpr ⟨lw_p77, List.forall_mem_cons.mpr ⟨lw_p78, List.forall_mem_cons.mpr ⟨lw_p79, fun _ h => absurd h List.not_mem_nil⟩⟩⟩⟩⟩⟩⟩⟩⟩⟩⟩⟩⟩⟩⟩⟩
theorem lw_p80 : lw_okq (⟨"MovingExitsModel", "stepsTo", "(III)I"⟩, 36) := ⟨⟨by decide +kernel, by decide +kernel⟩, List.mem_of_getElem? (i := 1180) (by decide +kernel), List.mem_of_getElem? (i := 1592) (by decide +kernel), List.mem_of_getElem? (i := 1593) (by decide +kernel)⟩
theorem lw_p81 : lw_okq (⟨"MovingExitsModel", "fallsOf", "(III)I"⟩, 36) := ⟨⟨by decide +kernel, by decide +kernel⟩, List.mem_of_getElem? (i := 1180) (by decide +kernel), List.mem_of_getElem? (i := 1607) (by decide +kernel), List.mem_of_getElem? (i := 1608) (by decide +kernel)⟩
theorem lw_p82 : lw_okq (⟨"MovingExitsModel", "worstOf", "(I)I"⟩, 36) := ⟨⟨by decide +kernel, by decide +kernel⟩, List.mem_of_getElem? (i := 1180) (by decide +kernel), List.mem_of_getElem? (i := 1619) (by decide +kernel), List.mem_of_getElem? (i := 1620) (by decide +kernel)⟩
theorem lw_p83 : lw_okq (⟨"MovingExitsModel", "isLawful", "(I)Z"⟩, 36) := ⟨⟨by decide +kernel, by decide +kernel⟩, List.mem_of_getElem? (i := 1180) (by decide +kernel), List.mem_of_getElem? (i := 1627) (by decide +kernel), List.mem_of_getElem? (i := 1628) (by decide +kernel)⟩
theorem lw_p84 : lw_okq (⟨"MovingExitsModel", "laysDoors", "(II)V"⟩, 36) := ⟨⟨by decide +kernel, by decide +kernel⟩, List.mem_of_getElem? (i := 1180) (by decide +kernel), List.mem_of_getElem? (i := 1648) (by decide +kernel), List.mem_of_getElem? (i := 1649) (by decide +kernel)⟩
theorem lw_p85 : lw_okq (⟨"MovingExitsModel", "outsOf", "(I)I"⟩, 36) := ⟨⟨by decide +kernel, by decide +kernel⟩, List.mem_of_getElem? (i := 1180) (by decide +kernel), List.mem_of_getElem? (i := 1652) (by decide +kernel), List.mem_of_getElem? (i := 1653) (by decide +kernel)⟩
theorem lw_p86 : lw_okq (⟨"MovingExitsModel", "seeks", "(I)I"⟩, 36) := ⟨⟨by decide +kernel, by decide +kernel⟩, List.mem_of_getElem? (i := 1180) (by decide +kernel), List.mem_of_getElem? (i := 1656) (by decide +kernel), List.mem_of_getElem? (i := 1657) (by decide +kernel)⟩
theorem lw_p87 : lw_okq (⟨"MovingExitsModel", "visits", "(III)V"⟩, 36) := ⟨⟨by decide +kernel, by decide +kernel⟩, List.mem_of_getElem? (i := 1180) (by decide +kernel), List.mem_of_getElem? (i := 1663) (by decide +kernel), List.mem_of_getElem? (i := 1664) (by decide +kernel)⟩
theorem lw_p88 : lw_okq (⟨"MovingExitsModel", "holds", "(I)I"⟩, 36) := ⟨⟨by decide +kernel, by decide +kernel⟩, List.mem_of_getElem? (i := 1180) (by decide +kernel), List.mem_of_getElem? (i := 1667) (by decide +kernel), List.mem_of_getElem? (i := 1668) (by decide +kernel)⟩
theorem lw_p89 : lw_okq (⟨"MovingExitsModel", "beside", "(II)I"⟩, 36) := ⟨⟨by decide +kernel, by decide +kernel⟩, List.mem_of_getElem? (i := 1180) (by decide +kernel), List.mem_of_getElem? (i := 1671) (by decide +kernel), List.mem_of_getElem? (i := 1672) (by decide +kernel)⟩
theorem lw_p90 : lw_okq (⟨"MovingExitsModel", "goesOut", "(I)V"⟩, 36) := ⟨⟨by decide +kernel, by decide +kernel⟩, List.mem_of_getElem? (i := 1180) (by decide +kernel), List.mem_of_getElem? (i := 1675) (by decide +kernel), List.mem_of_getElem? (i := 1676) (by decide +kernel)⟩
theorem lw_p91 : lw_okq (⟨"MovingExitsModel", "soonestOf", "(II)I"⟩, 36) := ⟨⟨by decide +kernel, by decide +kernel⟩, List.mem_of_getElem? (i := 1180) (by decide +kernel), List.mem_of_getElem? (i := 1683) (by decide +kernel), List.mem_of_getElem? (i := 1684) (by decide +kernel)⟩
theorem lw_p92 : lw_okq (⟨"MovingExitsModel", "sitters", "()I"⟩, 36) := ⟨⟨by decide +kernel, by decide +kernel⟩, List.mem_of_getElem? (i := 1180) (by decide +kernel), List.mem_of_getElem? (i := 1687) (by decide +kernel), List.mem_of_getElem? (i := 1688) (by decide +kernel)⟩
theorem lw_p93 : lw_okq (⟨"MovingExitsModel", "standOf", "(I)I"⟩, 36) := ⟨⟨by decide +kernel, by decide +kernel⟩, List.mem_of_getElem? (i := 1180) (by decide +kernel), List.mem_of_getElem? (i := 1705) (by decide +kernel), List.mem_of_getElem? (i := 1706) (by decide +kernel)⟩
theorem lw_p94 : lw_okq (⟨"MovingExitsModel", "areGood", "(I)Z"⟩, 36) := ⟨⟨by decide +kernel, by decide +kernel⟩, List.mem_of_getElem? (i := 1180) (by decide +kernel), List.mem_of_getElem? (i := 1709) (by decide +kernel), List.mem_of_getElem? (i := 1710) (by decide +kernel)⟩
theorem lw_p95 : lw_okq (⟨"MovingExitsModel", "worstBy", "(I)I"⟩, 36) := ⟨⟨by decide +kernel, by decide +kernel⟩, List.mem_of_getElem? (i := 1180) (by decide +kernel), List.mem_of_getElem? (i := 1716) (by decide +kernel), List.mem_of_getElem? (i := 1717) (by decide +kernel)⟩
def lw_privs_6 : List (MethodName × Nat) := [(⟨"MovingExitsModel", "stepsTo", "(III)I"⟩, 36), (⟨"MovingExitsModel", "fallsOf", "(III)I"⟩, 36), (⟨"MovingExitsModel", "worstOf", "(I)I"⟩, 36), (⟨"MovingExitsModel", "isLawful", "(I)Z"⟩, 36), (⟨"MovingExitsModel", "laysDoors", "(II)V"⟩, 36), (⟨"MovingExitsModel", "outsOf", "(I)I"⟩, 36), (⟨"MovingExitsModel", "seeks", "(I)I"⟩, 36), (⟨"MovingExitsModel", "visits", "(III)V"⟩, 36), (⟨"MovingExitsModel", "holds", "(I)I"⟩, 36), (⟨"MovingExitsModel", "beside", "(II)I"⟩, 36), (⟨"MovingExitsModel", "goesOut", "(I)V"⟩, 36), (⟨"MovingExitsModel", "soonestOf", "(II)I"⟩, 36), (⟨"MovingExitsModel", "sitters", "()I"⟩, 36), (⟨"MovingExitsModel", "standOf", "(I)I"⟩, 36), (⟨"MovingExitsModel", "areGood", "(I)Z"⟩, 36), (⟨"MovingExitsModel", "worstBy", "(I)I"⟩, 36)]
theorem lw_r6 : ∀ q ∈ lw_privs_6, lw_okq q := List.forall_mem_cons.mpr ⟨lw_p80, List.forall_mem_cons.mpr ⟨lw_p81, List.forall_mem_cons.mpr ⟨lw_p82, List.forall_mem_cons.mpr ⟨lw_p83, List.forall_mem_cons.mpr ⟨lw_p84, List.forall_mem_cons.mpr ⟨lw_p85, List.forall_mem_cons.mpr ⟨lw_p86, List.forall_mem_cons.mpr ⟨lw_p87, List.forall_mem_cons.mpr ⟨lw_p88, List.forall_mem_cons.mpr ⟨lw_p89, List.forall_mem_cons.mpr ⟨lw_p90, List.forall_mem_cons.mpr ⟨lw_p91, List.forall_mem_cons.mpr ⟨lw_p92, List.forall_mem_cons.mpr ⟨lw_p93, List.forall_mem_cons.mpr ⟨lw_p94, List.forall_mem_cons.mpr ⟨lw_p95, fun _ h => absurd h List.not_mem_nil⟩⟩⟩⟩⟩⟩⟩⟩⟩⟩⟩⟩⟩⟩⟩⟩
theorem lw_p96 : lw_okq (⟨"MovingExitsModel", "windOf", "(I)I"⟩, 36) := ⟨⟨by decide +kernel, by decide +kernel⟩, List.mem_of_getElem? (i := 1180) (by decide +kernel), List.mem_of_getElem? (i := 1732) (by decide +kernel), List.mem_of_getElem? (i := 1733) (by decide +kernel)⟩
theorem lw_p97 : lw_okq (⟨"MovingExitsModel", "whyNotSeen", "(I)I"⟩, 36) := ⟨⟨by decide +kernel, by decide +kernel⟩, List.mem_of_getElem? (i := 1180) (by decide +kernel), List.mem_of_getElem? (i := 1744) (by decide +kernel), List.mem_of_getElem? (i := 1745) (by decide +kernel)⟩
theorem lw_p98 : lw_okq (⟨"MovingExitsModel", "cellOf", "(II)J"⟩, 36) := ⟨⟨by decide +kernel, by decide +kernel⟩, List.mem_of_getElem? (i := 1180) (by decide +kernel), List.mem_of_getElem? (i := 1748) (by decide +kernel), List.mem_of_getElem? (i := 1749) (by decide +kernel)⟩
theorem lw_p99 : lw_okq (⟨"MovingExitsModel", "isSeen", "(II)Z"⟩, 36) := ⟨⟨by decide +kernel, by decide +kernel⟩, List.mem_of_getElem? (i := 1180) (by decide +kernel), List.mem_of_getElem? (i := 1752) (by decide +kernel), List.mem_of_getElem? (i := 1753) (by decide +kernel)⟩
theorem lw_p100 : lw_okq (⟨"MovingExitsModel", "asksOf", "(I)I"⟩, 36) := ⟨⟨by decide +kernel, by decide +kernel⟩, List.mem_of_getElem? (i := 1180) (by decide +kernel), List.mem_of_getElem? (i := 1760) (by decide +kernel), List.mem_of_getElem? (i := 1761) (by decide +kernel)⟩
theorem lw_p101 : lw_okq (⟨"MovingExitsModel", "whyNotFell", "(I)I"⟩, 36) := ⟨⟨by decide +kernel, by decide +kernel⟩, List.mem_of_getElem? (i := 1180) (by decide +kernel), List.mem_of_getElem? (i := 1772) (by decide +kernel), List.mem_of_getElem? (i := 1773) (by decide +kernel)⟩
theorem lw_p102 : lw_okq (⟨"MovingExitsModel", "isFell", "(II)Z"⟩, 36) := ⟨⟨by decide +kernel, by decide +kernel⟩, List.mem_of_getElem? (i := 1180) (by decide +kernel), List.mem_of_getElem? (i := 1776) (by decide +kernel), List.mem_of_getElem? (i := 1777) (by decide +kernel)⟩
theorem lw_p103 : lw_okq (⟨"MovingExitsModel", "knownOf", "(III)I"⟩, 36) := ⟨⟨by decide +kernel, by decide +kernel⟩, List.mem_of_getElem? (i := 1180) (by decide +kernel), List.mem_of_getElem? (i := 1792) (by decide +kernel), List.mem_of_getElem? (i := 1793) (by decide +kernel)⟩
theorem lw_p104 : lw_okq (⟨"MovingExitsModel", "blindOf", "(III)I"⟩, 36) := ⟨⟨by decide +kernel, by decide +kernel⟩, List.mem_of_getElem? (i := 1180) (by decide +kernel), List.mem_of_getElem? (i := 1800) (by decide +kernel), List.mem_of_getElem? (i := 1801) (by decide +kernel)⟩
theorem lw_p105 : lw_okq (⟨"MovingExitsModel", "isGoodNow", "(II)Z"⟩, 36) := ⟨⟨by decide +kernel, by decide +kernel⟩, List.mem_of_getElem? (i := 1180) (by decide +kernel), List.mem_of_getElem? (i := 1804) (by decide +kernel), List.mem_of_getElem? (i := 1805) (by decide +kernel)⟩
theorem lw_p106 : lw_okq (⟨"MovingExitsModel", "luredOf", "(II)I"⟩, 36) := ⟨⟨by decide +kernel, by decide +kernel⟩, List.mem_of_getElem? (i := 1180) (by decide +kernel), List.mem_of_getElem? (i := 1820) (by decide +kernel), List.mem_of_getElem? (i := 1821) (by decide +kernel)⟩
theorem lw_p107 : lw_okq (⟨"MovingExitsModel", "claques", "(II)V"⟩, 36) := ⟨⟨by decide +kernel, by decide +kernel⟩, List.mem_of_getElem? (i := 1180) (by decide +kernel), List.mem_of_getElem? (i := 1832) (by decide +kernel), List.mem_of_getElem? (i := 1833) (by decide +kernel)⟩
theorem lw_p108 : lw_okq (⟨"MovingExitsModel", "changes", "(IIII)V"⟩, 36) := ⟨⟨by decide +kernel, by decide +kernel⟩, List.mem_of_getElem? (i := 1180) (by decide +kernel), List.mem_of_getElem? (i := 1845) (by decide +kernel), List.mem_of_getElem? (i := 1846) (by decide +kernel)⟩
theorem lw_p109 : lw_okq (⟨"MovingExitsModel", "isDraw", "(II)Z"⟩, 36) := ⟨⟨by decide +kernel, by decide +kernel⟩, List.mem_of_getElem? (i := 1180) (by decide +kernel), List.mem_of_getElem? (i := 1865) (by decide +kernel), List.mem_of_getElem? (i := 1866) (by decide +kernel)⟩
theorem lw_p110 : lw_okq (⟨"MovingExitsModel", "draws", "(JI)V"⟩, 36) := ⟨⟨by decide +kernel, by decide +kernel⟩, List.mem_of_getElem? (i := 1180) (by decide +kernel), List.mem_of_getElem? (i := 1871) (by decide +kernel), List.mem_of_getElem? (i := 1872) (by decide +kernel)⟩
def lw_privs_7 : List (MethodName × Nat) := [(⟨"MovingExitsModel", "windOf", "(I)I"⟩, 36), (⟨"MovingExitsModel", "whyNotSeen", "(I)I"⟩, 36), (⟨"MovingExitsModel", "cellOf", "(II)J"⟩, 36), (⟨"MovingExitsModel", "isSeen", "(II)Z"⟩, 36), (⟨"MovingExitsModel", "asksOf", "(I)I"⟩, 36), (⟨"MovingExitsModel", "whyNotFell", "(I)I"⟩, 36), (⟨"MovingExitsModel", "isFell", "(II)Z"⟩, 36), (⟨"MovingExitsModel", "knownOf", "(III)I"⟩, 36), (⟨"MovingExitsModel", "blindOf", "(III)I"⟩, 36), (⟨"MovingExitsModel", "isGoodNow", "(II)Z"⟩, 36), (⟨"MovingExitsModel", "luredOf", "(II)I"⟩, 36), (⟨"MovingExitsModel", "claques", "(II)V"⟩, 36), (⟨"MovingExitsModel", "changes", "(IIII)V"⟩, 36), (⟨"MovingExitsModel", "isDraw", "(II)Z"⟩, 36), (⟨"MovingExitsModel", "draws", "(JI)V"⟩, 36)]
theorem lw_r7 : ∀ q ∈ lw_privs_7, lw_okq q := List.forall_mem_cons.mpr ⟨lw_p96, List.forall_mem_cons.mpr ⟨lw_p97, List.forall_mem_cons.mpr ⟨lw_p98, List.forall_mem_cons.mpr ⟨lw_p99, List.forall_mem_cons.mpr ⟨lw_p100, List.forall_mem_cons.mpr ⟨lw_p101, List.forall_mem_cons.mpr ⟨lw_p102, List.forall_mem_cons.mpr ⟨lw_p103, List.forall_mem_cons.mpr ⟨lw_p104, List.forall_mem_cons.mpr ⟨lw_p105, List.forall_mem_cons.mpr ⟨lw_p106, List.forall_mem_cons.mpr ⟨lw_p107, List.forall_mem_cons.mpr ⟨lw_p108, List.forall_mem_cons.mpr ⟨lw_p109, List.forall_mem_cons.mpr ⟨lw_p110, fun _ h => absurd h List.not_mem_nil⟩⟩⟩⟩⟩⟩⟩⟩⟩⟩⟩⟩⟩⟩⟩
def lw_privs : List (MethodName × Nat) := lw_privs_1 ++ (lw_privs_2 ++ (lw_privs_3 ++ (lw_privs_4 ++ (lw_privs_5 ++ (lw_privs_6 ++ (lw_privs_7))))))
def lw_tbl : List Cond := k2_sels lw_privs ++ tables_1
theorem lw_privs_ok : ∀ q ∈ lw_privs, lw_okq q := by
  show ∀ q ∈ lw_privs_1 ++ (lw_privs_2 ++ (lw_privs_3 ++ (lw_privs_4 ++ (lw_privs_5 ++ (lw_privs_6 ++ (lw_privs_7)))))), lw_okq q
  exact List.forall_mem_append.mpr ⟨lw_r1, List.forall_mem_append.mpr ⟨lw_r2, List.forall_mem_append.mpr ⟨lw_r3, List.forall_mem_append.mpr ⟨lw_r4, List.forall_mem_append.mpr ⟨lw_r5, List.forall_mem_append.mpr ⟨lw_r6, lw_r7⟩⟩⟩⟩⟩⟩
-- ===== end of PART A; then your names; then what follows =====
end
section
/-! ===== BEGIN words of one list among another's, by their places ===== -/
theorem goodIn_r {big : List Cond} (ws : List Cond) (ps : List Nat) (hp : ws = ps.filterMap (fun i => big[i]?)) (h : ws.all goodWord = true) : GoodIn big ws := by
  intro w hw
  have h1 := List.all_eq_true.mp h w hw
  rw [hp] at hw
  obtain ⟨i, -, hi⟩ := List.mem_filterMap.mp hw
  have hm : w ∈ big := by first | exact List.mem_of_getElem? hi | exact List.getElem?_mem hi
  exact ⟨hm, good_of_word h1⟩
theorem goodIn_app {big a b : List Cond} (ha : GoodIn big a) (hb : GoodIn big b) : GoodIn big (a ++ b) := fun w h => (List.mem_append.mp h).elim (ha w) (hb w)
theorem goodIn_ca {big a b : List Cond} {c : Cond} (ha : GoodIn big (c :: a)) (hb : GoodIn big b) : GoodIn big (c :: (a ++ b)) := fun w h => (List.mem_cons.mp h).elim (fun e => ha w (List.mem_cons.mpr (Or.inl e))) (fun h => (List.mem_append.mp h).elim (fun h => ha w (List.mem_cons.mpr (Or.inr h))) (hb w))
theorem goodIn_sub {big ws : List Cond} (hm : ∀ w ∈ ws, w ∈ big) (h : ws.all goodWord = true) : GoodIn big ws := fun w hw => ⟨hm w hw, good_of_word (List.all_eq_true.mp h w hw)⟩
/-! ===== END ===== -/

/-! ===== BEGIN printed: names, fields, word lists, decode rows ===== -/
def RX0 : String := "MovingExits$Acts"
def TX0 : u_T := fun k => match k with
  | 0 => ("MovingExits$Acts", "hall", "LMovingExits$Hall;", false)
  | 1 => ("MovingExits$Acts", "placeIn", "[I", true)
  | 2 => ("MovingExits$Acts", "isPaced", "[Z", true)
  | 3 => ("MovingExits$Acts", "goodSteps", "[I", true)
  | _ => ("MovingExits$Acts", "nearestBehind", "[I", true)
def tyX0 : Nat → FieldType := fun k => match k with
  | 0 => .object "MovingExits$Hall"
  | 1 => .array .int
  | 2 => .array .boolean
  | 3 => .array .int
  | _ => .array .int
abbrev wsX00 : List Cond := u_ws RX0 TX0 5
theorem nmX0 : ∀ a, a < 5 → ∀ b, b < 5 → a ≠ b → (TX0 a).2.1 ≠ (TX0 b).2.1 := by decide +kernel
theorem tyX0_ok : ∀ k, k < 5 → parseFieldDescriptor (TX0 k).2.2.1 = some (tyX0 k) := by decide +kernel
abbrev cX0_init : ByteArray := prog_2_method_1_code
def yX0_init : MethodName := ⟨RX0, "<init>", "(LMovingExits$Hall;)V"⟩
abbrev cX0_play : ByteArray := prog_2_method_2_code
def yX0_play : MethodName := ⟨RX0, "play", "(LMovingExits$Hall;)V"⟩
abbrev cX0_turnScrews : ByteArray := prog_2_method_3_code
def yX0_turnScrews : MethodName := ⟨RX0, "turnScrews", "(I)V"⟩
abbrev cX0_staysAsKings : ByteArray := prog_2_method_4_code
def yX0_staysAsKings : MethodName := ⟨RX0, "staysAsKings", "(II)Z"⟩
abbrev cX0_placeOf : ByteArray := prog_2_method_5_code
def yX0_placeOf : MethodName := ⟨RX0, "placeOf", "(II)I"⟩
abbrev cX0_behindOf : ByteArray := prog_2_method_6_code
def yX0_behindOf : MethodName := ⟨RX0, "behindOf", "(II)I"⟩
abbrev cX0_isGoodExit : ByteArray := prog_2_method_7_code
def yX0_isGoodExit : MethodName := ⟨RX0, "isGoodExit", "(II)Z"⟩
abbrev cX0_exitsAt : ByteArray := prog_2_method_8_code
def yX0_exitsAt : MethodName := ⟨RX0, "exitsAt", "(II)I"⟩
abbrev cX0_exitsTo : ByteArray := prog_2_method_9_code
def yX0_exitsTo : MethodName := ⟨RX0, "exitsTo", "(II)I"⟩
abbrev cX0_doubledPlaces : ByteArray := prog_2_method_10_code
def yX0_doubledPlaces : MethodName := ⟨RX0, "doubledPlaces", "(I)I"⟩
abbrev cX0_areAlike : ByteArray := prog_2_method_11_code
def yX0_areAlike : MethodName := ⟨RX0, "areAlike", "(II)Z"⟩
abbrev cX0_isRepeated : ByteArray := prog_2_method_12_code
def yX0_isRepeated : MethodName := ⟨RX0, "isRepeated", "(I)Z"⟩
abbrev cX0_paced : ByteArray := prog_2_method_13_code
def yX0_paced : MethodName := ⟨RX0, "paced", "(II)I"⟩
abbrev cX0_paceAll : ByteArray := prog_2_method_14_code
def yX0_paceAll : MethodName := ⟨RX0, "paceAll", "(I)V"⟩
abbrev cX0_stepsOut : ByteArray := prog_2_method_15_code
def yX0_stepsOut : MethodName := ⟨RX0, "stepsOut", "(II)I"⟩
abbrev cX0_fallsTo : ByteArray := prog_2_method_16_code
def yX0_fallsTo : MethodName := ⟨RX0, "fallsTo", "(II)I"⟩
abbrev cX0_nearestGood : ByteArray := prog_2_method_17_code
def yX0_nearestGood : MethodName := ⟨RX0, "nearestGood", "(II)I"⟩
abbrev cX0_bestSeat : ByteArray := prog_2_method_18_code
def yX0_bestSeat : MethodName := ⟨RX0, "bestSeat", "(I)I"⟩
abbrev cX0_farthestSteps : ByteArray := prog_2_method_19_code
def yX0_farthestSteps : MethodName := ⟨RX0, "farthestSteps", "(I)I"⟩
abbrev cX0_isLawful : ByteArray := prog_2_method_20_code
def yX0_isLawful : MethodName := ⟨RX0, "isLawful", "(I)Z"⟩
abbrev cX0_windyPairs : ByteArray := prog_2_method_21_code
def yX0_windyPairs : MethodName := ⟨RX0, "windyPairs", "(I)I"⟩
abbrev cX0_isDraught : ByteArray := prog_2_method_22_code
def yX0_isDraught : MethodName := ⟨RX0, "isDraught", "(II)Z"⟩
abbrev cX0_luredTo : ByteArray := prog_2_method_23_code
def yX0_luredTo : MethodName := ⟨RX0, "luredTo", "(II)I"⟩
abbrev cX0_goesTillOut : ByteArray := prog_2_method_24_code
def yX0_goesTillOut : MethodName := ⟨RX0, "goesTillOut", "(II)I"⟩
def RX1 : String := "MovingExits$Changes"
def TX1 : u_T := fun k => match k with
  | 0 => ("MovingExits$Changes", "size", "I", false)
  | 1 => ("MovingExits$Changes", "kind", "[I", true)
  | 2 => ("MovingExits$Changes", "which", "[I", true)
  | 3 => ("MovingExits$Changes", "first", "[I", true)
  | _ => ("MovingExits$Changes", "second", "[I", true)
def tyX1 : Nat → FieldType := fun k => match k with
  | 0 => .int
  | 1 => .array .int
  | 2 => .array .int
  | 3 => .array .int
  | _ => .array .int
abbrev wsX10 : List Cond := u_ws RX1 TX1 5
theorem nmX1 : ∀ a, a < 5 → ∀ b, b < 5 → a ≠ b → (TX1 a).2.1 ≠ (TX1 b).2.1 := by decide +kernel
theorem tyX1_ok : ∀ k, k < 5 → parseFieldDescriptor (TX1 k).2.2.1 = some (tyX1 k) := by decide +kernel
abbrev cX1_init : ByteArray := prog_3_method_1_code
def yX1_init : MethodName := ⟨RX1, "<init>", "()V"⟩
abbrev cX1_isFull : ByteArray := prog_3_method_2_code
def yX1_isFull : MethodName := ⟨RX1, "isFull", "()Z"⟩
abbrev cX1_add : ByteArray := prog_3_method_3_code
def yX1_add : MethodName := ⟨RX1, "add", "(IIII)V"⟩
abbrev cX1_keep : ByteArray := prog_3_method_4_code
def yX1_keep : MethodName := ⟨RX1, "keep", "(LMovingExits$Changes;)V"⟩
def RX2 : String := "MovingExits$Clues"
def TX2 : u_T := fun k => match k with
  | 0 => ("MovingExits$Clues", "acts", "LMovingExits$Acts;", true)
  | _ => ("MovingExits$Clues", "actsWith", "[I", true)
def tyX2 : Nat → FieldType := fun k => match k with
  | 0 => .object "MovingExits$Acts"
  | _ => .array .int
abbrev wsX20 : List Cond := u_ws RX2 TX2 2
theorem nmX2 : ∀ a, a < 2 → ∀ b, b < 2 → a ≠ b → (TX2 a).2.1 ≠ (TX2 b).2.1 := by decide +kernel
theorem tyX2_ok : ∀ k, k < 2 → parseFieldDescriptor (TX2 k).2.2.1 = some (tyX2 k) := by decide +kernel
abbrev cX2_init : ByteArray := prog_4_method_1_code
def yX2_init : MethodName := ⟨RX2, "<init>", "(LMovingExits$Acts;)V"⟩
abbrev cX2_areExitsAndPlaces : ByteArray := prog_4_method_2_code
def yX2_areExitsAndPlaces : MethodName := ⟨RX2, "areExitsAndPlaces", "(LMovingExits$Slot;)Z"⟩
abbrev cX2_areSeatsAndBehinds : ByteArray := prog_4_method_3_code
def yX2_areSeatsAndBehinds : MethodName := ⟨RX2, "areSeatsAndBehinds", "(LMovingExits$Slot;)Z"⟩
abbrev cX2_actsSeen : ByteArray := prog_4_method_4_code
def yX2_actsSeen : MethodName := ⟨RX2, "actsSeen", "(LMovingExits$Slot;)J"⟩
abbrev cX2_actsFell : ByteArray := prog_4_method_5_code
def yX2_actsFell : MethodName := ⟨RX2, "actsFell", "(LMovingExits$Slot;)J"⟩
abbrev cX2_bestQuestion : ByteArray := prog_4_method_6_code
def yX2_bestQuestion : MethodName := ⟨RX2, "bestQuestion", "(J)I"⟩
abbrev cX2_leftAtWorst : ByteArray := prog_4_method_7_code
def yX2_leftAtWorst : MethodName := ⟨RX2, "leftAtWorst", "(J)I"⟩
abbrev cX2_leftByAsking : ByteArray := prog_4_method_8_code
def yX2_leftByAsking : MethodName := ⟨RX2, "leftByAsking", "(IJ)I"⟩
abbrev cX2_onlyPlace : ByteArray := prog_4_method_9_code
def yX2_onlyPlace : MethodName := ⟨RX2, "onlyPlace", "(IJ)I"⟩
def RX3 : String := "MovingExits$Crowd"
def TX3 : u_T := fun k => match k with
  | 0 => ("MovingExits$Crowd", "comers", "[I", true)
  | 1 => ("MovingExits$Crowd", "steps", "I", false)
  | _ => ("MovingExits$Crowd", "acts", "LMovingExits$Acts;", true)
def tyX3 : Nat → FieldType := fun k => match k with
  | 0 => .array .int
  | 1 => .int
  | _ => .object "MovingExits$Acts"
abbrev wsX30 : List Cond := u_ws RX3 TX3 3
theorem nmX3 : ∀ a, a < 3 → ∀ b, b < 3 → a ≠ b → (TX3 a).2.1 ≠ (TX3 b).2.1 := by decide +kernel
theorem tyX3_ok : ∀ k, k < 3 → parseFieldDescriptor (TX3 k).2.2.1 = some (tyX3 k) := by decide +kernel
abbrev cX3_init : ByteArray := prog_5_method_1_code
def yX3_init : MethodName := ⟨RX3, "<init>", "(LMovingExits$Acts;)V"⟩
abbrev cX3_draw : ByteArray := prog_5_method_2_code
def yX3_draw : MethodName := ⟨RX3, "draw", "(JI)V"⟩
abbrev cX3_goesOut : ByteArray := prog_5_method_3_code
def yX3_goesOut : MethodName := ⟨RX3, "goesOut", "(III)V"⟩
abbrev cX3_isLucky : ByteArray := prog_5_method_4_code
def yX3_isLucky : MethodName := ⟨RX3, "isLucky", "()Z"⟩
def RX4 : String := "MovingExits$Habits"
def TX4 : u_T := fun k => match k with
  | 0 => ("MovingExits$Habits", "acts", "LMovingExits$Acts;", true)
  | _ => ("MovingExits$Habits", "goodActs", "[I", true)
def tyX4 : Nat → FieldType := fun k => match k with
  | 0 => .object "MovingExits$Acts"
  | _ => .array .int
abbrev wsX40 : List Cond := u_ws RX4 TX4 2
theorem nmX4 : ∀ a, a < 2 → ∀ b, b < 2 → a ≠ b → (TX4 a).2.1 ≠ (TX4 b).2.1 := by decide +kernel
theorem tyX4_ok : ∀ k, k < 2 → parseFieldDescriptor (TX4 k).2.2.1 = some (tyX4 k) := by decide +kernel
abbrev cX4_init : ByteArray := prog_6_method_1_code
def yX4_init : MethodName := ⟨RX4, "<init>", "(LMovingExits$Acts;)V"⟩
abbrev cX4_stepsKnowing : ByteArray := prog_6_method_2_code
def yX4_stepsKnowing : MethodName := ⟨RX4, "stepsKnowing", "(II)I"⟩
abbrev cX4_countGoodActs : ByteArray := prog_6_method_3_code
def yX4_countGoodActs : MethodName := ⟨RX4, "countGoodActs", "(I)V"⟩
abbrev cX4_stepsBlind : ByteArray := prog_6_method_4_code
def yX4_stepsBlind : MethodName := ⟨RX4, "stepsBlind", "(III)I"⟩
abbrev cX4_bestPlace : ByteArray := prog_6_method_5_code
def yX4_bestPlace : MethodName := ⟨RX4, "bestPlace", "(II)I"⟩
def RX5 : String := "MovingExits$Hall"
def TX5 : u_T := fun k => match k with
  | 0 => ("MovingExits$Hall", "lines", "I", false)
  | 1 => ("MovingExits$Hall", "rows", "I", false)
  | 2 => ("MovingExits$Hall", "seats", "I", false)
  | 3 => ("MovingExits$Hall", "law", "I", false)
  | 4 => ("MovingExits$Hall", "places", "I", false)
  | 5 => ("MovingExits$Hall", "exits", "I", false)
  | 6 => ("MovingExits$Hall", "sitters", "J", false)
  | 7 => ("MovingExits$Hall", "rowOf", "[I", true)
  | 8 => ("MovingExits$Hall", "seatOf", "[I", true)
  | 9 => ("MovingExits$Hall", "leadsTo", "[I", true)
  | 10 => ("MovingExits$Hall", "then", "[I", true)
  | 11 => ("MovingExits$Hall", "firstPlace", "[I", true)
  | 12 => ("MovingExits$Hall", "wide", "[I", true)
  | 13 => ("MovingExits$Hall", "kingFrom", "[I", true)
  | 14 => ("MovingExits$Hall", "kingTo", "[I", true)
  | _ => ("MovingExits$Hall", "changes", "LMovingExits$Changes;", true)
def tyX5 : Nat → FieldType := fun k => match k with
  | 0 => .int
  | 1 => .int
  | 2 => .int
  | 3 => .int
  | 4 => .int
  | 5 => .int
  | 6 => .long
  | 7 => .array .int
  | 8 => .array .int
  | 9 => .array .int
  | 10 => .array .int
  | 11 => .array .int
  | 12 => .array .int
  | 13 => .array .int
  | 14 => .array .int
  | _ => .object "MovingExits$Changes"
abbrev wsX50 : List Cond := u_ws RX5 TX5 16
theorem nmX5 : ∀ a, a < 16 → ∀ b, b < 16 → a ≠ b → (TX5 a).2.1 ≠ (TX5 b).2.1 := by decide +kernel
theorem tyX5_ok : ∀ k, k < 16 → parseFieldDescriptor (TX5 k).2.2.1 = some (tyX5 k) := by decide +kernel
abbrev cX5_init : ByteArray := prog_7_method_1_code
def yX5_init : MethodName := ⟨RX5, "<init>", "()V"⟩
abbrev cX5_clear : ByteArray := prog_7_method_2_code
def yX5_clear : MethodName := ⟨RX5, "clear", "()V"⟩
abbrev cX5_copyFrom : ByteArray := prog_7_method_3_code
def yX5_copyFrom : MethodName := ⟨RX5, "copyFrom", "(LMovingExits$Hall;)V"⟩
abbrev cX5_isTold : ByteArray := prog_7_method_4_code
def yX5_isTold : MethodName := ⟨RX5, "isTold", "()Z"⟩
abbrev cX5_hasSeat : ByteArray := prog_7_method_5_code
def yX5_hasSeat : MethodName := ⟨RX5, "hasSeat", "(II)Z"⟩
abbrev cX5_hasPlace : ByteArray := prog_7_method_6_code
def yX5_hasPlace : MethodName := ⟨RX5, "hasPlace", "(I)Z"⟩
abbrev cX5_hasExit : ByteArray := prog_7_method_7_code
def yX5_hasExit : MethodName := ⟨RX5, "hasExit", "(I)Z"⟩
abbrev cX5_hasPlaceLike : ByteArray := prog_7_method_8_code
def yX5_hasPlaceLike : MethodName := ⟨RX5, "hasPlaceLike", "(I)Z"⟩
abbrev cX5_hasExitAt : ByteArray := prog_7_method_9_code
def yX5_hasExitAt : MethodName := ⟨RX5, "hasExitAt", "(I)Z"⟩
abbrev cX5_isTaken : ByteArray := prog_7_method_10_code
def yX5_isTaken : MethodName := ⟨RX5, "isTaken", "(I)Z"⟩
abbrev cX5_setTaken : ByteArray := prog_7_method_11_code
def yX5_setTaken : MethodName := ⟨RX5, "setTaken", "(IZ)V"⟩
abbrev cX5_isGood : ByteArray := prog_7_method_12_code
def yX5_isGood : MethodName := ⟨RX5, "isGood", "(I)Z"⟩
abbrev cX5_spotBy : ByteArray := prog_7_method_13_code
def yX5_spotBy : MethodName := ⟨RX5, "spotBy", "(I)I"⟩
abbrev cX5_stepsBy : ByteArray := prog_7_method_14_code
def yX5_stepsBy : MethodName := ⟨RX5, "stepsBy", "(II)I"⟩
abbrev cX5_isKings : ByteArray := prog_7_method_15_code
def yX5_isKings : MethodName := ⟨RX5, "isKings", "(II)Z"⟩
abbrev cX5_placeAfter : ByteArray := prog_7_method_16_code
def yX5_placeAfter : MethodName := ⟨RX5, "placeAfter", "(II)I"⟩
abbrev cX5_takeBack : ByteArray := prog_7_method_17_code
def yX5_takeBack : MethodName := ⟨RX5, "takeBack", "()Z"⟩
def RX6 : String := "MovingExits$Reader"
def TX6 : u_T := fun k => match k with
  | 0 => ("MovingExits$Reader", "fault", "I", false)
  | 1 => ("MovingExits$Reader", "faultPlace", "I", false)
  | 2 => ("MovingExits$Reader", "tape", "LMovingExits$Tape;", true)
  | 3 => ("MovingExits$Reader", "told", "LMovingExits$Hall;", false)
  | 4 => ("MovingExits$Reader", "position", "I", false)
  | 5 => ("MovingExits$Reader", "token", "I", false)
  | 6 => ("MovingExits$Reader", "tokenPlace", "I", false)
  | 7 => ("MovingExits$Reader", "tokenValue", "I", false)
  | 8 => ("MovingExits$Reader", "number", "I", false)
  | _ => ("MovingExits$Reader", "numberPlace", "I", false)
def tyX6 : Nat → FieldType := fun k => match k with
  | 0 => .int
  | 1 => .int
  | 2 => .object "MovingExits$Tape"
  | 3 => .object "MovingExits$Hall"
  | 4 => .int
  | 5 => .int
  | 6 => .int
  | 7 => .int
  | 8 => .int
  | _ => .int
abbrev wsX60 : List Cond := u_ws RX6 TX6 10
theorem nmX6 : ∀ a, a < 10 → ∀ b, b < 10 → a ≠ b → (TX6 a).2.1 ≠ (TX6 b).2.1 := by decide +kernel
theorem tyX6_ok : ∀ k, k < 10 → parseFieldDescriptor (TX6 k).2.2.1 = some (tyX6 k) := by decide +kernel
abbrev cX6_init : ByteArray := prog_8_method_1_code
def yX6_init : MethodName := ⟨RX6, "<init>", "(LMovingExits$Tape;LMovingExits$Hall;)V"⟩
abbrev cX6_tell : ByteArray := prog_8_method_2_code
def yX6_tell : MethodName := ⟨RX6, "tell", "(LMovingExits$Hall;)Z"⟩
abbrev cX6_readHall : ByteArray := prog_8_method_3_code
def yX6_readHall : MethodName := ⟨RX6, "readHall", "()Z"⟩
abbrev cX6_readPlace : ByteArray := prog_8_method_4_code
def yX6_readPlace : MethodName := ⟨RX6, "readPlace", "()Z"⟩
abbrev cX6_readExit : ByteArray := prog_8_method_5_code
def yX6_readExit : MethodName := ⟨RX6, "readExit", "()Z"⟩
abbrev cX6_readKing : ByteArray := prog_8_method_6_code
def yX6_readKing : MethodName := ⟨RX6, "readKing", "(I)Z"⟩
abbrev cX6_readSits : ByteArray := prog_8_method_7_code
def yX6_readSits : MethodName := ⟨RX6, "readSits", "()Z"⟩
abbrev cX6_take : ByteArray := prog_8_method_8_code
def yX6_take : MethodName := ⟨RX6, "take", "(I)Z"⟩
abbrev cX6_takeNumber : ByteArray := prog_8_method_9_code
def yX6_takeNumber : MethodName := ⟨RX6, "takeNumber", "(II)Z"⟩
abbrev cX6_refuse : ByteArray := prog_8_method_10_code
def yX6_refuse : MethodName := ⟨RX6, "refuse", "(II)Z"⟩
abbrev cX6_advance : ByteArray := prog_8_method_11_code
def yX6_advance : MethodName := ⟨RX6, "advance", "()V"⟩
abbrev cX6_readNumber : ByteArray := prog_8_method_12_code
def yX6_readNumber : MethodName := ⟨RX6, "readNumber", "()V"⟩
abbrev cX6_readWord : ByteArray := prog_8_method_13_code
def yX6_readWord : MethodName := ⟨RX6, "readWord", "()V"⟩
def RX7 : String := "MovingExits$Rush"
def TX7 : u_T := fun k => match k with
  | 0 => ("MovingExits$Rush", "acts", "LMovingExits$Acts;", true)
  | 1 => ("MovingExits$Rush", "wide", "[I", true)
  | 2 => ("MovingExits$Rush", "distance", "[I", true)
  | 3 => ("MovingExits$Rush", "beside", "[I", true)
  | 4 => ("MovingExits$Rush", "goesTo", "[I", true)
  | 5 => ("MovingExits$Rush", "comesFrom", "[I", true)
  | 6 => ("MovingExits$Rush", "ended", "[I", true)
  | 7 => ("MovingExits$Rush", "parent", "[I", true)
  | 8 => ("MovingExits$Rush", "stack", "[I", true)
  | 9 => ("MovingExits$Rush", "reached", "[J", true)
  | 10 => ("MovingExits$Rush", "stacked", "I", false)
  | 11 => ("MovingExits$Rush", "minutes", "I", false)
  | 12 => ("MovingExits$Rush", "gone", "I", false)
  | 13 => ("MovingExits$Rush", "waiting", "J", false)
  | _ => ("MovingExits$Rush", "width", "I", false)
def tyX7 : Nat → FieldType := fun k => match k with
  | 0 => .object "MovingExits$Acts"
  | 1 => .array .int
  | 2 => .array .int
  | 3 => .array .int
  | 4 => .array .int
  | 5 => .array .int
  | 6 => .array .int
  | 7 => .array .int
  | 8 => .array .int
  | 9 => .array .long
  | 10 => .int
  | 11 => .int
  | 12 => .int
  | 13 => .long
  | _ => .int
abbrev wsX70 : List Cond := u_ws RX7 TX7 15
theorem nmX7 : ∀ a, a < 15 → ∀ b, b < 15 → a ≠ b → (TX7 a).2.1 ≠ (TX7 b).2.1 := by decide +kernel
theorem tyX7_ok : ∀ k, k < 15 → parseFieldDescriptor (TX7 k).2.2.1 = some (tyX7 k) := by decide +kernel
abbrev cX7_init : ByteArray := prog_9_method_1_code
def yX7_init : MethodName := ⟨RX7, "<init>", "(LMovingExits$Acts;)V"⟩
abbrev cX7_mostOut : ByteArray := prog_9_method_2_code
def yX7_mostOut : MethodName := ⟨RX7, "mostOut", "(III)I"⟩
abbrev cX7_minutesOfAll : ByteArray := prog_9_method_3_code
def yX7_minutesOfAll : MethodName := ⟨RX7, "minutesOfAll", "(II)I"⟩
abbrev cX7_fewestThinkable : ByteArray := prog_9_method_4_code
def yX7_fewestThinkable : MethodName := ⟨RX7, "fewestThinkable", "()I"⟩
abbrev cX7_gather : ByteArray := prog_9_method_5_code
def yX7_gather : MethodName := ⟨RX7, "gather", "(II)V"⟩
abbrev cX7_lookRound : ByteArray := prog_9_method_6_code
def yX7_lookRound : MethodName := ⟨RX7, "lookRound", "(I)V"⟩
abbrev cX7_spotOrNone : ByteArray := prog_9_method_7_code
def yX7_spotOrNone : MethodName := ⟨RX7, "spotOrNone", "(II)I"⟩
abbrev cX7_sendAll : ByteArray := prog_9_method_8_code
def yX7_sendAll : MethodName := ⟨RX7, "sendAll", "(I)V"⟩
abbrev cX7_sendOne : ByteArray := prog_9_method_9_code
def yX7_sendOne : MethodName := ⟨RX7, "sendOne", "()Z"⟩
abbrev cX7_canStillEnd : ByteArray := prog_9_method_10_code
def yX7_canStillEnd : MethodName := ⟨RX7, "canStillEnd", "(II)Z"⟩
abbrev cX7_reach : ByteArray := prog_9_method_11_code
def yX7_reach : MethodName := ⟨RX7, "reach", "(II)V"⟩
abbrev cX7_comeIn : ByteArray := prog_9_method_12_code
def yX7_comeIn : MethodName := ⟨RX7, "comeIn", "(I)V"⟩
abbrev cX7_turnAsideFromExit : ByteArray := prog_9_method_13_code
def yX7_turnAsideFromExit : MethodName := ⟨RX7, "turnAsideFromExit", "(II)V"⟩
abbrev cX7_goOut : ByteArray := prog_9_method_14_code
def yX7_goOut : MethodName := ⟨RX7, "goOut", "(I)I"⟩
abbrev cX7_turnPaths : ByteArray := prog_9_method_15_code
def yX7_turnPaths : MethodName := ⟨RX7, "turnPaths", "(I)V"⟩
def RX8 : String := "MovingExits$Slot"
def TX8 : u_T := fun k => match k with
  | 0 => ("MovingExits$Slot", "numbers", "[J", true)
  | 1 => ("MovingExits$Slot", "width", "I", false)
  | _ => ("MovingExits$Slot", "length", "I", false)
def tyX8 : Nat → FieldType := fun k => match k with
  | 0 => .array .long
  | 1 => .int
  | _ => .int
abbrev wsX80 : List Cond := u_ws RX8 TX8 3
theorem nmX8 : ∀ a, a < 3 → ∀ b, b < 3 → a ≠ b → (TX8 a).2.1 ≠ (TX8 b).2.1 := by decide +kernel
theorem tyX8_ok : ∀ k, k < 3 → parseFieldDescriptor (TX8 k).2.2.1 = some (tyX8 k) := by decide +kernel
abbrev cX8_init : ByteArray := prog_10_method_1_code
def yX8_init : MethodName := ⟨RX8, "<init>", "()V"⟩
abbrev cX8_hasRow : ByteArray := prog_10_method_2_code
def yX8_hasRow : MethodName := ⟨RX8, "hasRow", "()Z"⟩
abbrev cX8_lay : ByteArray := prog_10_method_3_code
def yX8_lay : MethodName := ⟨RX8, "lay", "(II)V"⟩
abbrev cX8_put : ByteArray := prog_10_method_4_code
def yX8_put : MethodName := ⟨RX8, "put", "(IJ)V"⟩
abbrev cX8_cut : ByteArray := prog_10_method_5_code
def yX8_cut : MethodName := ⟨RX8, "cut", "(J)J"⟩
abbrev cX8_hasRange : ByteArray := prog_10_method_6_code
def yX8_hasRange : MethodName := ⟨RX8, "hasRange", "(II)Z"⟩
abbrev cX8_small : ByteArray := prog_10_method_7_code
def yX8_small : MethodName := ⟨RX8, "small", "(I)I"⟩
def RX9 : String := "MovingExits$Stands"
def TX9 : u_T := fun k => match k with
  | _ => ("MovingExits$Stands", "near", "[J", true)
def tyX9 : Nat → FieldType := fun k => match k with
  | _ => .array .long
abbrev wsX90 : List Cond := u_ws RX9 TX9 1
theorem nmX9 : ∀ a, a < 1 → ∀ b, b < 1 → a ≠ b → (TX9 a).2.1 ≠ (TX9 b).2.1 := by decide +kernel
theorem tyX9_ok : ∀ k, k < 1 → parseFieldDescriptor (TX9 k).2.2.1 = some (tyX9 k) := by decide +kernel
abbrev cX9_init : ByteArray := prog_11_method_1_code
def yX9_init : MethodName := ⟨RX9, "<init>", "()V"⟩
abbrev cX9_leastWorst : ByteArray := prog_11_method_2_code
def yX9_leastWorst : MethodName := ⟨RX9, "leastWorst", "(LMovingExits$Hall;I)I"⟩
abbrev cX9_leastSet : ByteArray := prog_11_method_3_code
def yX9_leastSet : MethodName := ⟨RX9, "leastSet", "(LMovingExits$Hall;II)I"⟩
abbrev cX9_spotsWithin : ByteArray := prog_11_method_4_code
def yX9_spotsWithin : MethodName := ⟨RX9, "spotsWithin", "(LMovingExits$Hall;II)J"⟩
abbrev cX9_areGood : ByteArray := prog_11_method_5_code
def yX9_areGood : MethodName := ⟨RX9, "areGood", "(LMovingExits$Hall;I)Z"⟩
def RX10 : String := "MovingExits$Tape"
def TX10 : u_T := fun k => match k with
  | 0 => ("MovingExits$Tape", "bytes", "[B", true)
  | _ => ("MovingExits$Tape", "length", "I", false)
def tyX10 : Nat → FieldType := fun k => match k with
  | 0 => .array .byte
  | _ => .int
abbrev wsX100 : List Cond := u_ws RX10 TX10 2
theorem nmX10 : ∀ a, a < 2 → ∀ b, b < 2 → a ≠ b → (TX10 a).2.1 ≠ (TX10 b).2.1 := by decide +kernel
theorem tyX10_ok : ∀ k, k < 2 → parseFieldDescriptor (TX10 k).2.2.1 = some (tyX10 k) := by decide +kernel
abbrev cX10_init : ByteArray := prog_12_method_1_code
def yX10_init : MethodName := ⟨RX10, "<init>", "()V"⟩
abbrev cX10_hasRoom : ByteArray := prog_12_method_2_code
def yX10_hasRoom : MethodName := ⟨RX10, "hasRoom", "()Z"⟩
abbrev cX10_add : ByteArray := prog_12_method_3_code
def yX10_add : MethodName := ⟨RX10, "add", "(I)V"⟩
abbrev cX10_byteAt : ByteArray := prog_12_method_4_code
def yX10_byteAt : MethodName := ⟨RX10, "byteAt", "(I)I"⟩
def RX11 : String := "MovingExits"
def TX11 : u_T := fun k => match k with
  | 0 => ("MovingExits", "tape", "LMovingExits$Tape;", true)
  | 1 => ("MovingExits", "reader", "LMovingExits$Reader;", true)
  | 2 => ("MovingExits", "images", "[LMovingExits$Hall;", true)
  | 3 => ("MovingExits", "imageMade", "[Z", true)
  | 4 => ("MovingExits", "slots", "[LMovingExits$Slot;", true)
  | 5 => ("MovingExits", "acts", "LMovingExits$Acts;", true)
  | 6 => ("MovingExits", "clues", "LMovingExits$Clues;", true)
  | 7 => ("MovingExits", "habits", "LMovingExits$Habits;", true)
  | 8 => ("MovingExits", "rush", "LMovingExits$Rush;", true)
  | 9 => ("MovingExits", "stands", "LMovingExits$Stands;", true)
  | 10 => ("MovingExits", "crowd", "LMovingExits$Crowd;", true)
  | 11 => ("MovingExits", "hall", "LMovingExits$Hall;", false)
  | _ => ("MovingExits", "draft", "LMovingExits$Hall;", false)
def tyX11 : Nat → FieldType := fun k => match k with
  | 0 => .object "MovingExits$Tape"
  | 1 => .object "MovingExits$Reader"
  | 2 => .array (.object "MovingExits$Hall")
  | 3 => .array .boolean
  | 4 => .array (.object "MovingExits$Slot")
  | 5 => .object "MovingExits$Acts"
  | 6 => .object "MovingExits$Clues"
  | 7 => .object "MovingExits$Habits"
  | 8 => .object "MovingExits$Rush"
  | 9 => .object "MovingExits$Stands"
  | 10 => .object "MovingExits$Crowd"
  | 11 => .object "MovingExits$Hall"
  | _ => .object "MovingExits$Hall"
abbrev wsX110 : List Cond := u_ws RX11 TX11 13
theorem nmX11 : ∀ a, a < 13 → ∀ b, b < 13 → a ≠ b → (TX11 a).2.1 ≠ (TX11 b).2.1 := by decide +kernel
theorem tyX11_ok : ∀ k, k < 13 → parseFieldDescriptor (TX11 k).2.2.1 = some (tyX11 k) := by decide +kernel
abbrev cX11_init : ByteArray := prog_1_method_1_code
def yX11_init : MethodName := ⟨RX11, "<init>", "()V"⟩
abbrev cX11_feed : ByteArray := prog_1_method_2_code
def yX11_feed : MethodName := ⟨RX11, "feed", "(IIIII)I"⟩
abbrev cX11_end : ByteArray := prog_1_method_3_code
def yX11_end : MethodName := ⟨RX11, "end", "(I)I"⟩
abbrev cX11_hall : ByteArray := prog_1_method_4_code
def yX11_hall : MethodName := ⟨RX11, "hall", "()I"⟩
abbrev cX11_fault : ByteArray := prog_1_method_5_code
def yX11_fault : MethodName := ⟨RX11, "fault", "(I)I"⟩
abbrev cX11_place : ByteArray := prog_1_method_6_code
def yX11_place : MethodName := ⟨RX11, "place", "(II)I"⟩
abbrev cX11_exit : ByteArray := prog_1_method_7_code
def yX11_exit : MethodName := ⟨RX11, "exit", "(II)I"⟩
abbrev cX11_sits : ByteArray := prog_1_method_8_code
def yX11_sits : MethodName := ⟨RX11, "sits", "(II)I"⟩
abbrev cX11_at : ByteArray := prog_1_method_9_code
def yX11_at : MethodName := ⟨RX11, "at", "(II)I"⟩
abbrev cX11_who : ByteArray := prog_1_method_10_code
def yX11_who : MethodName := ⟨RX11, "who", "(II)I"⟩
abbrev cX11_behind : ByteArray := prog_1_method_11_code
def yX11_behind : MethodName := ⟨RX11, "behind", "(II)I"⟩
abbrev cX11_leads : ByteArray := prog_1_method_12_code
def yX11_leads : MethodName := ⟨RX11, "leads", "(II)I"⟩
abbrev cX11_doubles : ByteArray := prog_1_method_13_code
def yX11_doubles : MethodName := ⟨RX11, "doubles", "(I)I"⟩
abbrev cX11_slip : ByteArray := prog_1_method_14_code
def yX11_slip : MethodName := ⟨RX11, "slip", "()I"⟩
abbrev cX11_round : ByteArray := prog_1_method_15_code
def yX11_round : MethodName := ⟨RX11, "round", "()I"⟩
abbrev cX11_again : ByteArray := prog_1_method_16_code
def yX11_again : MethodName := ⟨RX11, "again", "()I"⟩
abbrev cX11_next : ByteArray := prog_1_method_17_code
def yX11_next : MethodName := ⟨RX11, "next", "(III)I"⟩
abbrev cX11_sees : ByteArray := prog_1_method_18_code
def yX11_sees : MethodName := ⟨RX11, "sees", "(I)I"⟩
abbrev cX11_far : ByteArray := prog_1_method_19_code
def yX11_far : MethodName := ⟨RX11, "far", "(III)I"⟩
abbrev cX11_by : ByteArray := prog_1_method_20_code
def yX11_by : MethodName := ⟨RX11, "by", "(III)I"⟩
abbrev cX11_falls : ByteArray := prog_1_method_21_code
def yX11_falls : MethodName := ⟨RX11, "falls", "(III)I"⟩
abbrev cX11_best : ByteArray := prog_1_method_22_code
def yX11_best : MethodName := ⟨RX11, "best", "(I)I"⟩
abbrev cX11_worst : ByteArray := prog_1_method_23_code
def yX11_worst : MethodName := ⟨RX11, "worst", "(I)I"⟩
abbrev cX11_kept : ByteArray := prog_1_method_24_code
def yX11_kept : MethodName := ⟨RX11, "kept", "(I)I"⟩
abbrev cX11_breaks : ByteArray := prog_1_method_25_code
def yX11_breaks : MethodName := ⟨RX11, "breaks", "(I)I"⟩
abbrev cX11_screws : ByteArray := prog_1_method_26_code
def yX11_screws : MethodName := ⟨RX11, "screws", "(I)I"⟩
abbrev cX11_lawful : ByteArray := prog_1_method_27_code
def yX11_lawful : MethodName := ⟨RX11, "lawful", "()I"⟩
abbrev cX11_out : ByteArray := prog_1_method_28_code
def yX11_out : MethodName := ⟨RX11, "out", "(II)I"⟩
abbrev cX11_soonest : ByteArray := prog_1_method_29_code
def yX11_soonest : MethodName := ⟨RX11, "soonest", "(I)I"⟩
abbrev cX11_quickest : ByteArray := prog_1_method_30_code
def yX11_quickest : MethodName := ⟨RX11, "quickest", "(I)I"⟩
abbrev cX11_wider : ByteArray := prog_1_method_31_code
def yX11_wider : MethodName := ⟨RX11, "wider", "(III)I"⟩
abbrev cX11_stand : ByteArray := prog_1_method_32_code
def yX11_stand : MethodName := ⟨RX11, "stand", "(I)I"⟩
abbrev cX11_stands : ByteArray := prog_1_method_33_code
def yX11_stands : MethodName := ⟨RX11, "stands", "(I)I"⟩
abbrev cX11_needs : ByteArray := prog_1_method_34_code
def yX11_needs : MethodName := ⟨RX11, "needs", "()I"⟩
abbrev cX11_wind : ByteArray := prog_1_method_35_code
def yX11_wind : MethodName := ⟨RX11, "wind", "(I)I"⟩
abbrev cX11_calmest : ByteArray := prog_1_method_36_code
def yX11_calmest : MethodName := ⟨RX11, "calmest", "(I)I"⟩
abbrev cX11_seen : ByteArray := prog_1_method_37_code
def yX11_seen : MethodName := ⟨RX11, "seen", "(I)J"⟩
abbrev cX11_ask : ByteArray := prog_1_method_38_code
def yX11_ask : MethodName := ⟨RX11, "ask", "(I)I"⟩
abbrev cX11_leaves : ByteArray := prog_1_method_39_code
def yX11_leaves : MethodName := ⟨RX11, "leaves", "(I)I"⟩
abbrev cX11_fell : ByteArray := prog_1_method_40_code
def yX11_fell : MethodName := ⟨RX11, "fell", "(I)J"⟩
abbrev cX11_many : ByteArray := prog_1_method_41_code
def yX11_many : MethodName := ⟨RX11, "many", "(I)I"⟩
abbrev cX11_sure : ByteArray := prog_1_method_42_code
def yX11_sure : MethodName := ⟨RX11, "sure", "(II)I"⟩
abbrev cX11_known : ByteArray := prog_1_method_43_code
def yX11_known : MethodName := ⟨RX11, "known", "(III)I"⟩
abbrev cX11_blind : ByteArray := prog_1_method_44_code
def yX11_blind : MethodName := ⟨RX11, "blind", "(III)I"⟩
abbrev cX11_goes : ByteArray := prog_1_method_45_code
def yX11_goes : MethodName := ⟨RX11, "goes", "(III)I"⟩
abbrev cX11_worth : ByteArray := prog_1_method_46_code
def yX11_worth : MethodName := ⟨RX11, "worth", "(I)I"⟩
abbrev cX11_lured : ByteArray := prog_1_method_47_code
def yX11_lured : MethodName := ⟨RX11, "lured", "(II)I"⟩
abbrev cX11_danger : ByteArray := prog_1_method_48_code
def yX11_danger : MethodName := ⟨RX11, "danger", "(I)I"⟩
abbrev cX11_claque : ByteArray := prog_1_method_49_code
def yX11_claque : MethodName := ⟨RX11, "claque", "(II)I"⟩
abbrev cX11_lastly : ByteArray := prog_1_method_50_code
def yX11_lastly : MethodName := ⟨RX11, "lastly", "(II)I"⟩
abbrev cX11_screw : ByteArray := prog_1_method_51_code
def yX11_screw : MethodName := ⟨RX11, "screw", "(II)I"⟩
abbrev cX11_king : ByteArray := prog_1_method_52_code
def yX11_king : MethodName := ⟨RX11, "king", "(III)I"⟩
abbrev cX11_seats : ByteArray := prog_1_method_53_code
def yX11_seats : MethodName := ⟨RX11, "seats", "(III)I"⟩
abbrev cX11_undo : ByteArray := prog_1_method_54_code
def yX11_undo : MethodName := ⟨RX11, "undo", "()I"⟩
abbrev cX11_drawn : ByteArray := prog_1_method_55_code
def yX11_drawn : MethodName := ⟨RX11, "drawn", "(III)I"⟩
abbrev cX11_lucky : ByteArray := prog_1_method_56_code
def yX11_lucky : MethodName := ⟨RX11, "lucky", "(III)I"⟩
abbrev cX11_count : ByteArray := prog_1_method_57_code
def yX11_count : MethodName := ⟨RX11, "count", "(I)I"⟩
abbrev cX11_image : ByteArray := prog_1_method_58_code
def yX11_image : MethodName := ⟨RX11, "image", "(I)I"⟩
abbrev cX11_back : ByteArray := prog_1_method_59_code
def yX11_back : MethodName := ⟨RX11, "back", "(I)I"⟩
abbrev cX11_row : ByteArray := prog_1_method_60_code
def yX11_row : MethodName := ⟨RX11, "row", "(III)I"⟩
abbrev cX11_write : ByteArray := prog_1_method_61_code
def yX11_write : MethodName := ⟨RX11, "write", "(IIJ)I"⟩
abbrev cX11_paste : ByteArray := prog_1_method_62_code
def yX11_paste : MethodName := ⟨RX11, "paste", "(IIIII)I"⟩
abbrev cX11_isAct : ByteArray := prog_1_method_63_code
def yX11_isAct : MethodName := ⟨RX11, "isAct", "(I)Z"⟩
abbrev cX11_isCountOfActs : ByteArray := prog_1_method_64_code
def yX11_isCountOfActs : MethodName := ⟨RX11, "isCountOfActs", "(I)Z"⟩
abbrev cX11_isBehind : ByteArray := prog_1_method_65_code
def yX11_isBehind : MethodName := ⟨RX11, "isBehind", "(I)Z"⟩
abbrev cX11_isSlot : ByteArray := prog_1_method_66_code
def yX11_isSlot : MethodName := ⟨RX11, "isSlot", "(I)Z"⟩
abbrev cX11_spotOf : ByteArray := prog_1_method_67_code
def yX11_spotOf : MethodName := ⟨RX11, "spotOf", "(II)I"⟩
abbrev cX11_bit : ByteArray := prog_1_method_68_code
def yX11_bit : MethodName := ⟨RX11, "bit", "(I)I"⟩
abbrev cX11_spotBit : ByteArray := prog_1_method_69_code
def yX11_spotBit : MethodName := ⟨RX11, "spotBit", "(I)J"⟩
abbrev cX11_canDraw : ByteArray := prog_1_method_70_code
def yX11_canDraw : MethodName := ⟨RX11, "canDraw", "(II)Z"⟩
abbrev cX11_refusalOfSeen : ByteArray := prog_1_method_71_code
def yX11_refusalOfSeen : MethodName := ⟨RX11, "refusalOfSeen", "(I)I"⟩
abbrev cX11_refusalOfFell : ByteArray := prog_1_method_72_code
def yX11_refusalOfFell : MethodName := ⟨RX11, "refusalOfFell", "(I)I"⟩
abbrev cX11_refusalOfRow : ByteArray := prog_1_method_73_code
def yX11_refusalOfRow : MethodName := ⟨RX11, "refusalOfRow", "(II)I"⟩
abbrev cX11_slotsWithRow : ByteArray := prog_1_method_74_code
def yX11_slotsWithRow : MethodName := ⟨RX11, "slotsWithRow", "()I"⟩
def RX12 : String := "MovingExitsModel"
def TX12 : u_T := fun k => match k with
  | 0 => ("MovingExitsModel", "thrown", "I", false)
  | 1 => ("MovingExitsModel", "width", "[I", true)
  | 2 => ("MovingExitsModel", "many", "[I", true)
  | 3 => ("MovingExitsModel", "cells", "[J", true)
  | 4 => ("MovingExitsModel", "moved", "[J", true)
  | 5 => ("MovingExitsModel", "tape", "[B", true)
  | 6 => ("MovingExitsModel", "taped", "I", false)
  | 7 => ("MovingExitsModel", "at", "I", false)
  | 8 => ("MovingExitsModel", "token", "I", false)
  | 9 => ("MovingExitsModel", "place", "I", false)
  | 10 => ("MovingExitsModel", "value", "I", false)
  | 11 => ("MovingExitsModel", "word", "J", false)
  | 12 => ("MovingExitsModel", "bad", "I", false)
  | 13 => ("MovingExitsModel", "badPlace", "I", false)
  | 14 => ("MovingExitsModel", "fault", "I", false)
  | 15 => ("MovingExitsModel", "faultPlace", "I", false)
  | 16 => ("MovingExitsModel", "lines", "[I", true)
  | 17 => ("MovingExitsModel", "has", "[I", true)
  | 18 => ("MovingExitsModel", "spot", "[I", true)
  | 19 => ("MovingExitsModel", "exit", "[I", true)
  | 20 => ("MovingExitsModel", "isSat", "[Z", true)
  | 21 => ("MovingExitsModel", "change", "[I", true)
  | 22 => ("MovingExitsModel", "isKept", "[Z", true)
  | 23 => ("MovingExitsModel", "at0", "[I", true)
  | 24 => ("MovingExitsModel", "doors", "[I", true)
  | 25 => ("MovingExitsModel", "flow", "[I", true)
  | 26 => ("MovingExitsModel", "from", "[I", true)
  | 27 => ("MovingExitsModel", "edge", "[I", true)
  | 28 => ("MovingExitsModel", "queue", "[I", true)
  | 29 => ("MovingExitsModel", "minutes", "I", false)
  | 30 => ("MovingExitsModel", "queued", "I", false)
  | 31 => ("MovingExitsModel", "askLeaves", "I", false)
  | 32 => ("MovingExitsModel", "blindBest", "I", false)
  | 33 => ("MovingExitsModel", "claqueActs", "I", false)
  | 34 => ("MovingExitsModel", "claquePlace", "I", false)
  | _ => ("MovingExitsModel", "comes", "[I", true)
def tyX12 : Nat → FieldType := fun k => match k with
  | 0 => .int
  | 1 => .array .int
  | 2 => .array .int
  | 3 => .array .long
  | 4 => .array .long
  | 5 => .array .byte
  | 6 => .int
  | 7 => .int
  | 8 => .int
  | 9 => .int
  | 10 => .int
  | 11 => .long
  | 12 => .int
  | 13 => .int
  | 14 => .int
  | 15 => .int
  | 16 => .array .int
  | 17 => .array .int
  | 18 => .array .int
  | 19 => .array .int
  | 20 => .array .boolean
  | 21 => .array .int
  | 22 => .array .boolean
  | 23 => .array .int
  | 24 => .array .int
  | 25 => .array .int
  | 26 => .array .int
  | 27 => .array .int
  | 28 => .array .int
  | 29 => .int
  | 30 => .int
  | 31 => .int
  | 32 => .int
  | 33 => .int
  | 34 => .int
  | _ => .array .int
abbrev wsX120 : List Cond := u_ws RX12 TX12 36
theorem nmX12 : ∀ a, a < 36 → ∀ b, b < 36 → a ≠ b → (TX12 a).2.1 ≠ (TX12 b).2.1 := by decide +kernel
theorem tyX12_ok : ∀ k, k < 36 → parseFieldDescriptor (TX12 k).2.2.1 = some (tyX12 k) := by decide +kernel
abbrev cX12_init : ByteArray := prog_14_method_1_code
def yX12_init : MethodName := ⟨RX12, "<init>", "()V"⟩
abbrev cX12_in : ByteArray := prog_14_method_3_code
def yX12_in : MethodName := ⟨RX12, "in", "(JJJ)Z"⟩
abbrev cX12_isSlot : ByteArray := prog_14_method_4_code
def yX12_isSlot : MethodName := ⟨RX12, "isSlot", "(I)Z"⟩
abbrev cX12_row : ByteArray := prog_14_method_5_code
def yX12_row : MethodName := ⟨RX12, "row", "(III)I"⟩
abbrev cX12_cut : ByteArray := prog_14_method_6_code
def yX12_cut : MethodName := ⟨RX12, "cut", "(JI)J"⟩
abbrev cX12_write : ByteArray := prog_14_method_7_code
def yX12_write : MethodName := ⟨RX12, "write", "(IIJ)I"⟩
abbrev cX12_paste : ByteArray := prog_14_method_8_code
def yX12_paste : MethodName := ⟨RX12, "paste", "(IIIII)I"⟩
abbrev cX12_feed : ByteArray := prog_14_method_9_code
def yX12_feed : MethodName := ⟨RX12, "feed", "(IIIII)I"⟩
abbrev cX12_four : ByteArray := prog_14_method_10_code
def yX12_four : MethodName := ⟨RX12, "four", "(I)V"⟩
abbrev cX12_end : ByteArray := prog_14_method_11_code
def yX12_end : MethodName := ⟨RX12, "end", "(I)I"⟩
abbrev cX12_isByte : ByteArray := prog_14_method_12_code
def yX12_isByte : MethodName := ⟨RX12, "isByte", "(III)Z"⟩
abbrev cX12_next : ByteArray := prog_14_method_13_code
def yX12_next : MethodName := ⟨RX12, "next", "()V"⟩
abbrev cX12_isGood : ByteArray := prog_14_method_14_code
def yX12_isGood : MethodName := ⟨RX12, "isGood", "()Z"⟩
abbrev cX12_fails : ByteArray := prog_14_method_15_code
def yX12_fails : MethodName := ⟨RX12, "fails", "(I)V"⟩
abbrev cX12_is : ByteArray := prog_14_method_16_code
def yX12_is : MethodName := ⟨RX12, "is", "(J)Z"⟩
abbrev cX12_takes : ByteArray := prog_14_method_17_code
def yX12_takes : MethodName := ⟨RX12, "takes", "(J)Z"⟩
abbrev cX12_asks : ByteArray := prog_14_method_18_code
def yX12_asks : MethodName := ⟨RX12, "asks", "(J)V"⟩
abbrev cX12_number : ByteArray := prog_14_method_19_code
def yX12_number : MethodName := ⟨RX12, "number", "(II)I"⟩
abbrev cX12_number_ : ByteArray := prog_14_method_20_code
def yX12_number_ : MethodName := ⟨RX12, "number", "(JII)I"⟩
abbrev cX12_ends : ByteArray := prog_14_method_21_code
def yX12_ends : MethodName := ⟨RX12, "ends", "()V"⟩
abbrev cX12_begins : ByteArray := prog_14_method_22_code
def yX12_begins : MethodName := ⟨RX12, "begins", "()V"⟩
abbrev cX12_isOver : ByteArray := prog_14_method_23_code
def yX12_isOver : MethodName := ⟨RX12, "isOver", "()V"⟩
abbrev cX12_fault : ByteArray := prog_14_method_24_code
def yX12_fault : MethodName := ⟨RX12, "fault", "(I)I"⟩
abbrev cX12_hasRead : ByteArray := prog_14_method_25_code
def yX12_hasRead : MethodName := ⟨RX12, "hasRead", "(I)I"⟩
abbrev cX12_rowHere : ByteArray := prog_14_method_26_code
def yX12_rowHere : MethodName := ⟨RX12, "rowHere", "()I"⟩
abbrev cX12_seatHere : ByteArray := prog_14_method_27_code
def yX12_seatHere : MethodName := ⟨RX12, "seatHere", "()I"⟩
abbrev cX12_placeAt : ByteArray := prog_14_method_28_code
def yX12_placeAt : MethodName := ⟨RX12, "placeAt", "(II)I"⟩
abbrev cX12_placeLine : ByteArray := prog_14_method_29_code
def yX12_placeLine : MethodName := ⟨RX12, "placeLine", "()V"⟩
abbrev cX12_hasExit : ByteArray := prog_14_method_30_code
def yX12_hasExit : MethodName := ⟨RX12, "hasExit", "(I)Z"⟩
abbrev cX12_exitLine : ByteArray := prog_14_method_31_code
def yX12_exitLine : MethodName := ⟨RX12, "exitLine", "()V"⟩
abbrev cX12_sitsLine : ByteArray := prog_14_method_32_code
def yX12_sitsLine : MethodName := ⟨RX12, "sitsLine", "()V"⟩
abbrev cX12_line : ByteArray := prog_14_method_33_code
def yX12_line : MethodName := ⟨RX12, "line", "()V"⟩
abbrev cX12_clears : ByteArray := prog_14_method_34_code
def yX12_clears : MethodName := ⟨RX12, "clears", "()V"⟩
abbrev cX12_hall : ByteArray := prog_14_method_35_code
def yX12_hall : MethodName := ⟨RX12, "hall", "()I"⟩
abbrev cX12_copyRow : ByteArray := prog_14_method_36_code
def yX12_copyRow : MethodName := ⟨RX12, "copyRow", "([IIII)V"⟩
abbrev cX12_copyHall : ByteArray := prog_14_method_37_code
def yX12_copyHall : MethodName := ⟨RX12, "copyHall", "(II)V"⟩
abbrev cX12_isHall : ByteArray := prog_14_method_38_code
def yX12_isHall : MethodName := ⟨RX12, "isHall", "()Z"⟩
abbrev cX12_isRow : ByteArray := prog_14_method_39_code
def yX12_isRow : MethodName := ⟨RX12, "isRow", "(J)Z"⟩
abbrev cX12_isSeat : ByteArray := prog_14_method_40_code
def yX12_isSeat : MethodName := ⟨RX12, "isSeat", "(JJ)Z"⟩
abbrev cX12_isPlace : ByteArray := prog_14_method_41_code
def yX12_isPlace : MethodName := ⟨RX12, "isPlace", "(J)Z"⟩
abbrev cX12_isExit : ByteArray := prog_14_method_42_code
def yX12_isExit : MethodName := ⟨RX12, "isExit", "(J)Z"⟩
abbrev cX12_isAct : ByteArray := prog_14_method_43_code
def yX12_isAct : MethodName := ⟨RX12, "isAct", "(I)Z"⟩
abbrev cX12_isBehind : ByteArray := prog_14_method_44_code
def yX12_isBehind : MethodName := ⟨RX12, "isBehind", "(J)Z"⟩
abbrev cX12_isBit : ByteArray := prog_14_method_45_code
def yX12_isBit : MethodName := ⟨RX12, "isBit", "(II)Z"⟩
abbrev cX12_sizeOf : ByteArray := prog_14_method_46_code
def yX12_sizeOf : MethodName := ⟨RX12, "sizeOf", "(I)I"⟩
abbrev cX12_of : ByteArray := prog_14_method_47_code
def yX12_of : MethodName := ⟨RX12, "of", "(II)I"⟩
abbrev cX12_isGoodPlace : ByteArray := prog_14_method_48_code
def yX12_isGoodPlace : MethodName := ⟨RX12, "isGoodPlace", "(I)Z"⟩
abbrev cX12_place : ByteArray := prog_14_method_49_code
def yX12_place : MethodName := ⟨RX12, "place", "(II)I"⟩
abbrev cX12_exit : ByteArray := prog_14_method_50_code
def yX12_exit : MethodName := ⟨RX12, "exit", "(II)I"⟩
abbrev cX12_sits : ByteArray := prog_14_method_51_code
def yX12_sits : MethodName := ⟨RX12, "sits", "(II)I"⟩
abbrev cX12_stays : ByteArray := prog_14_method_52_code
def yX12_stays : MethodName := ⟨RX12, "stays", "(II)Z"⟩
abbrev cX12_isStayed : ByteArray := prog_14_method_53_code
def yX12_isStayed : MethodName := ⟨RX12, "isStayed", "(II)Z"⟩
abbrev cX12_goesTo : ByteArray := prog_14_method_54_code
def yX12_goesTo : MethodName := ⟨RX12, "goesTo", "(II)I"⟩
abbrev cX12_lays : ByteArray := prog_14_method_55_code
def yX12_lays : MethodName := ⟨RX12, "lays", "()V"⟩
abbrev cX12_placeOf : ByteArray := prog_14_method_56_code
def yX12_placeOf : MethodName := ⟨RX12, "placeOf", "(II)I"⟩
abbrev cX12_behindOf : ByteArray := prog_14_method_57_code
def yX12_behindOf : MethodName := ⟨RX12, "behindOf", "(II)I"⟩
abbrev cX12_isGoodExit : ByteArray := prog_14_method_58_code
def yX12_isGoodExit : MethodName := ⟨RX12, "isGoodExit", "(II)Z"⟩
abbrev cX12_at : ByteArray := prog_14_method_59_code
def yX12_at : MethodName := ⟨RX12, "at", "(II)I"⟩
abbrev cX12_whoOf : ByteArray := prog_14_method_60_code
def yX12_whoOf : MethodName := ⟨RX12, "whoOf", "(II)I"⟩
abbrev cX12_who : ByteArray := prog_14_method_61_code
def yX12_who : MethodName := ⟨RX12, "who", "(II)I"⟩
abbrev cX12_behind : ByteArray := prog_14_method_62_code
def yX12_behind : MethodName := ⟨RX12, "behind", "(II)I"⟩
abbrev cX12_leads : ByteArray := prog_14_method_63_code
def yX12_leads : MethodName := ⟨RX12, "leads", "(II)I"⟩
abbrev cX12_doublesOf : ByteArray := prog_14_method_64_code
def yX12_doublesOf : MethodName := ⟨RX12, "doublesOf", "(I)I"⟩
abbrev cX12_doubles : ByteArray := prog_14_method_65_code
def yX12_doubles : MethodName := ⟨RX12, "doubles", "(I)I"⟩
abbrev cX12_slip : ByteArray := prog_14_method_66_code
def yX12_slip : MethodName := ⟨RX12, "slip", "()I"⟩
abbrev cX12_areAlike : ByteArray := prog_14_method_67_code
def yX12_areAlike : MethodName := ⟨RX12, "areAlike", "(II)Z"⟩
abbrev cX12_round : ByteArray := prog_14_method_68_code
def yX12_round : MethodName := ⟨RX12, "round", "()I"⟩
abbrev cX12_again : ByteArray := prog_14_method_69_code
def yX12_again : MethodName := ⟨RX12, "again", "()I"⟩
abbrev cX12_next_ : ByteArray := prog_14_method_70_code
def yX12_next_ : MethodName := ⟨RX12, "next", "(III)I"⟩
abbrev cX12_sees : ByteArray := prog_14_method_71_code
def yX12_sees : MethodName := ⟨RX12, "sees", "(I)I"⟩
abbrev cX12_between : ByteArray := prog_14_method_72_code
def yX12_between : MethodName := ⟨RX12, "between", "(II)I"⟩
abbrev cX12_stepsTo : ByteArray := prog_14_method_73_code
def yX12_stepsTo : MethodName := ⟨RX12, "stepsTo", "(III)I"⟩
abbrev cX12_nearest : ByteArray := prog_14_method_74_code
def yX12_nearest : MethodName := ⟨RX12, "nearest", "(IIIZ)I"⟩
abbrev cX12_farOf : ByteArray := prog_14_method_75_code
def yX12_farOf : MethodName := ⟨RX12, "farOf", "(III)I"⟩
abbrev cX12_far : ByteArray := prog_14_method_76_code
def yX12_far : MethodName := ⟨RX12, "far", "(III)I"⟩
abbrev cX12_by : ByteArray := prog_14_method_77_code
def yX12_by : MethodName := ⟨RX12, "by", "(III)I"⟩
abbrev cX12_fallsOf : ByteArray := prog_14_method_78_code
def yX12_fallsOf : MethodName := ⟨RX12, "fallsOf", "(III)I"⟩
abbrev cX12_falls : ByteArray := prog_14_method_79_code
def yX12_falls : MethodName := ⟨RX12, "falls", "(III)I"⟩
abbrev cX12_best : ByteArray := prog_14_method_80_code
def yX12_best : MethodName := ⟨RX12, "best", "(I)I"⟩
abbrev cX12_worstOf : ByteArray := prog_14_method_81_code
def yX12_worstOf : MethodName := ⟨RX12, "worstOf", "(I)I"⟩
abbrev cX12_worst : ByteArray := prog_14_method_82_code
def yX12_worst : MethodName := ⟨RX12, "worst", "(I)I"⟩
abbrev cX12_isLawful : ByteArray := prog_14_method_83_code
def yX12_isLawful : MethodName := ⟨RX12, "isLawful", "(I)Z"⟩
abbrev cX12_kept : ByteArray := prog_14_method_84_code
def yX12_kept : MethodName := ⟨RX12, "kept", "(I)I"⟩
abbrev cX12_breaks : ByteArray := prog_14_method_85_code
def yX12_breaks : MethodName := ⟨RX12, "breaks", "(I)I"⟩
abbrev cX12_screws : ByteArray := prog_14_method_86_code
def yX12_screws : MethodName := ⟨RX12, "screws", "(I)I"⟩
abbrev cX12_lawful : ByteArray := prog_14_method_87_code
def yX12_lawful : MethodName := ⟨RX12, "lawful", "()I"⟩
abbrev cX12_laysDoors : ByteArray := prog_14_method_88_code
def yX12_laysDoors : MethodName := ⟨RX12, "laysDoors", "(II)V"⟩
abbrev cX12_holds : ByteArray := prog_14_method_89_code
def yX12_holds : MethodName := ⟨RX12, "holds", "(I)I"⟩
abbrev cX12_beside : ByteArray := prog_14_method_90_code
def yX12_beside : MethodName := ⟨RX12, "beside", "(II)I"⟩
abbrev cX12_node : ByteArray := prog_14_method_91_code
def yX12_node : MethodName := ⟨RX12, "node", "(IIZ)I"⟩
abbrev cX12_visits : ByteArray := prog_14_method_92_code
def yX12_visits : MethodName := ⟨RX12, "visits", "(III)V"⟩
abbrev cX12_seeks : ByteArray := prog_14_method_93_code
def yX12_seeks : MethodName := ⟨RX12, "seeks", "(I)I"⟩
abbrev cX12_goesOut : ByteArray := prog_14_method_94_code
def yX12_goesOut : MethodName := ⟨RX12, "goesOut", "(I)V"⟩
abbrev cX12_outsOf : ByteArray := prog_14_method_95_code
def yX12_outsOf : MethodName := ⟨RX12, "outsOf", "(I)I"⟩
abbrev cX12_sitters : ByteArray := prog_14_method_96_code
def yX12_sitters : MethodName := ⟨RX12, "sitters", "()I"⟩
abbrev cX12_out : ByteArray := prog_14_method_97_code
def yX12_out : MethodName := ⟨RX12, "out", "(II)I"⟩
abbrev cX12_soonestOf : ByteArray := prog_14_method_98_code
def yX12_soonestOf : MethodName := ⟨RX12, "soonestOf", "(II)I"⟩
abbrev cX12_soonest : ByteArray := prog_14_method_99_code
def yX12_soonest : MethodName := ⟨RX12, "soonest", "(I)I"⟩
abbrev cX12_quickest : ByteArray := prog_14_method_100_code
def yX12_quickest : MethodName := ⟨RX12, "quickest", "(I)I"⟩
abbrev cX12_wider : ByteArray := prog_14_method_101_code
def yX12_wider : MethodName := ⟨RX12, "wider", "(III)I"⟩
abbrev cX12_worstBy : ByteArray := prog_14_method_102_code
def yX12_worstBy : MethodName := ⟨RX12, "worstBy", "(I)I"⟩
abbrev cX12_areGood : ByteArray := prog_14_method_103_code
def yX12_areGood : MethodName := ⟨RX12, "areGood", "(I)Z"⟩
abbrev cX12_standOf : ByteArray := prog_14_method_104_code
def yX12_standOf : MethodName := ⟨RX12, "standOf", "(I)I"⟩
abbrev cX12_stand : ByteArray := prog_14_method_105_code
def yX12_stand : MethodName := ⟨RX12, "stand", "(I)I"⟩
abbrev cX12_stands : ByteArray := prog_14_method_106_code
def yX12_stands : MethodName := ⟨RX12, "stands", "(I)I"⟩
abbrev cX12_needs : ByteArray := prog_14_method_107_code
def yX12_needs : MethodName := ⟨RX12, "needs", "()I"⟩
abbrev cX12_windOf : ByteArray := prog_14_method_108_code
def yX12_windOf : MethodName := ⟨RX12, "windOf", "(I)I"⟩
abbrev cX12_wind : ByteArray := prog_14_method_109_code
def yX12_wind : MethodName := ⟨RX12, "wind", "(I)I"⟩
abbrev cX12_calmest : ByteArray := prog_14_method_110_code
def yX12_calmest : MethodName := ⟨RX12, "calmest", "(I)I"⟩
abbrev cX12_cellOf : ByteArray := prog_14_method_111_code
def yX12_cellOf : MethodName := ⟨RX12, "cellOf", "(II)J"⟩
abbrev cX12_whyNotSeen : ByteArray := prog_14_method_112_code
def yX12_whyNotSeen : MethodName := ⟨RX12, "whyNotSeen", "(I)I"⟩
abbrev cX12_isSeen : ByteArray := prog_14_method_113_code
def yX12_isSeen : MethodName := ⟨RX12, "isSeen", "(II)Z"⟩
abbrev cX12_seen : ByteArray := prog_14_method_114_code
def yX12_seen : MethodName := ⟨RX12, "seen", "(I)J"⟩
abbrev cX12_asksOf : ByteArray := prog_14_method_115_code
def yX12_asksOf : MethodName := ⟨RX12, "asksOf", "(I)I"⟩
abbrev cX12_ask : ByteArray := prog_14_method_116_code
def yX12_ask : MethodName := ⟨RX12, "ask", "(I)I"⟩
abbrev cX12_leaves : ByteArray := prog_14_method_117_code
def yX12_leaves : MethodName := ⟨RX12, "leaves", "(I)I"⟩
abbrev cX12_whyNotFell : ByteArray := prog_14_method_118_code
def yX12_whyNotFell : MethodName := ⟨RX12, "whyNotFell", "(I)I"⟩
abbrev cX12_isFell : ByteArray := prog_14_method_119_code
def yX12_isFell : MethodName := ⟨RX12, "isFell", "(II)Z"⟩
abbrev cX12_fell : ByteArray := prog_14_method_120_code
def yX12_fell : MethodName := ⟨RX12, "fell", "(I)J"⟩
abbrev cX12_many : ByteArray := prog_14_method_121_code
def yX12_many : MethodName := ⟨RX12, "many", "(I)I"⟩
abbrev cX12_sure : ByteArray := prog_14_method_122_code
def yX12_sure : MethodName := ⟨RX12, "sure", "(II)I"⟩
abbrev cX12_knownOf : ByteArray := prog_14_method_123_code
def yX12_knownOf : MethodName := ⟨RX12, "knownOf", "(III)I"⟩
abbrev cX12_isGoodNow : ByteArray := prog_14_method_124_code
def yX12_isGoodNow : MethodName := ⟨RX12, "isGoodNow", "(II)Z"⟩
abbrev cX12_blindOf : ByteArray := prog_14_method_125_code
def yX12_blindOf : MethodName := ⟨RX12, "blindOf", "(III)I"⟩
abbrev cX12_known : ByteArray := prog_14_method_126_code
def yX12_known : MethodName := ⟨RX12, "known", "(III)I"⟩
abbrev cX12_blind : ByteArray := prog_14_method_127_code
def yX12_blind : MethodName := ⟨RX12, "blind", "(III)I"⟩
abbrev cX12_goes : ByteArray := prog_14_method_128_code
def yX12_goes : MethodName := ⟨RX12, "goes", "(III)I"⟩
abbrev cX12_worth : ByteArray := prog_14_method_129_code
def yX12_worth : MethodName := ⟨RX12, "worth", "(I)I"⟩
abbrev cX12_luredOf : ByteArray := prog_14_method_130_code
def yX12_luredOf : MethodName := ⟨RX12, "luredOf", "(II)I"⟩
abbrev cX12_lured : ByteArray := prog_14_method_131_code
def yX12_lured : MethodName := ⟨RX12, "lured", "(II)I"⟩
abbrev cX12_danger : ByteArray := prog_14_method_132_code
def yX12_danger : MethodName := ⟨RX12, "danger", "(I)I"⟩
abbrev cX12_claques : ByteArray := prog_14_method_133_code
def yX12_claques : MethodName := ⟨RX12, "claques", "(II)V"⟩
abbrev cX12_claque : ByteArray := prog_14_method_134_code
def yX12_claque : MethodName := ⟨RX12, "claque", "(II)I"⟩
abbrev cX12_lastly : ByteArray := prog_14_method_135_code
def yX12_lastly : MethodName := ⟨RX12, "lastly", "(II)I"⟩
abbrev cX12_changes : ByteArray := prog_14_method_136_code
def yX12_changes : MethodName := ⟨RX12, "changes", "(IIII)V"⟩
abbrev cX12_screw : ByteArray := prog_14_method_137_code
def yX12_screw : MethodName := ⟨RX12, "screw", "(II)I"⟩
abbrev cX12_king : ByteArray := prog_14_method_138_code
def yX12_king : MethodName := ⟨RX12, "king", "(III)I"⟩
abbrev cX12_seats : ByteArray := prog_14_method_139_code
def yX12_seats : MethodName := ⟨RX12, "seats", "(III)I"⟩
abbrev cX12_undo : ByteArray := prog_14_method_140_code
def yX12_undo : MethodName := ⟨RX12, "undo", "()I"⟩
abbrev cX12_draws : ByteArray := prog_14_method_141_code
def yX12_draws : MethodName := ⟨RX12, "draws", "(JI)V"⟩
abbrev cX12_isDraw : ByteArray := prog_14_method_142_code
def yX12_isDraw : MethodName := ⟨RX12, "isDraw", "(II)Z"⟩
abbrev cX12_drawn : ByteArray := prog_14_method_143_code
def yX12_drawn : MethodName := ⟨RX12, "drawn", "(III)I"⟩
abbrev cX12_lucky : ByteArray := prog_14_method_144_code
def yX12_lucky : MethodName := ⟨RX12, "lucky", "(III)I"⟩
abbrev cX12_count : ByteArray := prog_14_method_145_code
def yX12_count : MethodName := ⟨RX12, "count", "(I)I"⟩
abbrev cX12_image : ByteArray := prog_14_method_146_code
def yX12_image : MethodName := ⟨RX12, "image", "(I)I"⟩
abbrev cX12_back : ByteArray := prog_14_method_147_code
def yX12_back : MethodName := ⟨RX12, "back", "(I)I"⟩
def RJ6 : String := "java/lang/Integer"
def TJ6 : u_T := fun k => match k with
  | _ => ("", "", "", false)
def tyJ6 : Nat → FieldType := fun k => match k with
  | _ => .int
abbrev wsJ60 : List Cond := u_ws RJ6 TJ6 0
theorem nmJ6 : ∀ a, a < 0 → ∀ b, b < 0 → a ≠ b → (TJ6 a).2.1 ≠ (TJ6 b).2.1 := by decide +kernel
theorem tyJ6_ok : ∀ k, k < 0 → parseFieldDescriptor (TJ6 k).2.2.1 = some (tyJ6 k) := by decide +kernel
abbrev cJ6_bitCount_0f7a4 : ByteArray := prog_15_method_49_code
def yJ6_bitCount_0f7a4 : MethodName := ⟨RJ6, "bitCount", "(I)I"⟩
def RJ13 : String := "java/lang/Long"
def TJ13 : u_T := fun k => match k with
  | _ => ("", "", "", false)
def tyJ13 : Nat → FieldType := fun k => match k with
  | _ => .int
abbrev wsJ130 : List Cond := u_ws RJ13 TJ13 0
theorem nmJ13 : ∀ a, a < 0 → ∀ b, b < 0 → a ≠ b → (TJ13 a).2.1 ≠ (TJ13 b).2.1 := by decide +kernel
theorem tyJ13_ok : ∀ k, k < 0 → parseFieldDescriptor (TJ13 k).2.2.1 = some (tyJ13 k) := by decide +kernel
abbrev cJ13_bitCount_95d88 : ByteArray := prog_16_method_50_code
def yJ13_bitCount_95d88 : MethodName := ⟨RJ13, "bitCount", "(J)I"⟩
def RJ9 : String := "java/lang/Math"
def TJ9 : u_T := fun k => match k with
  | _ => ("", "", "", false)
def tyJ9 : Nat → FieldType := fun k => match k with
  | _ => .int
abbrev wsJ90 : List Cond := u_ws RJ9 TJ9 0
theorem nmJ9 : ∀ a, a < 0 → ∀ b, b < 0 → a ≠ b → (TJ9 a).2.1 ≠ (TJ9 b).2.1 := by decide +kernel
theorem tyJ9_ok : ∀ k, k < 0 → parseFieldDescriptor (TJ9 k).2.2.1 = some (tyJ9 k) := by decide +kernel
abbrev cJ9_abs_0f7a4 : ByteArray := prog_17_method_59_code
def yJ9_abs_0f7a4 : MethodName := ⟨RJ9, "abs", "(I)I"⟩
abbrev cJ9_max_7cf53 : ByteArray := prog_17_method_65_code
def yJ9_max_7cf53 : MethodName := ⟨RJ9, "max", "(II)I"⟩
abbrev cJ9_min_7cf53 : ByteArray := prog_17_method_69_code
def yJ9_min_7cf53 : MethodName := ⟨RJ9, "min", "(II)I"⟩
def RJ10 : String := "java/lang/System"
def TJ10 : u_T := fun k => match k with
  | _ => ("", "", "", false)
def tyJ10 : Nat → FieldType := fun k => match k with
  | _ => .int
abbrev wsJ100 : List Cond := u_ws RJ10 TJ10 0
theorem nmJ10 : ∀ a, a < 0 → ∀ b, b < 0 → a ≠ b → (TJ10 a).2.1 ≠ (TJ10 b).2.1 := by decide +kernel
theorem tyJ10_ok : ∀ k, k < 0 → parseFieldDescriptor (TJ10 k).2.2.1 = some (tyJ10 k) := by decide +kernel
def RL : String := "MovingExitsLaw"
abbrev cL_law : ByteArray := code
def yL_law : MethodName := ⟨RL, "law", "([I)Z"⟩
set_option maxRecDepth 20000 in
abbrev vwCl : List vw_C := [(RX0, TX0, 5), (RX1, TX1, 5), (RX2, TX2, 2), (RX3, TX3, 3), (RX4, TX4, 2), (RX5, TX5, 16), (RX6, TX6, 10), (RX7, TX7, 15), (RX8, TX8, 3), (RX9, TX9, 1), (RX10, TX10, 2), (RX11, TX11, 13), (RX12, TX12, 36)]
/-! the words that keep: every one of the tables that is a good word -/
def TB : List Cond := lw_tbl.filter goodWord
theorem tb_good {w : Cond} (h : w ∈ TB) : goodWord w = true := (List.mem_filter.mp h).2
theorem tb_lw {w : Cond} (h : w ∈ TB) : w ∈ lw_tbl := (List.mem_filter.mp h).1
theorem tb_tab {w : Cond} (h : w ∈ tables_1) (g : goodWord w = true) : w ∈ TB := List.mem_filter.mpr ⟨List.mem_append_right _ h, g⟩
theorem tb_sel {w : Cond} {i : Nat} (h : (k2_sels lw_privs)[i]? = some w) : w ∈ TB := by
  have hm : w ∈ k2_sels lw_privs := List.mem_of_getElem? h
  refine List.mem_filter.mpr ⟨List.mem_append_left _ hm, ?_⟩
  obtain ⟨q, -, rfl⟩ := List.mem_map.mp hm
  rfl
theorem tb_in1 {w : Cond} {i : Nat} (h : tables_1_1[i]? = some w) (g : goodWord w = true) : w ∈ TB := tb_tab (List.mem_append_left _ (List.mem_of_getElem? h)) g
theorem tb_in2 {w : Cond} {i : Nat} (h : tables_1_2[i]? = some w) (g : goodWord w = true) : w ∈ TB := tb_tab (List.mem_append_right _ (List.mem_append_left _ (List.mem_of_getElem? h))) g
theorem tb_in3 {w : Cond} {i : Nat} (h : tables_1_3[i]? = some w) (g : goodWord w = true) : w ∈ TB := tb_tab (List.mem_append_right _ (List.mem_append_right _ (List.mem_append_left _ (List.mem_of_getElem? h)))) g
theorem tb_in4 {w : Cond} {i : Nat} (h : tables_1_4[i]? = some w) (g : goodWord w = true) : w ∈ TB := tb_tab (List.mem_append_right _ (List.mem_append_right _ (List.mem_append_right _ (List.mem_append_left _ (List.mem_of_getElem? h))))) g
theorem tb_in5 {w : Cond} {i : Nat} (h : tables_1_5[i]? = some w) (g : goodWord w = true) : w ∈ TB := tb_tab (List.mem_append_right _ (List.mem_append_right _ (List.mem_append_right _ (List.mem_append_right _ (List.mem_append_left _ (List.mem_of_getElem? h)))))) g
theorem tb_in6 {w : Cond} {i : Nat} (h : tables_1_6[i]? = some w) (g : goodWord w = true) : w ∈ TB := tb_tab (List.mem_append_right _ (List.mem_append_right _ (List.mem_append_right _ (List.mem_append_right _ (List.mem_append_right _ (List.mem_append_left _ (List.mem_of_getElem? h))))))) g
theorem tb_in7 {w : Cond} {i : Nat} (h : tables_1_7[i]? = some w) (g : goodWord w = true) : w ∈ TB := tb_tab (List.mem_append_right _ (List.mem_append_right _ (List.mem_append_right _ (List.mem_append_right _ (List.mem_append_right _ (List.mem_append_right _ (List.mem_append_left _ (List.mem_of_getElem? h)))))))) g
theorem tb_in8 {w : Cond} {i : Nat} (h : tables_1_8[i]? = some w) (g : goodWord w = true) : w ∈ TB := tb_tab (List.mem_append_right _ (List.mem_append_right _ (List.mem_append_right _ (List.mem_append_right _ (List.mem_append_right _ (List.mem_append_right _ (List.mem_append_right _ (List.mem_of_getElem? h)))))))) g
theorem tb_call {y y' : MethodName} {c c' : ByteArray} {n n' : Nat} {r r' : Option FieldType} (h : Cond.code y' c' n' r' ∈ TB) : GoodIn (Cond.code y c n r :: TB) (Cond.code y' c' n' r' :: TB) := by
  intro w hw
  have hm : w ∈ TB := (List.mem_cons.mp hw).elim (fun e => by rw [e]; exact h) id
  exact ⟨List.mem_cons_of_mem _ hm, good_of_word (tb_good hm)⟩
theorem tb_law {y' : MethodName} {c' : ByteArray} {n' : Nat} {r' : Option FieldType} (h : Cond.code y' c' n' r' ∈ TB) : GoodIn TB (Cond.code y' c' n' r' :: TB) := by
  intro w hw
  have hm : w ∈ TB := (List.mem_cons.mp hw).elim (fun e => by rw [e]; exact h) id
  exact ⟨hm, good_of_word (tb_good hm)⟩
theorem tb_by {ws : List Cond} (ps : List Nat) (h : ws = ps.filterMap (fun i => tables_1[i]?)) (g : ws.all goodWord = true) : ∀ w ∈ ws, w ∈ TB := by
  intro w hw
  have g1 := List.all_eq_true.mp g w hw
  rw [h] at hw
  obtain ⟨i, -, hi⟩ := List.mem_filterMap.mp hw
  exact tb_tab (List.mem_of_getElem? hi) g1
theorem inT0 : ∀ w ∈ wsX00, w ∈ TB := tb_by [250, 252, 254, 256, 258] (by decide +kernel) (by decide +kernel)
theorem inT1 : ∀ w ∈ wsX10, w ∈ TB := tb_by [67, 69, 71, 73, 75] (by decide +kernel) (by decide +kernel)
theorem inT2 : ∀ w ∈ wsX20, w ∈ TB := tb_by [269, 271] (by decide +kernel) (by decide +kernel)
theorem inT3 : ∀ w ∈ wsX30, w ∈ TB := tb_by [360, 362, 364] (by decide +kernel) (by decide +kernel)
theorem inT4 : ∀ w ∈ wsX40, w ∈ TB := tb_by [282, 284] (by decide +kernel) (by decide +kernel)
theorem inT5 : ∀ w ∈ wsX50, w ∈ TB := tb_by [143, 145, 147, 149, 151, 153, 155, 157, 159, 161, 163, 165, 167, 169, 171, 173] (by decide +kernel) (by decide +kernel)
theorem inT6 : ∀ w ∈ wsX60, w ∈ TB := tb_by [214, 216, 218, 220, 222, 224, 226, 228, 230, 232] (by decide +kernel) (by decide +kernel)
theorem inT7 : ∀ w ∈ wsX70, w ∈ TB := tb_by [308, 310, 312, 314, 316, 318, 320, 322, 324, 326, 328, 330, 332, 334, 336] (by decide +kernel) (by decide +kernel)
theorem inT8 : ∀ w ∈ wsX80, w ∈ TB := tb_by [188, 190, 192] (by decide +kernel) (by decide +kernel)
theorem inT9 : ∀ w ∈ wsX90, w ∈ TB := tb_by [346] (by decide +kernel) (by decide +kernel)
theorem inT10 : ∀ w ∈ wsX100, w ∈ TB := tb_by [35, 37] (by decide +kernel) (by decide +kernel)
theorem inT11 : ∀ w ∈ wsX110, w ∈ TB := tb_by [380, 382, 384, 386, 388, 390, 392, 394, 396, 398, 400, 402, 404] (by decide +kernel) (by decide +kernel)
theorem inT12 : ∀ w ∈ wsX120, w ∈ TB := tb_by [1221, 1223, 1225, 1227, 1229, 1231, 1233, 1235, 1237, 1239, 1241, 1243, 1245, 1247, 1249, 1251, 1253, 1255, 1257, 1259, 1261, 1263, 1265, 1267, 1269, 1271, 1273, 1275, 1277, 1279, 1281, 1283, 1285, 1287, 1289, 1291] (by decide +kernel) (by decide +kernel)
end
section
/-! ===== one list of array classes, the links between nest mates, contracts of one shape ===== -/
/-- the array classes of the system: bytes, ints, longs, booleans, Halls, Slots -/
abbrev tyL (t : Nat → ClassId) : List (ClassId × FieldType) := [(t 0, .byte), (t 1, .int), (t 2, .long), (t 3, .boolean), (t 4, .object "MovingExits$Hall"), (t 5, .object "MovingExits$Slot")]
abbrev tyK (G : va_G) (t : Nat → ClassId) (U : State) : Prop := va_K G vwCl (tyL t) U
theorem tyK_same {G : va_G} {cl : List vw_C} {tys : List (ClassId × FieldType)} {cA cB : ClassId} {ty : FieldType} {U : State} (h : va_K G cl (tys ++ [(cA, ty)]) U) (k : Nat) (hk : tys[k]? = some (cB, ty)) : cA = cB := by
  have h1 := (h.2 tys.length (cA, ty) (by simp)).2
  have h2 := (h.2 k (cB, ty) (by
    rw [List.getElem?_append_left (List.getElem?_eq_some_iff.mp hk).1]; exact hk)).2
  dsimp only at h1 h2
  cases ty with
  | object C =>
    obtain ⟨_, _, _, _, _, e1⟩ := h1
    obtain ⟨_, _, _, _, _, e2⟩ := h2
    rw [e1] at e2
    exact Option.some.inj e2
  | _ =>
    have e1 : U.vm.findClass _ = some cA := h1
    have e2 : U.vm.findClass _ = some cB := h2
    rw [e1] at e2
    exact Option.some.inj e2
/-- the links between nest mates -/
def nestL : List Cond := [.methodLinkNest RX11 9 yX10_init RX11, .methodLinkNest RX11 32 yX5_init RX11, .methodLinkNest RX11 40 yX8_init RX11, .methodLinkNest RX11 84 yX9_init RX11, .methodLinkNest RX5 38 yX1_init RX11]
def nestOK (U : State) : Prop := (∀ w ∈ nestL, va_Nw w U) ∧ va_AO RX5 U ∧ va_AO RX8 U
theorem nestL_in : ∀ w ∈ nestL, w ∈ lw_tbl := by decide +kernel
theorem nestOK.warm {s U : State} (hW : s.WarmedH U.vm) (h : nestOK s) : nestOK U := by
  refine ⟨?_, h.2.1.moved hW.alike, h.2.2.moved hW.alike⟩
  intro w hw
  have h1 := h.1 w hw
  simp only [nestL, List.mem_cons, List.not_mem_nil, or_false] at hw
  rcases hw with rfl | rfl | rfl | rfl | rfl <;> exact va_Nw.warmM hW h1
theorem nestOK.calling {U : State} (h : nestOK U) (g : JFrame) (mk : MethodId) (a : Array Value) : nestOK (U.calling g mk a) := by
  refine ⟨fun w hw => va_Nw.same (u := U) (U := U.calling g mk a) ?_ rfl (h.1 w hw), h.2.1.moved (Vm.Alike.refl U.vm), h.2.2.moved (Vm.Alike.refl U.vm)⟩
  simp only [nestL, List.mem_cons, List.not_mem_nil, or_false] at hw
  rcases hw with rfl | rfl | rfl | rfl | rfl <;> rfl
/-- what a method finds: its cells, the classes, the links -/
def cPre (G : va_G) (t : Nat → ClassId) (av : List Value) (wc : va_W) (sz : Nat) : Array Value → State → Prop := va_Pc av (fun U => U.heap.size = sz ∧ va_P G vwCl wc U.heap ∧ tyK G t U ∧ nestOK U ∧ va_D (fun _ => True) wc)
def QI (G : va_G) {S : Type} (post : Int32 → S → Prop) (w1 : S → va_W) (A : Nat → Prop) : Array Value → State → Outcome → State → Prop := va_Qi post (fun u T => va_P G vwCl (w1 u) T.heap ∧ va_D A (w1 u)) A
def QL (G : va_G) {S : Type} (post : Int64 → S → Prop) (w1 : S → va_W) (A : Nat → Prop) : Array Value → State → Outcome → State → Prop := va_Ql post (fun u T => va_P G vwCl (w1 u) T.heap ∧ va_D A (w1 u)) A
def QV (G : va_G) {S : Type} (post : S → Prop) (w1 : S → va_W) (A : Nat → Prop) : Array Value → State → Outcome → State → Prop := va_Qv post (fun u T => va_P G vwCl (w1 u) T.heap ∧ va_D A (w1 u)) A
def Ct (l : Launch) (G : va_G) (t : Nat → ClassId) (y : MethodName) (c : ByteArray) (n : Nat) (rt : Option FieldType) (rm : Room) (av : List Value) (wc : va_W) (Qf : (Nat → Prop) → Array Value → State → Outcome → State → Prop) : Prop := ∀ sz, Met l y (Cond.code y c n rt :: TB) rm (cPre G t av wc sz) (Qf (va_A wc sz)) rm.cells rm.slots (va_A wc sz)
theorem cPre_blind {G : va_G} {t : Nat → ClassId} {av : List Value} {wc : va_W} {sz : Nat} : FrameBlind (cPre G t av wc sz) := fun a U g mk q => by
  obtain ⟨q0, q1, qP, qK, qN, qD⟩ := q
  exact ⟨q0, q1, qP, va_K.moved (u := U) (U := U.calling g mk a) (Vm.Alike.refl U.vm) qK, qN.calling g mk a, qD⟩
theorem ent {l : Launch} {G : va_G} {t : Nat → ClassId} {y : MethodName} {cc : ByteArray} {n : Nat} {rt : Option FieldType} {rm : Room} {av : List Value} {wc : va_W} {Qf : (Nat → Prop) → Array Value → State → Outcome → State → Prop} (hy : plainName y.cls = true) (hn : (lg_sl av).length ≤ n)
    (body : ∀ (p : Program) (e : Env) (s : State) (m : MethodId) (args : Array Value) (below : List Frame) (meth : Method) (c : Code), p.tables.exec = Jvm.exec → c.code = cc → meth.sig.returnType = rt → c.maxLocals = n → (∀ w ∈ TB, w.before args s = true) → s.vm.findClass y.cls = some m.cls → meth.locks = false → meth.name = y.name → ∀ A : Nat → Prop, (∀ q : Nat, s.heap.size ≤ q → A q) → tyK G t s → nestOK s → va_P G vwCl wc s.heap → va_D A wc → va_S A s.heap s.heap [] → ∀ ls : Array Slot, lv_has ls n (lv_args 0 av) →
      W p l e rm s m args below meth c s.heap [] 0 0 (MQ below (Qf A) args s rm.cells rm.slots A) (F0 m 0 ls [])) : Ct l G t y cc n rt rm av wc Qf := by
  intro sz
  refine Met.ofW (cc := cc) (maxL := n) (ret := rt) hy rfl ?_
  intro p e s m args below meth c s₁ B hml hv
  obtain ⟨rfl, hsz, hP, hK, hN, hD0⟩ := hv
  subst hsz
  have hD := hD0.self (sz := s.heap.size)
  have hl := lv_entry av (n := n) hn
  rw [lg_entry_eq]
  exact body p e s m av.toArray below meth c B.exec B.bytes B.returns hml (fun w h => atoms_spec (ws := Cond.code y cc n rt :: TB) B.pre w (List.mem_cons_of_mem _ h)) (findClass_of_methodNamed B.named) B.notSynchronized (name_of_methodNamed B.named B.method).1 (va_A wc s.heap.size) (fun q h => Or.inr h) hK hN hP hD va_S.rf _ hl
section RW
variable {p : Program} {l : Launch} {e : Env} {R : Room} {s : State} {m : MethodId} {args : Array Value} {below : List Frame} {meth : Method} {c : Code} {H H0 : Heap} {locs : List Loc} {cells slots : Nat} {Q : State → Prop}
variable {cc : ByteArray} {pc : Nat} {ls : Array Slot} {rest : List Value} {G : va_G} {t : Nat → ClassId} {ws wc wr : va_W} {A : Nat → Prop} {own : String} {index a b nL : Nat} {S : Type}
theorem gf (hx : p.tables.exec = Jvm.exec) (hb : c.code = cc) (hts : ∀ w ∈ TB, w.before args s = true) (hown : s.vm.findClass own = some m.cls) (hK : tyK G t s) (hP : va_P G vwCl ws H) (q0 : Nat) {ci N : Nat} {C : String} {T : u_T} {fs : List Value} (hin : ∀ w ∈ u_ws C T N, w ∈ TB) (he : ws[q0]? = some (a, .inr (ci, fs))) (hc : vwCl[ci]? = some (C, T, N)) (k : Nat) (hk : k < N) (hlink : Cond.fieldLink own index (T k).1 (T k).2.1 (T k).2.2.1 ∈ TB) {v : Value} (hv : fs[k]? = some v) (hdg : decode cc pc = .ok (.getfield index, 3))
    (kk : W p l e R s m args below meth c H locs cells slots Q (F0 m (pc + 3) ls (v :: rest))) : W p l e R s m args below meth c H locs cells slots Q (F0 m pc ls (.ref a :: rest)) :=
  va_get hx hb hts hin hown hK hP q0 he hc k hk (hts _ hlink) (fun _ h => h) hv hdg kk
theorem pf (hx : p.tables.exec = Jvm.exec) (hb : c.code = cc) (hts : ∀ w ∈ TB, w.before args s = true) (hown : s.vm.findClass own = some m.cls) (hK : tyK G t s) (hP : va_P G vwCl ws H) (hD : va_D A ws) (hS : va_S A H0 H locs) (q0 : Nat) {ci N : Nat} {C : String} {T : u_T} {fs : List Value} (hin : ∀ w ∈ u_ws C T N, w ∈ TB) {ty0 : Nat → FieldType} (hty : ∀ k, k < N → parseFieldDescriptor (T k).2.2.1 = some (ty0 k)) (hnm : ∀ a, a < N → ∀ b, b < N → a ≠ b → (T a).2.1 ≠ (T b).2.1) (he : ws[q0]? = some (a, .inr (ci, fs))) (hc : vwCl[ci]? = some (C, T, N)) (k : Nat) (hk : k < N) (hlink : Cond.fieldLink own index (T k).1 (T k).2.1 (T k).2.2.1 ∈ TB) (hfin : (T k).2.2.2 = false) {v : Value} (hn : narrow (ty0 k) v = v) (hfit : fits (ty0 k) v = true) (hl : k < fs.length) (hdg : decode cc pc = .ok (.putfield index, 3)) {ws' : va_W} (hw : ws.set q0 (a, .inr (ci, fs.set k v)) = ws')
    (kk : ∀ (H1 : Heap) (locs1 : List Loc), va_P G vwCl ws' H1 → va_D A ws' → va_S A H0 H1 locs1 → W p l e R s m args below meth c H1 locs1 cells slots Q (F0 m (pc + 3) ls rest)) : W p l e R s m args below meth c H locs cells slots Q (F0 m pc ls (v :: .ref a :: rest)) := by
  subst hw
  exact va_put hx hb hts hin ty0 hty hnm hown hK hP hD hS q0 he hc k hk (hts _ hlink) (fun _ h => h) hfin (hty k hk) hn hfit hl hdg kk
theorem pfF (hx : p.tables.exec = Jvm.exec) (hb : c.code = cc) (hts : ∀ w ∈ TB, w.before args s = true) (hown : s.vm.findClass own = some m.cls) (hK : tyK G t s) (hP : va_P G vwCl ws H) (hD : va_D A ws) (hS : va_S A H0 H locs) (q0 : Nat) {ci N : Nat} {C : String} {T : u_T} {fs : List Value} (hin : ∀ w ∈ u_ws C T N, w ∈ TB) {ty0 : Nat → FieldType} (hty : ∀ k, k < N → parseFieldDescriptor (T k).2.2.1 = some (ty0 k)) (hnm : ∀ a, a < N → ∀ b, b < N → a ≠ b → (T a).2.1 ≠ (T b).2.1) (he : ws[q0]? = some (a, .inr (ci, fs))) (hc : vwCl[ci]? = some (C, T, N)) (k : Nat) (hk : k < N) (hlink : Cond.fieldLink own index (T k).1 (T k).2.1 (T k).2.2.1 ∈ TB) (hfin : (T k).2.2.2 = true) (hin2 : meth.name = "<init>") (hdecl : (T k).1 = own) {v : Value} (hn : narrow (ty0 k) v = v) (hfit : fits (ty0 k) v = true) (hl : k < fs.length) (hdg : decode cc pc = .ok (.putfield index, 3)) {ws' : va_W} (hw : ws.set q0 (a, .inr (ci, fs.set k v)) = ws')
    (kk : ∀ (H1 : Heap) (locs1 : List Loc), va_P G vwCl ws' H1 → va_D A ws' → va_S A H0 H1 locs1 → W p l e R s m args below meth c H1 locs1 cells slots Q (F0 m (pc + 3) ls rest)) : W p l e R s m args below meth c H locs cells slots Q (F0 m pc ls (v :: .ref a :: rest)) := by
  subst hw
  exact va_putF hx hb hts hin ty0 hty hnm hown hK hP hD hS q0 he hc k hk (hts _ hlink) (fun _ h => h) hfin hin2 hdecl (hty k hk) hn hfit hl hdg kk
theorem nw (hx : p.tables.exec = Jvm.exec) (hb : c.code = cc) (hts : ∀ w ∈ TB, w.before args s = true) (hown : s.vm.findClass own = some m.cls) (hK : tyK G t s) (hP : va_P G vwCl ws H) (hD : va_D A ws) (hS : va_S A H0 H locs) (hA : ∀ q, H0.size ≤ q → A q) {ci N : Nat} {C : String} {T : u_T} (hin : ∀ w ∈ u_ws C T N, w ∈ TB) {ty0 : Nat → FieldType} (hty : ∀ k, k < N → parseFieldDescriptor (T k).2.2.1 = some (ty0 k)) (hcl : Cond.classLink own index C ∈ TB) (hinst : Cond.instantiable C N ∈ TB) (hini : Cond.initialized C ∈ TB) (hc : vwCl[ci]? = some (C, T, N)) {fs : List Value} (hfs : ∀ j, j < N → defaultValue (ty0 j) = vp_V fs j) (hcells : cells + 1 ≤ R.cells) (hslots : slots + N ≤ R.slots) (hdg : decode cc pc = .ok (.new index, 3))
    (kk : ∀ (q : Nat) (H1 : Heap), va_P G vwCl (ws ++ [(q, .inr (ci, fs))]) H1 → va_D A (ws ++ [(q, .inr (ci, fs))]) → va_S A H0 H1 locs → W p l e R s m args below meth c H1 locs (cells + 1) (slots + N) Q (F0 m (pc + 3) ls (.ref q :: rest))) : W p l e R s m args below meth c H locs cells slots Q (F0 m pc ls rest) :=
  va_new hx hb hts hin ty0 hty hown (hts _ hcl) (hts _ hinst) (hts _ hini) hK hP hD hS hA hc hfs hcells hslots hdg kk
theorem nwa (hx : p.tables.exec = Jvm.exec) (hb : c.code = cc) (hts : ∀ w ∈ TB, w.before args s = true) (hK : tyK G t s) (hP : va_P G vwCl ws H) (hD : va_D A ws) (hS : va_S A H0 H locs) (hA : ∀ q, H0.size ≤ q → A q) {atype : ArrayType} {ty : FieldType} (harr : Cond.arrayClass ty ∈ TB) (hty : newarray.typeOf atype = ty) (kt : Nat) (hkt : (tyL t)[kt]? = some (t kt, ty)) {n : Int32} (N : Nat) (a0 : vp_A) (ha : ∀ cA : ClassId, vp_cell cA a0 = arrV cA N (fun _ => defaultValue ty)) (hn : ¬ n < 0) (hN : n.toNatClampNeg = N) (hbytes : N * componentBytes ty ≤ 536870912) (hcells : cells + 1 ≤ R.cells) (hslots : slots + N ≤ R.slots) (hdg : decode cc pc = .ok (.newarray atype, 2))
    (kk : ∀ (q : Nat) (H1 : Heap), va_P G vwCl (ws ++ [(q, .inl (t kt, a0))]) H1 → va_D A (ws ++ [(q, .inl (t kt, a0))]) → va_S A H0 H1 locs → W p l e R s m args below meth c H1 locs (cells + 1) (slots + N) Q (F0 m (pc + 2) ls (.ref q :: rest))) : W p l e R s m args below meth c H locs cells slots Q (F0 m pc ls (.int n :: rest)) := by
  subst hty
  refine va_newa hx hb (hts _ harr) rfl hK hP hD hS hA ha hn hN hbytes hcells hslots hdg (fun q cA H1 hK1 hP1 hD1 hS1 => ?_)
  obtain rfl := tyK_same hK1 kt hkt
  exact kk q H1 hP1 hD1 hS1
theorem nwq (hx : p.tables.exec = Jvm.exec) (hb : c.code = cc) (hts : ∀ w ∈ TB, w.before args s = true) (hown : s.vm.findClass own = some m.cls) (hK : tyK G t s) (hP : va_P G vwCl ws H) (hD : va_D A ws) (hS : va_S A H0 H locs) (hA : ∀ q, H0.size ≤ q → A q) {C : String} (hcl : Cond.classLink own index C ∈ TB) (hover : va_AO C s) (kt : Nat) (hkt : (tyL t)[kt]? = some (t kt, .object C)) {n : Int32} (N : Nat) (hn : ¬ n < 0) (hN : n.toNatClampNeg = N) (hbytes : N * 4 ≤ 536870912) (hcells : cells + 1 ≤ R.cells) (hslots : slots + N ≤ R.slots) (hdg : decode cc pc = .ok (.anewarray index, 3))
    (kk : ∀ (q : Nat) (H1 : Heap), va_P G vwCl (ws ++ [(q, .inl (t kt, N, .inr (.inr (.inr (.inr (fun _ => none))))))]) H1 → va_D A (ws ++ [(q, .inl (t kt, N, .inr (.inr (.inr (.inr (fun _ => none))))))]) → va_S A H0 H1 locs → W p l e R s m args below meth c H1 locs (cells + 1) (slots + N) Q (F0 m (pc + 3) ls (.ref q :: rest))) : W p l e R s m args below meth c H locs cells slots Q (F0 m pc ls (.int n :: rest)) := by
  refine va_newq hx hb hown (hts _ hcl) hover hK hP hD hS hA hn hN hbytes hcells hslots hdg (fun q cA H1 hK1 hP1 hD1 hS1 => ?_)
  obtain rfl := tyK_same hK1 kt hkt
  exact kk q H1 hP1 hD1 hS1
theorem obi (hx : p.tables.exec = Jvm.exec) (hb : c.code = cc) (hts : ∀ w ∈ TB, w.before args s = true) (hown : s.vm.findClass own = some m.cls) (hml : c.maxLocals = nL) (hsz : ls.size = nL) (hlink : Cond.methodLink own index objectInit ∈ TB) (hinst : Cond.instanceMethod objectInit ∈ TB) (hcode : Cond.code objectInit ⟨#[0xb1]⟩ 1 none ∈ TB) (hdg : decode cc pc = .ok (.invokespecial index, 3)) (hframes : 1 ≤ R.frames) (hlocals : (rest.map fun v => v.category).sum + 12 ≤ R.locals)
    (kk : W p l e R s m args below meth c H locs cells slots Q (F0 m (pc + 3) ls rest)) : W p l e R s m args below meth c H locs cells slots Q (F0 m pc ls (.ref a :: rest)) :=
  W.objInit hx hb hown (hts _ hlink) (hts _ hinst) (hts _ hcode) rfl (by rw [hml]; exact hsz) rfl hdg hframes (by show 2 * 0 + _ + 12 ≤ _; rw [Nat.mul_zero, Nat.zero_add]; exact hlocals) kk
/-- a call's own facts: its words, its descriptor -/
abbrev LkD (y : MethodName) (n : Nat) : Prop := y.cls ≠ "java/lang/invoke/MethodHandle" ∧ y.cls ≠ "java/lang/invoke/VarHandle" ∧ (parseMethodDescriptor y.desc).map (fun d => d.parameters.length) = some n
abbrev LkV (own : String) (index : Nat) (y : MethodName) (c : ByteArray) (n : Nat) (rt : Option FieldType) (k : Nat) : Prop := Cond.methodLink own index y ∈ TB ∧ Cond.instanceMethod y ∈ TB ∧ Cond.selects y.cls y y ∈ TB ∧ Cond.initialized y.cls ∈ TB ∧ Cond.code y c n rt ∈ TB ∧ LkD y k
abbrev LkS (own : String) (index : Nat) (y : MethodName) (c : ByteArray) (n : Nat) (rt : Option FieldType) (k : Nat) : Prop := Cond.methodLink own index y ∈ TB ∧ Cond.static y ∈ TB ∧ Cond.initialized y.cls ∈ TB ∧ Cond.code y c n rt ∈ TB ∧ LkD y k
abbrev LkI (own : String) (index : Nat) (y : MethodName) (c : ByteArray) (n : Nat) (k : Nat) : Prop := Cond.methodLink own index y ∈ TB ∧ Cond.instanceMethod y ∈ TB ∧ Cond.initialized y.cls ∈ TB ∧ Cond.code y c n none ∈ TB ∧ LkD y k
abbrev LkN (own : String) (index : Nat) (y : MethodName) (c : ByteArray) (n : Nat) (k : Nat) : Prop := Cond.methodLinkNest own index y RX11 ∈ nestL ∧ Cond.instanceMethod y ∈ TB ∧ Cond.initialized y.cls ∈ TB ∧ Cond.code y c n none ∈ TB ∧ LkD y k
abbrev Cx (p : Program) (s : State) (m : MethodId) (args : Array Value) (c : Code) (cc : ByteArray) (nL : Nat) (own : String) (G : va_G) (t : Nat → ClassId) : Prop := p.tables.exec = Jvm.exec ∧ c.code = cc ∧ c.maxLocals = nL ∧ s.vm.findClass own = some m.cls ∧ (∀ w ∈ TB, w.before args s = true) ∧ tyK G t s ∧ nestOK s
variable {y : MethodName} {c2 : ByteArray} {n2 k2 : Nat} {rt2 : Option FieldType} {rm : Room} {As : List Value} {Qf : (Nat → Prop) → Array Value → State → Outcome → State → Prop}
theorem run_pre (C : Cx p s m args c cc nL own G t) (hP : va_P G vwCl wc H) (hD : va_D A wc) (av : List Value) : PreS s H (cPre G t av wc H.size) av :=
  ⟨cPre_blind, fun U hU hW => ⟨rfl, by rw [hU], by rw [hU]; exact hP, va_K.moved hW.alike C.2.2.2.2.2.1, C.2.2.2.2.2.2.warm hW, hD.weaken (fun _ _ _ _ => trivial)⟩⟩
theorem rnV (C : Cx p s m args c cc nL own G t) (hM : Ct l G t y c2 n2 rt2 rm (.ref b :: As) wc Qf) (L : LkV own index y c2 n2 rt2 k2) (hR : rm.frames + 1 ≤ R.frames ∧ 8 + (n2 + 11) + rm.locals ≤ R.locals) (hP : va_P G vwCl wc H) (hD : va_D A wc) (q0 ci : Nat) {q : vw_C} {fs : List Value} (hc : vwCl[ci]? = some q) (he : wc[q0]? = some (b, .inr (ci, fs))) (hcl : y.cls = q.1) (hn : As.length = k2) (hsz : ls.size = nL) {st0 : List Value} (hst : st0 = As.reverse ++ .ref b :: rest) (hW : (rest.map fun v => v.category).sum ≤ 8) (hdg : decode cc pc = .ok (.invokevirtual index, 3)) (hf : cells + rm.cells ≤ R.cells ∧ slots + rm.slots ≤ R.slots) :
    va_Run p l e R s m args below meth c H locs cells slots rm.cells rm.slots (F0 m pc ls st0) rest (Qf (va_A wc H.size) (Value.ref b :: As).toArray) (va_A wc H.size) := by
  obtain ⟨h1, h2, h3, h4, h5, h6⟩ := L
  have hts := C.2.2.2.2.1
  have hG := tb_law h5
  refine va_runV (C := y.cls) (As := As) ⟨C.1, C.2.1, C.2.2.1, C.2.2.2.1, hts⟩ (hM H.size) (⟨callB_of k2 hts hG rfl rfl rfl (hts _ h4) (hts _ h1) h6 hR, hts _ h2, hts _ h3⟩) ⟨cPre_blind, ?_, (run_pre C hP hD _).2⟩ rfl hn hsz hst ?_ hdg hf
  · rw [hcl]; exact va_recv C.2.2.2.2.2.1 hP hc he
  · show 2 * 0 + _ ≤ 8; rw [Nat.mul_zero, Nat.zero_add]; exact hW
theorem rnS (C : Cx p s m args c cc nL own G t) (hM : Ct l G t y c2 n2 rt2 rm As wc Qf) (L : LkS own index y c2 n2 rt2 k2) (hR : rm.frames + 1 ≤ R.frames ∧ 8 + (n2 + 11) + rm.locals ≤ R.locals) (hP : va_P G vwCl wc H) (hD : va_D A wc) (hn : As.length = k2) (hsz : ls.size = nL) {st0 : List Value} (hst : st0 = As.reverse ++ rest) (hW : (rest.map fun v => v.category).sum ≤ 8) (hdg : decode cc pc = .ok (.invokestatic index, 3)) (hf : cells + rm.cells ≤ R.cells ∧ slots + rm.slots ≤ R.slots) :
    va_Run p l e R s m args below meth c H locs cells slots rm.cells rm.slots (F0 m pc ls st0) rest (Qf (va_A wc H.size) As.toArray) (va_A wc H.size) := by
  obtain ⟨h1, h2, h4, h5, h6⟩ := L
  have hts := C.2.2.2.2.1
  have hG := tb_law h5
  refine va_runS (As := As) ⟨C.1, C.2.1, C.2.2.1, C.2.2.2.1, hts⟩ (hM H.size) (⟨callB_of k2 hts hG rfl rfl rfl (hts _ h4) (hts _ h1) h6 hR, hts _ h2⟩) (run_pre C hP hD _) rfl hn hsz hst ?_ hdg hf
  show 2 * 0 + _ ≤ 8; rw [Nat.mul_zero, Nat.zero_add]; exact hW
theorem rnI (C : Cx p s m args c cc nL own G t) (hM : Ct l G t y c2 n2 none rm (.ref b :: As) wc Qf) (L : LkI own index y c2 n2 k2) (hy : y.name = "<init>") (hR : rm.frames + 1 ≤ R.frames ∧ 8 + (n2 + 11) + rm.locals ≤ R.locals) (hP : va_P G vwCl wc H) (hD : va_D A wc) (hn : As.length = k2) (hsz : ls.size = nL) {st0 : List Value} (hst : st0 = As.reverse ++ .ref b :: rest) (hW : (rest.map fun v => v.category).sum ≤ 8) (hdg : decode cc pc = .ok (.invokespecial index, 3)) (hf : cells + rm.cells ≤ R.cells ∧ slots + rm.slots ≤ R.slots) :
    va_Run p l e R s m args below meth c H locs cells slots rm.cells rm.slots (F0 m pc ls st0) rest (Qf (va_A wc H.size) (Value.ref b :: As).toArray) (va_A wc H.size) := by
  obtain ⟨h1, h2, h4, h5, h6⟩ := L
  have hts := C.2.2.2.2.1
  have hG := tb_law h5
  refine va_runI (As := As) ⟨C.1, C.2.1, C.2.2.1, C.2.2.2.1, hts⟩ (hM H.size) (⟨callB_of k2 hts hG rfl rfl rfl (hts _ h4) (hts _ h1) h6 hR, hy, hts _ h2⟩) (run_pre C hP hD _) rfl hn hsz hst ?_ hdg hf
  show 2 * 0 + _ ≤ 8; rw [Nat.mul_zero, Nat.zero_add]; exact hW
theorem rnN (C : Cx p s m args c cc nL own G t) (hM : Ct l G t y c2 n2 none rm (.ref b :: As) wc Qf) (L : LkN own index y c2 n2 k2) (hy : y.name = "<init>") (hR : rm.frames + 1 ≤ R.frames ∧ 8 + (n2 + 11) + rm.locals ≤ R.locals) (hP : va_P G vwCl wc H) (hD : va_D A wc) (hn : As.length = k2) (hsz : ls.size = nL) {st0 : List Value} (hst : st0 = As.reverse ++ .ref b :: rest) (hW : (rest.map fun v => v.category).sum ≤ 8) (hdg : decode cc pc = .ok (.invokespecial index, 3)) (hf : cells + rm.cells ≤ R.cells ∧ slots + rm.slots ≤ R.slots) :
    va_Run p l e R s m args below meth c H locs cells slots rm.cells rm.slots (F0 m pc ls st0) rest (Qf (va_A wc H.size) (Value.ref b :: As).toArray) (va_A wc H.size) := by
  obtain ⟨h1, h2, h4, h5, h6⟩ := L
  have hts := C.2.2.2.2.1
  have hG := tb_law h5
  refine va_runIN (As := As) ⟨C.1, C.2.1, C.2.2.1, C.2.2.2.1, hts⟩ (hM H.size) (⟨va_cnB k2 hts hG rfl rfl rfl (C.2.2.2.2.2.2.1 _ h1) (hts _ h4) h6 hR, hy, hts _ h2⟩) (run_pre C hP hD _) rfl hn hsz hst ?_ hdg hf
  show 2 * 0 + _ ≤ 8; rw [Nat.mul_zero, Nat.zero_add]; exact hW
/-- behind a call: the callee's cells as they came back beside the rest -/
theorem goI {post : Int32 → S → Prop} {w1 : S → va_W} {st0 : List Value} {av : Array Value} (hr : va_Run p l e R s m args below meth c H locs cells slots rm.cells rm.slots (F0 m pc ls st0) rest (QI G post w1 (va_A wc H.size) av) (va_A wc H.size)) (hP : va_P G vwCl ws H) (hD : va_D A ws) (hS : va_S A H0 H locs) (hA : ∀ q, H0.size ≤ q → A q) (isC isR : List Nat) (hC : isC.map (fun i => ws[i]?) = wc.map some) (hR : isR.map (fun i => ws[i]?) = wr.map some) (hnd : va_nd isR = true) (hdis : ∀ i ∈ isR, i ∉ isC)
    (kk : ∀ (r : Int32) (u : S) (H1 : Heap) (locs1 : List Loc), post r u → va_P G vwCl (wr ++ w1 u) H1 → va_D A (wr ++ w1 u) → va_S A H0 H1 locs1 → W p l e R s m args below meth c H1 locs1 (cells + rm.cells) (slots + rm.slots) Q (F0 m (pc + 3) ls (.int r :: rest))) : W p l e R s m args below meth c H locs cells slots Q (F0 m pc ls st0) := by
  have hF := va_free (wc := wc) hD hS hA isC hC
  refine va_calli hr hS (fun q _ h => hF q h) hF (fun r u T H1 locs1 ht _ hp hB _ hk hS1 => ?_)
  obtain ⟨hP1, hD1⟩ := hB
  rw [ht] at hP1
  obtain ⟨hP2, hD2⟩ := va_join hP hD isC isR hC hR hnd hdis hk hF hP1 hD1
  exact kk r u H1 locs1 hp hP2 hD2 hS1
theorem goL {post : Int64 → S → Prop} {w1 : S → va_W} {st0 : List Value} {av : Array Value} (hr : va_Run p l e R s m args below meth c H locs cells slots rm.cells rm.slots (F0 m pc ls st0) rest (QL G post w1 (va_A wc H.size) av) (va_A wc H.size)) (hP : va_P G vwCl ws H) (hD : va_D A ws) (hS : va_S A H0 H locs) (hA : ∀ q, H0.size ≤ q → A q) (isC isR : List Nat) (hC : isC.map (fun i => ws[i]?) = wc.map some) (hR : isR.map (fun i => ws[i]?) = wr.map some) (hnd : va_nd isR = true) (hdis : ∀ i ∈ isR, i ∉ isC)
    (kk : ∀ (r : Int64) (u : S) (H1 : Heap) (locs1 : List Loc), post r u → va_P G vwCl (wr ++ w1 u) H1 → va_D A (wr ++ w1 u) → va_S A H0 H1 locs1 → W p l e R s m args below meth c H1 locs1 (cells + rm.cells) (slots + rm.slots) Q (F0 m (pc + 3) ls (.long r :: rest))) : W p l e R s m args below meth c H locs cells slots Q (F0 m pc ls st0) := by
  have hF := va_free (wc := wc) hD hS hA isC hC
  refine va_calll hr hS (fun q _ h => hF q h) hF (fun r u T H1 locs1 ht _ hp hB _ hk hS1 => ?_)
  obtain ⟨hP1, hD1⟩ := hB
  rw [ht] at hP1
  obtain ⟨hP2, hD2⟩ := va_join hP hD isC isR hC hR hnd hdis hk hF hP1 hD1
  exact kk r u H1 locs1 hp hP2 hD2 hS1
theorem goV {post : S → Prop} {w1 : S → va_W} {st0 : List Value} {av : Array Value} (hr : va_Run p l e R s m args below meth c H locs cells slots rm.cells rm.slots (F0 m pc ls st0) rest (QV G post w1 (va_A wc H.size) av) (va_A wc H.size)) (hP : va_P G vwCl ws H) (hD : va_D A ws) (hS : va_S A H0 H locs) (hA : ∀ q, H0.size ≤ q → A q) (isC isR : List Nat) (hC : isC.map (fun i => ws[i]?) = wc.map some) (hR : isR.map (fun i => ws[i]?) = wr.map some) (hnd : va_nd isR = true) (hdis : ∀ i ∈ isR, i ∉ isC)
    (kk : ∀ (u : S) (H1 : Heap) (locs1 : List Loc), post u → va_P G vwCl (wr ++ w1 u) H1 → va_D A (wr ++ w1 u) → va_S A H0 H1 locs1 → W p l e R s m args below meth c H1 locs1 (cells + rm.cells) (slots + rm.slots) Q (F0 m (pc + 3) ls rest)) : W p l e R s m args below meth c H locs cells slots Q (F0 m pc ls st0) := by
  have hF := va_free (wc := wc) hD hS hA isC hC
  refine va_callv hr hS (fun q _ h => hF q h) hF (fun u T H1 locs1 ht _ hp hB _ hk hS1 => ?_)
  obtain ⟨hP1, hD1⟩ := hB
  rw [ht] at hP1
  obtain ⟨hP2, hD2⟩ := va_join hP hD isC isR hC hR hnd hdis hk hF hP1 hD1
  exact kk u H1 locs1 hp hP2 hD2 hS1
theorem rtI {post : Int32 → S → Prop} {w1 : S → va_W} (hx : p.tables.exec = Jvm.exec) (hb : c.code = cc) (hr : meth.sig.returnType = some .int) (hlocks : meth.locks = false) (hS : va_S A s.heap H locs) {v : Int32} (u : S) (hp : post v u) (hP : va_P G vwCl (w1 u) H) (hD : va_D A (w1 u)) (hdg : decode cc pc = .ok (.ireturn, 1)) : W p l e R s m args below meth c H locs cells slots (MQ below (QI G post w1 A) args s cells slots A) (F0 m pc ls [.int v]) :=
  W.iret hx hb hr (fun T ht hW => ⟨⟨v, u, rfl, hp, by rw [ht]; exact hP, hD⟩, hS.F ht⟩) hS.2.2 hdg hlocks
theorem rtZ {post : Int32 → S → Prop} {w1 : S → va_W} (hx : p.tables.exec = Jvm.exec) (hb : c.code = cc) (hr : meth.sig.returnType = some .boolean) (hlocks : meth.locks = false) (hS : va_S A s.heap H locs) {v : Int32} (hz : narrow .boolean (.int v) = .int v) (u : S) (hp : post v u) (hP : va_P G vwCl (w1 u) H) (hD : va_D A (w1 u)) (hdg : decode cc pc = .ok (.ireturn, 1)) : W p l e R s m args below meth c H locs cells slots (MQ below (QI G post w1 A) args s cells slots A) (F0 m pc ls [.int v]) :=
  W.zret hx hb hr hz (fun T ht hW => ⟨⟨v, u, rfl, hp, by rw [ht]; exact hP, hD⟩, hS.F ht⟩) hS.2.2 hdg hlocks
theorem rtL {post : Int64 → S → Prop} {w1 : S → va_W} (hx : p.tables.exec = Jvm.exec) (hb : c.code = cc) (hr : meth.sig.returnType = some .long) (hlocks : meth.locks = false) (hS : va_S A s.heap H locs) {v : Int64} (u : S) (hp : post v u) (hP : va_P G vwCl (w1 u) H) (hD : va_D A (w1 u)) (hdg : decode cc pc = .ok (.lreturn, 1)) : W p l e R s m args below meth c H locs cells slots (MQ below (QL G post w1 A) args s cells slots A) (F0 m pc ls [.long v]) :=
  W.lret hx hb hr (fun T ht hW => ⟨⟨v, u, rfl, hp, by rw [ht]; exact hP, hD⟩, hS.F ht⟩) hS.2.2 hdg hlocks
theorem rtV {post : S → Prop} {w1 : S → va_W} (hx : p.tables.exec = Jvm.exec) (hb : c.code = cc) (hr : meth.sig.returnType = none) (hlocks : meth.locks = false) (hS : va_S A s.heap H locs) (u : S) (hp : post u) (hP : va_P G vwCl (w1 u) H) (hD : va_D A (w1 u)) (hdg : decode cc pc = .ok (.return_, 1)) : W p l e R s m args below meth c H locs cells slots (MQ below (QV G post w1 A) args s cells slots A) (F0 m pc ls []) :=
  W.vret hx hb hr (fun T ht hW => ⟨⟨u, rfl, hp, by rw [ht]; exact hP, hD⟩, hS.F ht⟩) hS.2.2 hdg hlocks
end RW
end
