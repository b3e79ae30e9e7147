-- the skeleton's PART A, then names and fields as the kit prints them
-- ===== PART A: goes FIRST, ahead of the names: the tables' words, and 'selects' of the private methods out of them =====
/-- a private method of a class that the tables say can be made, by its rows of tables_1 -/
def lw_okq (q : MethodName × Nat) : Prop := (q.1.cls ≠ "java/lang/invoke/MethodHandle" ∧ q.1.cls ≠ "java/lang/invoke/VarHandle") ∧ Cond.instantiable q.1.cls q.2 ∈ tables_1 ∧ Cond.privateMethod q.1 ∈ tables_1 ∧ Cond.instanceMethod q.1 ∈ tables_1
theorem lw_p0 : lw_okq (⟨"SwarmPlanner", "turnWall", "(I)V"⟩, 13) := ⟨⟨by decide +kernel, by decide +kernel⟩, List.mem_of_getElem? (i := 17) (by decide +kernel), List.mem_of_getElem? (i := 442) (by decide +kernel), List.mem_of_getElem? (i := 443) (by decide +kernel)⟩
theorem lw_p1 : lw_okq (⟨"SwarmPlanner$ShapeText", "takes", "(I)Z"⟩, 3) := ⟨⟨by decide +kernel, by decide +kernel⟩, List.mem_of_getElem? (i := 158) (by decide +kernel), List.mem_of_getElem? (i := 484) (by decide +kernel), List.mem_of_getElem? (i := 485) (by decide +kernel)⟩
theorem lw_p2 : lw_okq (⟨"SwarmPlanner$ShapeText", "takesRowEnd", "()Z"⟩, 3) := ⟨⟨by decide +kernel, by decide +kernel⟩, List.mem_of_getElem? (i := 158) (by decide +kernel), List.mem_of_getElem? (i := 488) (by decide +kernel), List.mem_of_getElem? (i := 489) (by decide +kernel)⟩
theorem lw_p3 : lw_okq (⟨"SwarmPlanner$ShapeText", "takesSlot", "(I)Z"⟩, 3) := ⟨⟨by decide +kernel, by decide +kernel⟩, List.mem_of_getElem? (i := 158) (by decide +kernel), List.mem_of_getElem? (i := 492) (by decide +kernel), List.mem_of_getElem? (i := 493) (by decide +kernel)⟩
theorem lw_p4 : lw_okq (⟨"SwarmPlanner$Turns", "moveLeader", "(I)V"⟩, 6) := ⟨⟨by decide +kernel, by decide +kernel⟩, List.mem_of_getElem? (i := 311) (by decide +kernel), List.mem_of_getElem? (i := 524) (by decide +kernel), List.mem_of_getElem? (i := 525) (by decide +kernel)⟩
theorem lw_p5 : lw_okq (⟨"SwarmPlanner$Turns", "firstNearer", "([II)I"⟩, 6) := ⟨⟨by decide +kernel, by decide +kernel⟩, List.mem_of_getElem? (i := 311) (by decide +kernel), List.mem_of_getElem? (i := 536) (by decide +kernel), List.mem_of_getElem? (i := 537) (by decide +kernel)⟩
theorem lw_p6 : lw_okq (⟨"SwarmPlanner$World", "put", "(III)V"⟩, 12) := ⟨⟨by decide +kernel, by decide +kernel⟩, List.mem_of_getElem? (i := 25) (by decide +kernel), List.mem_of_getElem? (i := 545) (by decide +kernel), List.mem_of_getElem? (i := 546) (by decide +kernel)⟩
theorem lw_p7 : lw_okq (⟨"SwarmPlanner$Giving", "listFollowers", "()V"⟩, 13) := ⟨⟨by decide +kernel, by decide +kernel⟩, List.mem_of_getElem? (i := 225) (by decide +kernel), List.mem_of_getElem? (i := 558) (by decide +kernel), List.mem_of_getElem? (i := 559) (by decide +kernel)⟩
theorem lw_p8 : lw_okq (⟨"SwarmPlanner$Giving", "listOpenSlots", "()V"⟩, 13) := ⟨⟨by decide +kernel, by decide +kernel⟩, List.mem_of_getElem? (i := 225) (by decide +kernel), List.mem_of_getElem? (i := 564) (by decide +kernel), List.mem_of_getElem? (i := 565) (by decide +kernel)⟩
theorem lw_p9 : lw_okq (⟨"SwarmPlanner$Giving", "placeFrom", "(ILSwarmPlanner$Shape;I)I"⟩, 13) := ⟨⟨by decide +kernel, by decide +kernel⟩, List.mem_of_getElem? (i := 225) (by decide +kernel), List.mem_of_getElem? (i := 572) (by decide +kernel), List.mem_of_getElem? (i := 573) (by decide +kernel)⟩
theorem lw_p10 : lw_okq (⟨"SwarmPlanner$Giving", "priceChoices", "()V"⟩, 13) := ⟨⟨by decide +kernel, by decide +kernel⟩, List.mem_of_getElem? (i := 225) (by decide +kernel), List.mem_of_getElem? (i := 585) (by decide +kernel), List.mem_of_getElem? (i := 586) (by decide +kernel)⟩
theorem lw_p11 : lw_okq (⟨"SwarmPlanner$Match", "seat", "(II)V"⟩, 7) := ⟨⟨by decide +kernel, by decide +kernel⟩, List.mem_of_getElem? (i := 231) (by decide +kernel), List.mem_of_getElem? (i := 603) (by decide +kernel), List.mem_of_getElem? (i := 604) (by decide +kernel)⟩
theorem lw_p12 : lw_okq (⟨"SwarmPlanner$Match", "reachNext", "(II)I"⟩, 7) := ⟨⟨by decide +kernel, by decide +kernel⟩, List.mem_of_getElem? (i := 231) (by decide +kernel), List.mem_of_getElem? (i := 608) (by decide +kernel), List.mem_of_getElem? (i := 609) (by decide +kernel)⟩
theorem lw_p13 : lw_okq (⟨"SwarmPlanner$Giving", "give", "(II)V"⟩, 13) := ⟨⟨by decide +kernel, by decide +kernel⟩, List.mem_of_getElem? (i := 225) (by decide +kernel), List.mem_of_getElem? (i := 612) (by decide +kernel), List.mem_of_getElem? (i := 613) (by decide +kernel)⟩
theorem lw_p14 : lw_okq (⟨"SwarmPlanner$Turns", "lineUp", "(I)V"⟩, 6) := ⟨⟨by decide +kernel, by decide +kernel⟩, List.mem_of_getElem? (i := 311) (by decide +kernel), List.mem_of_getElem? (i := 616) (by decide +kernel), List.mem_of_getElem? (i := 617) (by decide +kernel)⟩
theorem lw_p15 : lw_okq (⟨"SwarmPlanner$Turns", "lineUpMember", "(I)V"⟩, 6) := ⟨⟨by decide +kernel, by decide +kernel⟩, List.mem_of_getElem? (i := 311) (by decide +kernel), List.mem_of_getElem? (i := 621) (by decide +kernel), List.mem_of_getElem? (i := 622) (by decide +kernel)⟩
def lw_privs_1 : List (MethodName × Nat) := [(⟨"SwarmPlanner", "turnWall", "(I)V"⟩, 13), (⟨"SwarmPlanner$ShapeText", "takes", "(I)Z"⟩, 3), (⟨"SwarmPlanner$ShapeText", "takesRowEnd", "()Z"⟩, 3), (⟨"SwarmPlanner$ShapeText", "takesSlot", "(I)Z"⟩, 3), (⟨"SwarmPlanner$Turns", "moveLeader", "(I)V"⟩, 6), (⟨"SwarmPlanner$Turns", "firstNearer", "([II)I"⟩, 6), (⟨"SwarmPlanner$World", "put", "(III)V"⟩, 12), (⟨"SwarmPlanner$Giving", "listFollowers", "()V"⟩, 13), (⟨"SwarmPlanner$Giving", "listOpenSlots", "()V"⟩, 13), (⟨"SwarmPlanner$Giving", "placeFrom", "(ILSwarmPlanner$Shape;I)I"⟩, 13), (⟨"SwarmPlanner$Giving", "priceChoices", "()V"⟩, 13), (⟨"SwarmPlanner$Match", "seat", "(II)V"⟩, 7), (⟨"SwarmPlanner$Match", "reachNext", "(II)I"⟩, 7), (⟨"SwarmPlanner$Giving", "give", "(II)V"⟩, 13), (⟨"SwarmPlanner$Turns", "lineUp", "(I)V"⟩, 6), (⟨"SwarmPlanner$Turns", "lineUpMember", "(I)V"⟩, 6)]
theorem lw_r1 : ∀ q ∈ lw_privs_1, lw_okq q := List.forall_mem_cons.mpr ⟨lw_p0, List.forall_mem_cons.mpr ⟨lw_p1, List.forall_mem_cons.mpr ⟨lw_p2, List.forall_mem_cons.mpr ⟨lw_p3, List.forall_mem_cons.mpr ⟨lw_p4, List.forall_mem_cons.mpr ⟨lw_p5, List.forall_mem_cons.mpr ⟨lw_p6, List.forall_mem_cons.mpr ⟨lw_p7, List.forall_mem_cons.mpr ⟨lw_p8, List.forall_mem_cons.mpr ⟨lw_p9, List.forall_mem_cons.mpr ⟨lw_p10, List.forall_mem_cons.mpr ⟨lw_p11, List.forall_mem_cons.mpr ⟨lw_p12, List.forall_mem_cons.mpr ⟨lw_p13, List.forall_mem_cons.mpr ⟨lw_p14, List.forall_mem_cons.mpr ⟨lw_p15, fun _ h => absurd h List.not_mem_nil⟩⟩⟩⟩⟩⟩⟩⟩⟩⟩⟩⟩⟩⟩⟩⟩
theorem lw_p16 : lw_okq (⟨"SwarmPlanner$Turns", "insert", "(II)V"⟩, 6) := ⟨⟨by decide +kernel, by decide +kernel⟩, List.mem_of_getElem? (i := 311) (by decide +kernel), List.mem_of_getElem? (i := 625) (by decide +kernel), List.mem_of_getElem? (i := 626) (by decide +kernel)⟩
theorem lw_p17 : lw_okq (⟨"SwarmPlanner$Turns", "act", "(I)V"⟩, 6) := ⟨⟨by decide +kernel, by decide +kernel⟩, List.mem_of_getElem? (i := 311) (by decide +kernel), List.mem_of_getElem? (i := 629) (by decide +kernel), List.mem_of_getElem? (i := 630) (by decide +kernel)⟩
theorem lw_p18 : lw_okq (⟨"SwarmPlanner$Turns", "firstFreeNearer", "([II)I"⟩, 6) := ⟨⟨by decide +kernel, by decide +kernel⟩, List.mem_of_getElem? (i := 311) (by decide +kernel), List.mem_of_getElem? (i := 633) (by decide +kernel), List.mem_of_getElem? (i := 634) (by decide +kernel)⟩
theorem lw_p19 : lw_okq (⟨"SwarmPlanner$Turns", "firstPartner", "([II)I"⟩, 6) := ⟨⟨by decide +kernel, by decide +kernel⟩, List.mem_of_getElem? (i := 311) (by decide +kernel), List.mem_of_getElem? (i := 637) (by decide +kernel), List.mem_of_getElem? (i := 638) (by decide +kernel)⟩
theorem lw_p20 : lw_okq (⟨"SwarmPlanner$Turns", "stayOrStepAside", "(II)V"⟩, 6) := ⟨⟨by decide +kernel, by decide +kernel⟩, List.mem_of_getElem? (i := 311) (by decide +kernel), List.mem_of_getElem? (i := 645) (by decide +kernel), List.mem_of_getElem? (i := 646) (by decide +kernel)⟩
theorem lw_p21 : lw_okq (⟨"SwarmPlanner$Turns", "firstFree", "(I)I"⟩, 6) := ⟨⟨by decide +kernel, by decide +kernel⟩, List.mem_of_getElem? (i := 311) (by decide +kernel), List.mem_of_getElem? (i := 649) (by decide +kernel), List.mem_of_getElem? (i := 650) (by decide +kernel)⟩
theorem lw_p22 : lw_okq (⟨"SwarmPlanner$Turns", "countRound", "()V"⟩, 6) := ⟨⟨by decide +kernel, by decide +kernel⟩, List.mem_of_getElem? (i := 311) (by decide +kernel), List.mem_of_getElem? (i := 653) (by decide +kernel), List.mem_of_getElem? (i := 654) (by decide +kernel)⟩
theorem lw_p23 : lw_okq (⟨"SwarmPlanner$CommandText", "readCommand", "(LSwarmPlanner$Tape;I)Z"⟩, 5) := ⟨⟨by decide +kernel, by decide +kernel⟩, List.mem_of_getElem? (i := 177) (by decide +kernel), List.mem_of_getElem? (i := 669) (by decide +kernel), List.mem_of_getElem? (i := 670) (by decide +kernel)⟩
theorem lw_p24 : lw_okq (⟨"SwarmPlanner$CommandText", "readNumber", "(LSwarmPlanner$Tape;)I"⟩, 5) := ⟨⟨by decide +kernel, by decide +kernel⟩, List.mem_of_getElem? (i := 177) (by decide +kernel), List.mem_of_getElem? (i := 674) (by decide +kernel), List.mem_of_getElem? (i := 675) (by decide +kernel)⟩
theorem lw_p25 : lw_okq (⟨"SwarmPlanner$CommandText", "readSign", "(LSwarmPlanner$Tape;I)Z"⟩, 5) := ⟨⟨by decide +kernel, by decide +kernel⟩, List.mem_of_getElem? (i := 177) (by decide +kernel), List.mem_of_getElem? (i := 681) (by decide +kernel), List.mem_of_getElem? (i := 682) (by decide +kernel)⟩
theorem lw_p26 : lw_okq (⟨"SwarmPlanner", "obey", "(III)I"⟩, 13) := ⟨⟨by decide +kernel, by decide +kernel⟩, List.mem_of_getElem? (i := 17) (by decide +kernel), List.mem_of_getElem? (i := 685) (by decide +kernel), List.mem_of_getElem? (i := 686) (by decide +kernel)⟩
theorem lw_p27 : lw_okq (⟨"SwarmPlanner", "obeyAdding", "(I)I"⟩, 13) := ⟨⟨by decide +kernel, by decide +kernel⟩, List.mem_of_getElem? (i := 17) (by decide +kernel), List.mem_of_getElem? (i := 689) (by decide +kernel), List.mem_of_getElem? (i := 690) (by decide +kernel)⟩
theorem lw_p28 : lw_okq (⟨"SwarmPlanner", "obeyWall", "(I)I"⟩, 13) := ⟨⟨by decide +kernel, by decide +kernel⟩, List.mem_of_getElem? (i := 17) (by decide +kernel), List.mem_of_getElem? (i := 693) (by decide +kernel), List.mem_of_getElem? (i := 694) (by decide +kernel)⟩
theorem lw_p29 : lw_okq (⟨"SwarmPlanner", "obeyTarget", "(I)I"⟩, 13) := ⟨⟨by decide +kernel, by decide +kernel⟩, List.mem_of_getElem? (i := 17) (by decide +kernel), List.mem_of_getElem? (i := 697) (by decide +kernel), List.mem_of_getElem? (i := 698) (by decide +kernel)⟩
theorem lw_p30 : lw_okq (⟨"SwarmPlanner", "obeyLeading", "(I)I"⟩, 13) := ⟨⟨by decide +kernel, by decide +kernel⟩, List.mem_of_getElem? (i := 17) (by decide +kernel), List.mem_of_getElem? (i := 701) (by decide +kernel), List.mem_of_getElem? (i := 702) (by decide +kernel)⟩
theorem lw_p31 : lw_okq (⟨"SwarmPlanner", "obeyLosing", "(I)I"⟩, 13) := ⟨⟨by decide +kernel, by decide +kernel⟩, List.mem_of_getElem? (i := 17) (by decide +kernel), List.mem_of_getElem? (i := 705) (by decide +kernel), List.mem_of_getElem? (i := 706) (by decide +kernel)⟩
def lw_privs_2 : List (MethodName × Nat) := [(⟨"SwarmPlanner$Turns", "insert", "(II)V"⟩, 6), (⟨"SwarmPlanner$Turns", "act", "(I)V"⟩, 6), (⟨"SwarmPlanner$Turns", "firstFreeNearer", "([II)I"⟩, 6), (⟨"SwarmPlanner$Turns", "firstPartner", "([II)I"⟩, 6), (⟨"SwarmPlanner$Turns", "stayOrStepAside", "(II)V"⟩, 6), (⟨"SwarmPlanner$Turns", "firstFree", "(I)I"⟩, 6), (⟨"SwarmPlanner$Turns", "countRound", "()V"⟩, 6), (⟨"SwarmPlanner$CommandText", "readCommand", "(LSwarmPlanner$Tape;I)Z"⟩, 5), (⟨"SwarmPlanner$CommandText", "readNumber", "(LSwarmPlanner$Tape;)I"⟩, 5), (⟨"SwarmPlanner$CommandText", "readSign", "(LSwarmPlanner$Tape;I)Z"⟩, 5), (⟨"SwarmPlanner", "obey", "(III)I"⟩, 13), (⟨"SwarmPlanner", "obeyAdding", "(I)I"⟩, 13), (⟨"SwarmPlanner", "obeyWall", "(I)I"⟩, 13), (⟨"SwarmPlanner", "obeyTarget", "(I)I"⟩, 13), (⟨"SwarmPlanner", "obeyLeading", "(I)I"⟩, 13), (⟨"SwarmPlanner", "obeyLosing", "(I)I"⟩, 13)]
theorem lw_r2 : ∀ q ∈ lw_privs_2, lw_okq q := List.forall_mem_cons.mpr ⟨lw_p16, List.forall_mem_cons.mpr ⟨lw_p17, List.forall_mem_cons.mpr ⟨lw_p18, List.forall_mem_cons.mpr ⟨lw_p19, List.forall_mem_cons.mpr ⟨lw_p20, List.forall_mem_cons.mpr ⟨lw_p21, List.forall_mem_cons.mpr ⟨lw_p22, List.forall_mem_cons.mpr ⟨lw_p23, List.forall_mem_cons.mpr ⟨lw_p24, List.forall_mem_cons.mpr ⟨lw_p25, List.forall_mem_cons.mpr ⟨lw_p26, List.forall_mem_cons.mpr ⟨lw_p27, List.forall_mem_cons.mpr ⟨lw_p28, List.forall_mem_cons.mpr ⟨lw_p29, List.forall_mem_cons.mpr ⟨lw_p30, List.forall_mem_cons.mpr ⟨lw_p31, fun _ h => absurd h List.not_mem_nil⟩⟩⟩⟩⟩⟩⟩⟩⟩⟩⟩⟩⟩⟩⟩⟩
theorem lw_p32 : lw_okq (⟨"SwarmPlanner", "restore", "(LSwarmPlanner$World;)V"⟩, 13) := ⟨⟨by decide +kernel, by decide +kernel⟩, List.mem_of_getElem? (i := 17) (by decide +kernel), List.mem_of_getElem? (i := 709) (by decide +kernel), List.mem_of_getElem? (i := 710) (by decide +kernel)⟩
theorem lw_p33 : lw_okq (⟨"SwarmPlanner", "numberGiven", "(II)I"⟩, 13) := ⟨⟨by decide +kernel, by decide +kernel⟩, List.mem_of_getElem? (i := 17) (by decide +kernel), List.mem_of_getElem? (i := 721) (by decide +kernel), List.mem_of_getElem? (i := 722) (by decide +kernel)⟩
theorem lw_p34 : lw_okq (⟨"SwarmPlanner", "numberOfGiving", "(I)I"⟩, 13) := ⟨⟨by decide +kernel, by decide +kernel⟩, List.mem_of_getElem? (i := 17) (by decide +kernel), List.mem_of_getElem? (i := 731) (by decide +kernel), List.mem_of_getElem? (i := 732) (by decide +kernel)⟩
theorem lw_p35 : lw_okq (⟨"SwarmPlanner", "slotWithPlace", "(I)I"⟩, 13) := ⟨⟨by decide +kernel, by decide +kernel⟩, List.mem_of_getElem? (i := 17) (by decide +kernel), List.mem_of_getElem? (i := 743) (by decide +kernel), List.mem_of_getElem? (i := 744) (by decide +kernel)⟩
theorem lw_p36 : lw_okq (⟨"SwarmPlanner", "distanceFromLeader", "(I)I"⟩, 13) := ⟨⟨by decide +kernel, by decide +kernel⟩, List.mem_of_getElem? (i := 17) (by decide +kernel), List.mem_of_getElem? (i := 748) (by decide +kernel), List.mem_of_getElem? (i := 749) (by decide +kernel)⟩
theorem lw_p37 : lw_okq (⟨"SwarmPlanner", "neighborsWithoutWall", "(I)I"⟩, 13) := ⟨⟨by decide +kernel, by decide +kernel⟩, List.mem_of_getElem? (i := 17) (by decide +kernel), List.mem_of_getElem? (i := 752) (by decide +kernel), List.mem_of_getElem? (i := 753) (by decide +kernel)⟩
theorem lw_p38 : lw_okq (⟨"SwarmPlanner$Shape", "isMade", "(LSwarmPlanner$World;I)Z"⟩, 4) := ⟨⟨by decide +kernel, by decide +kernel⟩, List.mem_of_getElem? (i := 35) (by decide +kernel), List.mem_of_getElem? (i := 776) (by decide +kernel), List.mem_of_getElem? (i := 777) (by decide +kernel)⟩
theorem lw_p39 : lw_okq (⟨"SwarmPlanner$Shape", "isMadeFrom", "(LSwarmPlanner$World;II)Z"⟩, 4) := ⟨⟨by decide +kernel, by decide +kernel⟩, List.mem_of_getElem? (i := 35) (by decide +kernel), List.mem_of_getElem? (i := 781) (by decide +kernel), List.mem_of_getElem? (i := 782) (by decide +kernel)⟩
theorem lw_p40 : lw_okq (⟨"SwarmPlanner$Shape", "turnedColumn", "(II)I"⟩, 4) := ⟨⟨by decide +kernel, by decide +kernel⟩, List.mem_of_getElem? (i := 35) (by decide +kernel), List.mem_of_getElem? (i := 785) (by decide +kernel), List.mem_of_getElem? (i := 786) (by decide +kernel)⟩
theorem lw_p41 : lw_okq (⟨"SwarmPlanner$Shape", "mirroredColumn", "(II)I"⟩, 4) := ⟨⟨by decide +kernel, by decide +kernel⟩, List.mem_of_getElem? (i := 35) (by decide +kernel), List.mem_of_getElem? (i := 789) (by decide +kernel), List.mem_of_getElem? (i := 790) (by decide +kernel)⟩
theorem lw_p42 : lw_okq (⟨"SwarmPlanner$Shape", "turnedRow", "(II)I"⟩, 4) := ⟨⟨by decide +kernel, by decide +kernel⟩, List.mem_of_getElem? (i := 35) (by decide +kernel), List.mem_of_getElem? (i := 793) (by decide +kernel), List.mem_of_getElem? (i := 794) (by decide +kernel)⟩
theorem lw_p43 : lw_okq (⟨"SwarmPlanner", "triedWithout", "(II)I"⟩, 13) := ⟨⟨by decide +kernel, by decide +kernel⟩, List.mem_of_getElem? (i := 17) (by decide +kernel), List.mem_of_getElem? (i := 802) (by decide +kernel), List.mem_of_getElem? (i := 803) (by decide +kernel)⟩
theorem lw_p44 : lw_okq (⟨"SwarmPlanner$Giving", "takeSlotIn", "([I)V"⟩, 13) := ⟨⟨by decide +kernel, by decide +kernel⟩, List.mem_of_getElem? (i := 225) (by decide +kernel), List.mem_of_getElem? (i := 818) (by decide +kernel), List.mem_of_getElem? (i := 819) (by decide +kernel)⟩
theorem lw_p45 : lw_okq (⟨"SwarmPlannerModel", "leader", "()I"⟩, 25) := ⟨⟨by decide +kernel, by decide +kernel⟩, List.mem_of_getElem? (i := 855) (by decide +kernel), List.mem_of_getElem? (i := 944) (by decide +kernel), List.mem_of_getElem? (i := 945) (by decide +kernel)⟩
theorem lw_p46 : lw_okq (⟨"SwarmPlannerModel", "isMember", "(I)Z"⟩, 25) := ⟨⟨by decide +kernel, by decide +kernel⟩, List.mem_of_getElem? (i := 855) (by decide +kernel), List.mem_of_getElem? (i := 948) (by decide +kernel), List.mem_of_getElem? (i := 949) (by decide +kernel)⟩
theorem lw_p47 : lw_okq (⟨"SwarmPlannerModel", "of", "(II)I"⟩, 25) := ⟨⟨by decide +kernel, by decide +kernel⟩, List.mem_of_getElem? (i := 855) (by decide +kernel), List.mem_of_getElem? (i := 952) (by decide +kernel), List.mem_of_getElem? (i := 953) (by decide +kernel)⟩
def lw_privs_3 : List (MethodName × Nat) := [(⟨"SwarmPlanner", "restore", "(LSwarmPlanner$World;)V"⟩, 13), (⟨"SwarmPlanner", "numberGiven", "(II)I"⟩, 13), (⟨"SwarmPlanner", "numberOfGiving", "(I)I"⟩, 13), (⟨"SwarmPlanner", "slotWithPlace", "(I)I"⟩, 13), (⟨"SwarmPlanner", "distanceFromLeader", "(I)I"⟩, 13), (⟨"SwarmPlanner", "neighborsWithoutWall", "(I)I"⟩, 13), (⟨"SwarmPlanner$Shape", "isMade", "(LSwarmPlanner$World;I)Z"⟩, 4), (⟨"SwarmPlanner$Shape", "isMadeFrom", "(LSwarmPlanner$World;II)Z"⟩, 4), (⟨"SwarmPlanner$Shape", "turnedColumn", "(II)I"⟩, 4), (⟨"SwarmPlanner$Shape", "mirroredColumn", "(II)I"⟩, 4), (⟨"SwarmPlanner$Shape", "turnedRow", "(II)I"⟩, 4), (⟨"SwarmPlanner", "triedWithout", "(II)I"⟩, 13), (⟨"SwarmPlanner$Giving", "takeSlotIn", "([I)V"⟩, 13), (⟨"SwarmPlannerModel", "leader", "()I"⟩, 25), (⟨"SwarmPlannerModel", "isMember", "(I)Z"⟩, 25), (⟨"SwarmPlannerModel", "of", "(II)I"⟩, 25)]
theorem lw_r3 : ∀ q ∈ lw_privs_3, lw_okq q := List.forall_mem_cons.mpr ⟨lw_p32, List.forall_mem_cons.mpr ⟨lw_p33, List.forall_mem_cons.mpr ⟨lw_p34, List.forall_mem_cons.mpr ⟨lw_p35, List.forall_mem_cons.mpr ⟨lw_p36, List.forall_mem_cons.mpr ⟨lw_p37, List.forall_mem_cons.mpr ⟨lw_p38, List.forall_mem_cons.mpr ⟨lw_p39, List.forall_mem_cons.mpr ⟨lw_p40, List.forall_mem_cons.mpr ⟨lw_p41, List.forall_mem_cons.mpr ⟨lw_p42, List.forall_mem_cons.mpr ⟨lw_p43, List.forall_mem_cons.mpr ⟨lw_p44, List.forall_mem_cons.mpr ⟨lw_p45, List.forall_mem_cons.mpr ⟨lw_p46, List.forall_mem_cons.mpr ⟨lw_p47, fun _ h => absurd h List.not_mem_nil⟩⟩⟩⟩⟩⟩⟩⟩⟩⟩⟩⟩⟩⟩⟩⟩
theorem lw_p48 : lw_okq (⟨"SwarmPlannerModel", "keeps", "()V"⟩, 25) := ⟨⟨by decide +kernel, by decide +kernel⟩, List.mem_of_getElem? (i := 855) (by decide +kernel), List.mem_of_getElem? (i := 956) (by decide +kernel), List.mem_of_getElem? (i := 957) (by decide +kernel)⟩
theorem lw_p49 : lw_okq (⟨"SwarmPlannerModel", "copies", "(II)V"⟩, 25) := ⟨⟨by decide +kernel, by decide +kernel⟩, List.mem_of_getElem? (i := 855) (by decide +kernel), List.mem_of_getElem? (i := 960) (by decide +kernel), List.mem_of_getElem? (i := 961) (by decide +kernel)⟩
theorem lw_p50 : lw_okq (⟨"SwarmPlannerModel", "makes", "(I)I"⟩, 25) := ⟨⟨by decide +kernel, by decide +kernel⟩, List.mem_of_getElem? (i := 855) (by decide +kernel), List.mem_of_getElem? (i := 964) (by decide +kernel), List.mem_of_getElem? (i := 965) (by decide +kernel)⟩
theorem lw_p51 : lw_okq (⟨"SwarmPlannerModel", "round", "()V"⟩, 25) := ⟨⟨by decide +kernel, by decide +kernel⟩, List.mem_of_getElem? (i := 855) (by decide +kernel), List.mem_of_getElem? (i := 968) (by decide +kernel), List.mem_of_getElem? (i := 969) (by decide +kernel)⟩
theorem lw_p52 : lw_okq (⟨"SwarmPlannerModel", "counts", "(II)V"⟩, 25) := ⟨⟨by decide +kernel, by decide +kernel⟩, List.mem_of_getElem? (i := 855) (by decide +kernel), List.mem_of_getElem? (i := 972) (by decide +kernel), List.mem_of_getElem? (i := 973) (by decide +kernel)⟩
theorem lw_p53 : lw_okq (⟨"SwarmPlannerModel", "leads", "()V"⟩, 25) := ⟨⟨by decide +kernel, by decide +kernel⟩, List.mem_of_getElem? (i := 855) (by decide +kernel), List.mem_of_getElem? (i := 976) (by decide +kernel), List.mem_of_getElem? (i := 977) (by decide +kernel)⟩
theorem lw_p54 : lw_okq (⟨"SwarmPlannerModel", "lays", "(III)V"⟩, 25) := ⟨⟨by decide +kernel, by decide +kernel⟩, List.mem_of_getElem? (i := 855) (by decide +kernel), List.mem_of_getElem? (i := 980) (by decide +kernel), List.mem_of_getElem? (i := 981) (by decide +kernel)⟩
theorem lw_p55 : lw_okq (⟨"SwarmPlannerModel", "floods", "(II)V"⟩, 25) := ⟨⟨by decide +kernel, by decide +kernel⟩, List.mem_of_getElem? (i := 855) (by decide +kernel), List.mem_of_getElem? (i := 984) (by decide +kernel), List.mem_of_getElem? (i := 985) (by decide +kernel)⟩
theorem lw_p56 : lw_okq (⟨"SwarmPlannerModel", "isBlocked", "(I)Z"⟩, 25) := ⟨⟨by decide +kernel, by decide +kernel⟩, List.mem_of_getElem? (i := 855) (by decide +kernel), List.mem_of_getElem? (i := 988) (by decide +kernel), List.mem_of_getElem? (i := 989) (by decide +kernel)⟩
theorem lw_p57 : lw_okq (⟨"SwarmPlannerModel", "on", "(I)I"⟩, 25) := ⟨⟨by decide +kernel, by decide +kernel⟩, List.mem_of_getElem? (i := 855) (by decide +kernel), List.mem_of_getElem? (i := 995) (by decide +kernel), List.mem_of_getElem? (i := 996) (by decide +kernel)⟩
theorem lw_p58 : lw_okq (⟨"SwarmPlannerModel", "waits", "(I)V"⟩, 25) := ⟨⟨by decide +kernel, by decide +kernel⟩, List.mem_of_getElem? (i := 855) (by decide +kernel), List.mem_of_getElem? (i := 999) (by decide +kernel), List.mem_of_getElem? (i := 1000) (by decide +kernel)⟩
theorem lw_p59 : lw_okq (⟨"SwarmPlannerModel", "goes", "(II)V"⟩, 25) := ⟨⟨by decide +kernel, by decide +kernel⟩, List.mem_of_getElem? (i := 855) (by decide +kernel), List.mem_of_getElem? (i := 1003) (by decide +kernel), List.mem_of_getElem? (i := 1004) (by decide +kernel)⟩
theorem lw_p60 : lw_okq (⟨"SwarmPlannerModel", "gives", "()V"⟩, 25) := ⟨⟨by decide +kernel, by decide +kernel⟩, List.mem_of_getElem? (i := 855) (by decide +kernel), List.mem_of_getElem? (i := 1007) (by decide +kernel), List.mem_of_getElem? (i := 1008) (by decide +kernel)⟩
theorem lw_p61 : lw_okq (⟨"SwarmPlannerModel", "slots", "(I)I"⟩, 25) := ⟨⟨by decide +kernel, by decide +kernel⟩, List.mem_of_getElem? (i := 855) (by decide +kernel), List.mem_of_getElem? (i := 1011) (by decide +kernel), List.mem_of_getElem? (i := 1012) (by decide +kernel)⟩
theorem lw_p62 : lw_okq (⟨"SwarmPlannerModel", "anchor", "(I)I"⟩, 25) := ⟨⟨by decide +kernel, by decide +kernel⟩, List.mem_of_getElem? (i := 855) (by decide +kernel), List.mem_of_getElem? (i := 1018) (by decide +kernel), List.mem_of_getElem? (i := 1019) (by decide +kernel)⟩
theorem lw_p63 : lw_okq (⟨"SwarmPlannerModel", "placeOf", "(I)I"⟩, 25) := ⟨⟨by decide +kernel, by decide +kernel⟩, List.mem_of_getElem? (i := 855) (by decide +kernel), List.mem_of_getElem? (i := 1022) (by decide +kernel), List.mem_of_getElem? (i := 1023) (by decide +kernel)⟩
def lw_privs_4 : List (MethodName × Nat) := [(⟨"SwarmPlannerModel", "keeps", "()V"⟩, 25), (⟨"SwarmPlannerModel", "copies", "(II)V"⟩, 25), (⟨"SwarmPlannerModel", "makes", "(I)I"⟩, 25), (⟨"SwarmPlannerModel", "round", "()V"⟩, 25), (⟨"SwarmPlannerModel", "counts", "(II)V"⟩, 25), (⟨"SwarmPlannerModel", "leads", "()V"⟩, 25), (⟨"SwarmPlannerModel", "lays", "(III)V"⟩, 25), (⟨"SwarmPlannerModel", "floods", "(II)V"⟩, 25), (⟨"SwarmPlannerModel", "isBlocked", "(I)Z"⟩, 25), (⟨"SwarmPlannerModel", "on", "(I)I"⟩, 25), (⟨"SwarmPlannerModel", "waits", "(I)V"⟩, 25), (⟨"SwarmPlannerModel", "goes", "(II)V"⟩, 25), (⟨"SwarmPlannerModel", "gives", "()V"⟩, 25), (⟨"SwarmPlannerModel", "slots", "(I)I"⟩, 25), (⟨"SwarmPlannerModel", "anchor", "(I)I"⟩, 25), (⟨"SwarmPlannerModel", "placeOf", "(I)I"⟩, 25)]
theorem lw_r4 : ∀ q ∈ lw_privs_4, lw_okq q := List.forall_mem_cons.mpr ⟨lw_p48, List.forall_mem_cons.mpr ⟨lw_p49, List.forall_mem_cons.mpr ⟨lw_p50, List.forall_mem_cons.mpr ⟨lw_p51, List.forall_mem_cons.mpr ⟨lw_p52, List.forall_mem_cons.mpr ⟨lw_p53, List.forall_mem_cons.mpr ⟨lw_p54, List.forall_mem_cons.mpr ⟨lw_p55, List.forall_mem_cons.mpr ⟨lw_p56, List.forall_mem_cons.mpr ⟨lw_p57, List.forall_mem_cons.mpr ⟨lw_p58, List.forall_mem_cons.mpr ⟨lw_p59, List.forall_mem_cons.mpr ⟨lw_p60, List.forall_mem_cons.mpr ⟨lw_p61, List.forall_mem_cons.mpr ⟨lw_p62, List.forall_mem_cons.mpr ⟨lw_p63, fun _ h => absurd h List.not_mem_nil⟩⟩⟩⟩⟩⟩⟩⟩⟩⟩⟩⟩⟩⟩⟩⟩
theorem lw_p64 : lw_okq (⟨"SwarmPlannerModel", "column", "(II)I"⟩, 25) := ⟨⟨by decide +kernel, by decide +kernel⟩, List.mem_of_getElem? (i := 855) (by decide +kernel), List.mem_of_getElem? (i := 1026) (by decide +kernel), List.mem_of_getElem? (i := 1027) (by decide +kernel)⟩
theorem lw_p65 : lw_okq (⟨"SwarmPlannerModel", "rowOf", "(II)I"⟩, 25) := ⟨⟨by decide +kernel, by decide +kernel⟩, List.mem_of_getElem? (i := 855) (by decide +kernel), List.mem_of_getElem? (i := 1030) (by decide +kernel), List.mem_of_getElem? (i := 1031) (by decide +kernel)⟩
theorem lw_p66 : lw_okq (⟨"SwarmPlannerModel", "reckons", "(I)V"⟩, 25) := ⟨⟨by decide +kernel, by decide +kernel⟩, List.mem_of_getElem? (i := 855) (by decide +kernel), List.mem_of_getElem? (i := 1034) (by decide +kernel), List.mem_of_getElem? (i := 1035) (by decide +kernel)⟩
theorem lw_p67 : lw_okq (⟨"SwarmPlannerModel", "acts", "(I)V"⟩, 25) := ⟨⟨by decide +kernel, by decide +kernel⟩, List.mem_of_getElem? (i := 855) (by decide +kernel), List.mem_of_getElem? (i := 1038) (by decide +kernel), List.mem_of_getElem? (i := 1039) (by decide +kernel)⟩
theorem lw_p68 : lw_okq (⟨"SwarmPlannerModel", "steps", "(III)Z"⟩, 25) := ⟨⟨by decide +kernel, by decide +kernel⟩, List.mem_of_getElem? (i := 855) (by decide +kernel), List.mem_of_getElem? (i := 1042) (by decide +kernel), List.mem_of_getElem? (i := 1043) (by decide +kernel)⟩
theorem lw_p69 : lw_okq (⟨"SwarmPlannerModel", "exchanges", "(III)Z"⟩, 25) := ⟨⟨by decide +kernel, by decide +kernel⟩, List.mem_of_getElem? (i := 855) (by decide +kernel), List.mem_of_getElem? (i := 1046) (by decide +kernel), List.mem_of_getElem? (i := 1047) (by decide +kernel)⟩
theorem lw_p70 : lw_okq (⟨"SwarmPlannerModel", "mayExchange", "(III)Z"⟩, 25) := ⟨⟨by decide +kernel, by decide +kernel⟩, List.mem_of_getElem? (i := 855) (by decide +kernel), List.mem_of_getElem? (i := 1050) (by decide +kernel), List.mem_of_getElem? (i := 1051) (by decide +kernel)⟩
theorem lw_p71 : lw_okq (⟨"SwarmPlannerModel", "stepsAside", "(I)Z"⟩, 25) := ⟨⟨by decide +kernel, by decide +kernel⟩, List.mem_of_getElem? (i := 855) (by decide +kernel), List.mem_of_getElem? (i := 1054) (by decide +kernel), List.mem_of_getElem? (i := 1055) (by decide +kernel)⟩
theorem lw_p72 : lw_okq (⟨"SwarmPlannerModel", "opens", "(I)I"⟩, 25) := ⟨⟨by decide +kernel, by decide +kernel⟩, List.mem_of_getElem? (i := 855) (by decide +kernel), List.mem_of_getElem? (i := 1062) (by decide +kernel), List.mem_of_getElem? (i := 1063) (by decide +kernel)⟩
theorem lw_p73 : lw_okq (⟨"SwarmPlannerModel", "goesLost", "(I)I"⟩, 25) := ⟨⟨by decide +kernel, by decide +kernel⟩, List.mem_of_getElem? (i := 855) (by decide +kernel), List.mem_of_getElem? (i := 1070) (by decide +kernel), List.mem_of_getElem? (i := 1071) (by decide +kernel)⟩
theorem lw_p74 : lw_okq (⟨"SwarmPlannerModel", "members", "()I"⟩, 25) := ⟨⟨by decide +kernel, by decide +kernel⟩, List.mem_of_getElem? (i := 855) (by decide +kernel), List.mem_of_getElem? (i := 1074) (by decide +kernel), List.mem_of_getElem? (i := 1075) (by decide +kernel)⟩
theorem lw_p75 : lw_okq (⟨"SwarmPlannerModel", "turnsBlocked", "(I)I"⟩, 25) := ⟨⟨by decide +kernel, by decide +kernel⟩, List.mem_of_getElem? (i := 855) (by decide +kernel), List.mem_of_getElem? (i := 1093) (by decide +kernel), List.mem_of_getElem? (i := 1094) (by decide +kernel)⟩
theorem lw_p76 : lw_okq (⟨"SwarmPlannerModel", "readsShape", "()V"⟩, 25) := ⟨⟨by decide +kernel, by decide +kernel⟩, List.mem_of_getElem? (i := 855) (by decide +kernel), List.mem_of_getElem? (i := 1105) (by decide +kernel), List.mem_of_getElem? (i := 1106) (by decide +kernel)⟩
theorem lw_p77 : lw_okq (⟨"SwarmPlannerModel", "here", "()I"⟩, 25) := ⟨⟨by decide +kernel, by decide +kernel⟩, List.mem_of_getElem? (i := 855) (by decide +kernel), List.mem_of_getElem? (i := 1109) (by decide +kernel), List.mem_of_getElem? (i := 1110) (by decide +kernel)⟩
theorem lw_p78 : lw_okq (⟨"SwarmPlannerModel", "order", "()V"⟩, 25) := ⟨⟨by decide +kernel, by decide +kernel⟩, List.mem_of_getElem? (i := 855) (by decide +kernel), List.mem_of_getElem? (i := 1121) (by decide +kernel), List.mem_of_getElem? (i := 1122) (by decide +kernel)⟩
theorem lw_p79 : lw_okq (⟨"SwarmPlannerModel", "number", "()I"⟩, 25) := ⟨⟨by decide +kernel, by decide +kernel⟩, List.mem_of_getElem? (i := 855) (by decide +kernel), List.mem_of_getElem? (i := 1125) (by decide +kernel), List.mem_of_getElem? (i := 1126) (by decide +kernel)⟩
def lw_privs_5 : List (MethodName × Nat) := [(⟨"SwarmPlannerModel", "column", "(II)I"⟩, 25), (⟨"SwarmPlannerModel", "rowOf", "(II)I"⟩, 25), (⟨"SwarmPlannerModel", "reckons", "(I)V"⟩, 25), (⟨"SwarmPlannerModel", "acts", "(I)V"⟩, 25), (⟨"SwarmPlannerModel", "steps", "(III)Z"⟩, 25), (⟨"SwarmPlannerModel", "exchanges", "(III)Z"⟩, 25), (⟨"SwarmPlannerModel", "mayExchange", "(III)Z"⟩, 25), (⟨"SwarmPlannerModel", "stepsAside", "(I)Z"⟩, 25), (⟨"SwarmPlannerModel", "opens", "(I)I"⟩, 25), (⟨"SwarmPlannerModel", "goesLost", "(I)I"⟩, 25), (⟨"SwarmPlannerModel", "members", "()I"⟩, 25), (⟨"SwarmPlannerModel", "turnsBlocked", "(I)I"⟩, 25), (⟨"SwarmPlannerModel", "readsShape", "()V"⟩, 25), (⟨"SwarmPlannerModel", "here", "()I"⟩, 25), (⟨"SwarmPlannerModel", "order", "()V"⟩, 25), (⟨"SwarmPlannerModel", "number", "()I"⟩, 25)]
theorem lw_r5 : ∀ q ∈ lw_privs_5, lw_okq q := List.forall_mem_cons.mpr ⟨lw_p64, List.forall_mem_cons.mpr ⟨lw_p65, List.forall_mem_cons.mpr ⟨lw_p66, List.forall_mem_cons.mpr ⟨lw_p67, List.forall_mem_cons.mpr ⟨lw_p68, List.forall_mem_cons.mpr ⟨lw_p69, List.forall_mem_cons.mpr ⟨lw_p70, List.forall_mem_cons.mpr ⟨lw_p71, List.forall_mem_cons.mpr ⟨lw_p72, List.forall_mem_cons.mpr ⟨lw_p73, List.forall_mem_cons.mpr ⟨lw_p74, List.forall_mem_cons.mpr ⟨lw_p75, List.forall_mem_cons.mpr ⟨lw_p76, List.forall_mem_cons.mpr ⟨lw_p77, List.forall_mem_cons.mpr ⟨lw_p78, List.forall_mem_cons.mpr ⟨lw_p79, fun _ h => absurd h List.not_mem_nil⟩⟩⟩⟩⟩⟩⟩⟩⟩⟩⟩⟩⟩⟩⟩⟩
theorem lw_p80 : lw_okq (⟨"SwarmPlannerModel", "refusal", "(III)I"⟩, 25) := ⟨⟨by decide +kernel, by decide +kernel⟩, List.mem_of_getElem? (i := 855) (by decide +kernel), List.mem_of_getElem? (i := 1129) (by decide +kernel), List.mem_of_getElem? (i := 1130) (by decide +kernel)⟩
theorem lw_p81 : lw_okq (⟨"SwarmPlannerModel", "carries", "(III)V"⟩, 25) := ⟨⟨by decide +kernel, by decide +kernel⟩, List.mem_of_getElem? (i := 855) (by decide +kernel), List.mem_of_getElem? (i := 1133) (by decide +kernel), List.mem_of_getElem? (i := 1134) (by decide +kernel)⟩
theorem lw_p82 : lw_okq (⟨"SwarmPlannerModel", "isFormed", "()Z"⟩, 25) := ⟨⟨by decide +kernel, by decide +kernel⟩, List.mem_of_getElem? (i := 855) (by decide +kernel), List.mem_of_getElem? (i := 1149) (by decide +kernel), List.mem_of_getElem? (i := 1150) (by decide +kernel)⟩
theorem lw_p83 : lw_okq (⟨"SwarmPlannerModel", "slotAt", "(I)I"⟩, 25) := ⟨⟨by decide +kernel, by decide +kernel⟩, List.mem_of_getElem? (i := 855) (by decide +kernel), List.mem_of_getElem? (i := 1157) (by decide +kernel), List.mem_of_getElem? (i := 1158) (by decide +kernel)⟩
theorem lw_p84 : lw_okq (⟨"SwarmPlannerModel", "distanceOf", "(II)I"⟩, 25) := ⟨⟨by decide +kernel, by decide +kernel⟩, List.mem_of_getElem? (i := 855) (by decide +kernel), List.mem_of_getElem? (i := 1161) (by decide +kernel), List.mem_of_getElem? (i := 1162) (by decide +kernel)⟩
theorem lw_p85 : lw_okq (⟨"SwarmPlannerModel", "isLike", "(III)Z"⟩, 25) := ⟨⟨by decide +kernel, by decide +kernel⟩, List.mem_of_getElem? (i := 855) (by decide +kernel), List.mem_of_getElem? (i := 1177) (by decide +kernel), List.mem_of_getElem? (i := 1178) (by decide +kernel)⟩
theorem lw_p86 : lw_okq (⟨"SwarmPlannerModel", "turnsRound", "(III)V"⟩, 25) := ⟨⟨by decide +kernel, by decide +kernel⟩, List.mem_of_getElem? (i := 855) (by decide +kernel), List.mem_of_getElem? (i := 1181) (by decide +kernel), List.mem_of_getElem? (i := 1182) (by decide +kernel)⟩
theorem lw_p87 : lw_okq (⟨"SwarmPlannerModel", "forms", "(I)I"⟩, 25) := ⟨⟨by decide +kernel, by decide +kernel⟩, List.mem_of_getElem? (i := 855) (by decide +kernel), List.mem_of_getElem? (i := 1189) (by decide +kernel), List.mem_of_getElem? (i := 1190) (by decide +kernel)⟩
def lw_privs_6 : List (MethodName × Nat) := [(⟨"SwarmPlannerModel", "refusal", "(III)I"⟩, 25), (⟨"SwarmPlannerModel", "carries", "(III)V"⟩, 25), (⟨"SwarmPlannerModel", "isFormed", "()Z"⟩, 25), (⟨"SwarmPlannerModel", "slotAt", "(I)I"⟩, 25), (⟨"SwarmPlannerModel", "distanceOf", "(II)I"⟩, 25), (⟨"SwarmPlannerModel", "isLike", "(III)Z"⟩, 25), (⟨"SwarmPlannerModel", "turnsRound", "(III)V"⟩, 25), (⟨"SwarmPlannerModel", "forms", "(I)I"⟩, 25)]
theorem lw_r6 : ∀ q ∈ lw_privs_6, lw_okq q := List.forall_mem_cons.mpr ⟨lw_p80, List.forall_mem_cons.mpr ⟨lw_p81, List.forall_mem_cons.mpr ⟨lw_p82, List.forall_mem_cons.mpr ⟨lw_p83, List.forall_mem_cons.mpr ⟨lw_p84, List.forall_mem_cons.mpr ⟨lw_p85, List.forall_mem_cons.mpr ⟨lw_p86, List.forall_mem_cons.mpr ⟨lw_p87, fun _ h => absurd h List.not_mem_nil⟩⟩⟩⟩⟩⟩⟩⟩
def lw_privs : List (MethodName × Nat) := lw_privs_1 ++ (lw_privs_2 ++ (lw_privs_3 ++ (lw_privs_4 ++ (lw_privs_5 ++ (lw_privs_6)))))
def lw_tbl : List Cond := k2_sels lw_privs ++ tables_1
theorem lw_privs_ok : ∀ q ∈ lw_privs, lw_okq q := by
  show ∀ q ∈ lw_privs_1 ++ (lw_privs_2 ++ (lw_privs_3 ++ (lw_privs_4 ++ (lw_privs_5 ++ (lw_privs_6))))), lw_okq q
  exact List.forall_mem_append.mpr ⟨lw_r1, List.forall_mem_append.mpr ⟨lw_r2, List.forall_mem_append.mpr ⟨lw_r3, List.forall_mem_append.mpr ⟨lw_r4, List.forall_mem_append.mpr ⟨lw_r5, lw_r6⟩⟩⟩⟩⟩
def RX0 : String := "SwarmPlanner$CommandText"
def TX0 : u_T := fun k => match k with
  | 0 => ("SwarmPlanner$CommandText", "kind", "[I", true)
  | 1 => ("SwarmPlanner$CommandText", "first", "[I", true)
  | 2 => ("SwarmPlanner$CommandText", "second", "[I", true)
  | 3 => ("SwarmPlanner$CommandText", "size", "I", false)
  | _ => ("SwarmPlanner$CommandText", "at", "I", false)
def tyX0 : Nat → FieldType := fun k => match k with
  | 0 => .array .int
  | 1 => .array .int
  | 2 => .array .int
  | 3 => .int
  | _ => .int
abbrev wsX00 : List Cond := u_ws RX0 TX0 5
theorem nmX0 : ∀ a, a < 5 → ∀ b, b < 5 → a ≠ b → (TX0 a).2.1 ≠ (TX0 b).2.1 := by decide +kernel
theorem tyX0_ok : ∀ k, k < 5 → parseFieldDescriptor (TX0 k).2.2.1 = some (tyX0 k) := by decide +kernel
abbrev cX0_init : ByteArray := prog_2_method_1_code
def yX0_init : MethodName := ⟨RX0, "<init>", "()V"⟩
abbrev cX0_read : ByteArray := prog_2_method_2_code
def yX0_read : MethodName := ⟨RX0, "read", "(LSwarmPlanner$Tape;)I"⟩
abbrev cX0_readCommand : ByteArray := prog_2_method_3_code
def yX0_readCommand : MethodName := ⟨RX0, "readCommand", "(LSwarmPlanner$Tape;I)Z"⟩
abbrev cX0_readSign : ByteArray := prog_2_method_4_code
def yX0_readSign : MethodName := ⟨RX0, "readSign", "(LSwarmPlanner$Tape;I)Z"⟩
abbrev cX0_readNumber : ByteArray := prog_2_method_5_code
def yX0_readNumber : MethodName := ⟨RX0, "readNumber", "(LSwarmPlanner$Tape;)I"⟩
abbrev cX0_isDigit : ByteArray := prog_2_method_6_code
def yX0_isDigit : MethodName := ⟨RX0, "isDigit", "(I)Z"⟩
def RX1 : String := "SwarmPlanner$Giving"
def TX1 : u_T := fun k => match k with
  | 0 => ("SwarmPlanner$Giving", "slotOf", "[I", true)
  | 1 => ("SwarmPlanner$Giving", "placeOf", "[I", true)
  | 2 => ("SwarmPlanner$Giving", "placeOfSlot", "[I", true)
  | 3 => ("SwarmPlanner$Giving", "openSlots", "I", false)
  | 4 => ("SwarmPlanner$Giving", "given", "I", false)
  | 5 => ("SwarmPlanner$Giving", "sum", "I", false)
  | 6 => ("SwarmPlanner$Giving", "world", "LSwarmPlanner$World;", true)
  | 7 => ("SwarmPlanner$Giving", "ways", "LSwarmPlanner$Ways;", true)
  | 8 => ("SwarmPlanner$Giving", "match", "LSwarmPlanner$Match;", true)
  | 9 => ("SwarmPlanner$Giving", "followers", "[I", true)
  | 10 => ("SwarmPlanner$Giving", "followerCount", "I", false)
  | 11 => ("SwarmPlanner$Giving", "open", "[I", true)
  | _ => ("SwarmPlanner$Giving", "leastBySet", "[I", true)
def tyX1 : Nat → FieldType := fun k => match k with
  | 0 => .array .int
  | 1 => .array .int
  | 2 => .array .int
  | 3 => .int
  | 4 => .int
  | 5 => .int
  | 6 => .object "SwarmPlanner$World"
  | 7 => .object "SwarmPlanner$Ways"
  | 8 => .object "SwarmPlanner$Match"
  | 9 => .array .int
  | 10 => .int
  | 11 => .array .int
  | _ => .array .int
abbrev wsX10 : List Cond := u_ws RX1 TX1 13
theorem nmX1 : ∀ a, a < 13 → ∀ b, b < 13 → a ≠ b → (TX1 a).2.1 ≠ (TX1 b).2.1 := by decide +kernel
theorem tyX1_ok : ∀ k, k < 13 → parseFieldDescriptor (TX1 k).2.2.1 = some (tyX1 k) := by decide +kernel
abbrev cX1_init : ByteArray := prog_3_method_1_code
def yX1_init : MethodName := ⟨RX1, "<init>", "(LSwarmPlanner$World;LSwarmPlanner$Ways;)V"⟩
abbrev cX1_renew : ByteArray := prog_3_method_2_code
def yX1_renew : MethodName := ⟨RX1, "renew", "()V"⟩
abbrev cX1_isFormed : ByteArray := prog_3_method_3_code
def yX1_isFormed : MethodName := ⟨RX1, "isFormed", "()Z"⟩
abbrev cX1_listFollowers : ByteArray := prog_3_method_4_code
def yX1_listFollowers : MethodName := ⟨RX1, "listFollowers", "()V"⟩
abbrev cX1_listOpenSlots : ByteArray := prog_3_method_5_code
def yX1_listOpenSlots : MethodName := ⟨RX1, "listOpenSlots", "()V"⟩
abbrev cX1_placeFrom : ByteArray := prog_3_method_6_code
def yX1_placeFrom : MethodName := ⟨RX1, "placeFrom", "(ILSwarmPlanner$Shape;I)I"⟩
abbrev cX1_priceChoices : ByteArray := prog_3_method_7_code
def yX1_priceChoices : MethodName := ⟨RX1, "priceChoices", "()V"⟩
abbrev cX1_give : ByteArray := prog_3_method_8_code
def yX1_give : MethodName := ⟨RX1, "give", "(II)V"⟩
abbrev cX1_sumBySlots : ByteArray := prog_3_method_9_code
def yX1_sumBySlots : MethodName := ⟨RX1, "sumBySlots", "()I"⟩
abbrev cX1_takeSlotIn : ByteArray := prog_3_method_10_code
def yX1_takeSlotIn : MethodName := ⟨RX1, "takeSlotIn", "([I)V"⟩
def RX2 : String := "SwarmPlanner$Match"
def TX2 : u_T := fun k => match k with
  | 0 => ("SwarmPlanner$Match", "price", "[[J", true)
  | 1 => ("SwarmPlanner$Match", "rowAt", "[I", true)
  | 2 => ("SwarmPlanner$Match", "rowShare", "[J", true)
  | 3 => ("SwarmPlanner$Match", "columnShare", "[J", true)
  | 4 => ("SwarmPlanner$Match", "slack", "[J", true)
  | 5 => ("SwarmPlanner$Match", "cameFrom", "[I", true)
  | _ => ("SwarmPlanner$Match", "reached", "[Z", true)
def tyX2 : Nat → FieldType := fun k => match k with
  | 0 => .array (.array .long)
  | 1 => .array .int
  | 2 => .array .long
  | 3 => .array .long
  | 4 => .array .long
  | 5 => .array .int
  | _ => .array .boolean
abbrev wsX20 : List Cond := u_ws RX2 TX2 7
theorem nmX2 : ∀ a, a < 7 → ∀ b, b < 7 → a ≠ b → (TX2 a).2.1 ≠ (TX2 b).2.1 := by decide +kernel
theorem tyX2_ok : ∀ k, k < 7 → parseFieldDescriptor (TX2 k).2.2.1 = some (tyX2 k) := by decide +kernel
abbrev cX2_init : ByteArray := prog_4_method_1_code
def yX2_init : MethodName := ⟨RX2, "<init>", "()V"⟩
abbrev cX2_solve : ByteArray := prog_4_method_2_code
def yX2_solve : MethodName := ⟨RX2, "solve", "(II)V"⟩
abbrev cX2_seat : ByteArray := prog_4_method_3_code
def yX2_seat : MethodName := ⟨RX2, "seat", "(II)V"⟩
abbrev cX2_reachNext : ByteArray := prog_4_method_4_code
def yX2_reachNext : MethodName := ⟨RX2, "reachNext", "(II)I"⟩
def RX3 : String := "SwarmPlanner$Past"
def TX3 : u_T := fun k => match k with
  | 0 => ("SwarmPlanner$Past", "size", "I", false)
  | 1 => ("SwarmPlanner$Past", "kept", "[LSwarmPlanner$World;", true)
  | _ => ("SwarmPlanner$Past", "next", "I", false)
def tyX3 : Nat → FieldType := fun k => match k with
  | 0 => .int
  | 1 => .array (.object "SwarmPlanner$World")
  | _ => .int
abbrev wsX30 : List Cond := u_ws RX3 TX3 3
theorem nmX3 : ∀ a, a < 3 → ∀ b, b < 3 → a ≠ b → (TX3 a).2.1 ≠ (TX3 b).2.1 := by decide +kernel
theorem tyX3_ok : ∀ k, k < 3 → parseFieldDescriptor (TX3 k).2.2.1 = some (tyX3 k) := by decide +kernel
abbrev cX3_init : ByteArray := prog_5_method_1_code
def yX3_init : MethodName := ⟨RX3, "<init>", "()V"⟩
abbrev cX3_keep : ByteArray := prog_5_method_2_code
def yX3_keep : MethodName := ⟨RX3, "keep", "(LSwarmPlanner$World;)V"⟩
abbrev cX3_takeLatest : ByteArray := prog_5_method_3_code
def yX3_takeLatest : MethodName := ⟨RX3, "takeLatest", "()LSwarmPlanner$World;"⟩
abbrev cX3_forget : ByteArray := prog_5_method_4_code
def yX3_forget : MethodName := ⟨RX3, "forget", "()V"⟩
def RX4 : String := "SwarmPlanner$Shape"
def TX4 : u_T := fun k => match k with
  | 0 => ("SwarmPlanner$Shape", "columns", "[I", true)
  | 1 => ("SwarmPlanner$Shape", "rows", "[I", true)
  | 2 => ("SwarmPlanner$Shape", "size", "I", false)
  | _ => ("SwarmPlanner$Shape", "anchor", "I", false)
def tyX4 : Nat → FieldType := fun k => match k with
  | 0 => .array .int
  | 1 => .array .int
  | 2 => .int
  | _ => .int
abbrev wsX40 : List Cond := u_ws RX4 TX4 4
theorem nmX4 : ∀ a, a < 4 → ∀ b, b < 4 → a ≠ b → (TX4 a).2.1 ≠ (TX4 b).2.1 := by decide +kernel
theorem tyX4_ok : ∀ k, k < 4 → parseFieldDescriptor (TX4 k).2.2.1 = some (tyX4 k) := by decide +kernel
abbrev cX4_init : ByteArray := prog_6_method_1_code
def yX4_init : MethodName := ⟨RX4, "<init>", "()V"⟩
abbrev cX4_copyFrom : ByteArray := prog_6_method_2_code
def yX4_copyFrom : MethodName := ⟨RX4, "copyFrom", "(LSwarmPlanner$Shape;)V"⟩
abbrev cX4_empty : ByteArray := prog_6_method_3_code
def yX4_empty : MethodName := ⟨RX4, "empty", "()V"⟩
abbrev cX4_takeSlot : ByteArray := prog_6_method_4_code
def yX4_takeSlot : MethodName := ⟨RX4, "takeSlot", "(II)Z"⟩
abbrev cX4_takeAnchor : ByteArray := prog_6_method_5_code
def yX4_takeAnchor : MethodName := ⟨RX4, "takeAnchor", "(II)Z"⟩
abbrev cX4_columnsFromAnchor : ByteArray := prog_6_method_6_code
def yX4_columnsFromAnchor : MethodName := ⟨RX4, "columnsFromAnchor", "(I)I"⟩
abbrev cX4_rowsFromAnchor : ByteArray := prog_6_method_7_code
def yX4_rowsFromAnchor : MethodName := ⟨RX4, "rowsFromAnchor", "(I)I"⟩
abbrev cX4_lowestWay : ByteArray := prog_6_method_8_code
def yX4_lowestWay : MethodName := ⟨RX4, "lowestWay", "(LSwarmPlanner$World;)I"⟩
abbrev cX4_isMade : ByteArray := prog_6_method_9_code
def yX4_isMade : MethodName := ⟨RX4, "isMade", "(LSwarmPlanner$World;I)Z"⟩
abbrev cX4_isMadeFrom : ByteArray := prog_6_method_10_code
def yX4_isMadeFrom : MethodName := ⟨RX4, "isMadeFrom", "(LSwarmPlanner$World;II)Z"⟩
abbrev cX4_mirroredColumn : ByteArray := prog_6_method_11_code
def yX4_mirroredColumn : MethodName := ⟨RX4, "mirroredColumn", "(II)I"⟩
abbrev cX4_turnedColumn : ByteArray := prog_6_method_12_code
def yX4_turnedColumn : MethodName := ⟨RX4, "turnedColumn", "(II)I"⟩
abbrev cX4_turnedRow : ByteArray := prog_6_method_13_code
def yX4_turnedRow : MethodName := ⟨RX4, "turnedRow", "(II)I"⟩
def RX5 : String := "SwarmPlanner$ShapeText"
def TX5 : u_T := fun k => match k with
  | 0 => ("SwarmPlanner$ShapeText", "draft", "LSwarmPlanner$Shape;", true)
  | 1 => ("SwarmPlanner$ShapeText", "column", "I", false)
  | _ => ("SwarmPlanner$ShapeText", "row", "I", false)
def tyX5 : Nat → FieldType := fun k => match k with
  | 0 => .object "SwarmPlanner$Shape"
  | 1 => .int
  | _ => .int
abbrev wsX50 : List Cond := u_ws RX5 TX5 3
theorem nmX5 : ∀ a, a < 3 → ∀ b, b < 3 → a ≠ b → (TX5 a).2.1 ≠ (TX5 b).2.1 := by decide +kernel
theorem tyX5_ok : ∀ k, k < 3 → parseFieldDescriptor (TX5 k).2.2.1 = some (tyX5 k) := by decide +kernel
abbrev cX5_init : ByteArray := prog_7_method_1_code
def yX5_init : MethodName := ⟨RX5, "<init>", "()V"⟩
abbrev cX5_read : ByteArray := prog_7_method_2_code
def yX5_read : MethodName := ⟨RX5, "read", "(LSwarmPlanner$Tape;)I"⟩
abbrev cX5_takes : ByteArray := prog_7_method_3_code
def yX5_takes : MethodName := ⟨RX5, "takes", "(I)Z"⟩
abbrev cX5_takesRowEnd : ByteArray := prog_7_method_4_code
def yX5_takesRowEnd : MethodName := ⟨RX5, "takesRowEnd", "()Z"⟩
abbrev cX5_takesSlot : ByteArray := prog_7_method_5_code
def yX5_takesSlot : MethodName := ⟨RX5, "takesSlot", "(I)Z"⟩
def RX6 : String := "SwarmPlanner$Tape"
def TX6 : u_T := fun k => match k with
  | 0 => ("SwarmPlanner$Tape", "length", "I", false)
  | _ => ("SwarmPlanner$Tape", "bytes", "[I", true)
def tyX6 : Nat → FieldType := fun k => match k with
  | 0 => .int
  | _ => .array .int
abbrev wsX60 : List Cond := u_ws RX6 TX6 2
theorem nmX6 : ∀ a, a < 2 → ∀ b, b < 2 → a ≠ b → (TX6 a).2.1 ≠ (TX6 b).2.1 := by decide +kernel
theorem tyX6_ok : ∀ k, k < 2 → parseFieldDescriptor (TX6 k).2.2.1 = some (tyX6 k) := by decide +kernel
abbrev cX6_init : ByteArray := prog_8_method_1_code
def yX6_init : MethodName := ⟨RX6, "<init>", "()V"⟩
abbrev cX6_append : ByteArray := prog_8_method_2_code
def yX6_append : MethodName := ⟨RX6, "append", "(I)V"⟩
abbrev cX6_empty : ByteArray := prog_8_method_3_code
def yX6_empty : MethodName := ⟨RX6, "empty", "()V"⟩
abbrev cX6_at : ByteArray := prog_8_method_4_code
def yX6_at : MethodName := ⟨RX6, "at", "(I)I"⟩
def RX7 : String := "SwarmPlanner$Turns"
def TX7 : u_T := fun k => match k with
  | 0 => ("SwarmPlanner$Turns", "world", "LSwarmPlanner$World;", true)
  | 1 => ("SwarmPlanner$Turns", "ways", "LSwarmPlanner$Ways;", true)
  | 2 => ("SwarmPlanner$Turns", "giving", "LSwarmPlanner$Giving;", true)
  | 3 => ("SwarmPlanner$Turns", "line", "[I", true)
  | 4 => ("SwarmPlanner$Turns", "farFromPlace", "[I", true)
  | _ => ("SwarmPlanner$Turns", "lined", "I", false)
def tyX7 : Nat → FieldType := fun k => match k with
  | 0 => .object "SwarmPlanner$World"
  | 1 => .object "SwarmPlanner$Ways"
  | 2 => .object "SwarmPlanner$Giving"
  | 3 => .array .int
  | 4 => .array .int
  | _ => .int
abbrev wsX70 : List Cond := u_ws RX7 TX7 6
theorem nmX7 : ∀ a, a < 6 → ∀ b, b < 6 → a ≠ b → (TX7 a).2.1 ≠ (TX7 b).2.1 := by decide +kernel
theorem tyX7_ok : ∀ k, k < 6 → parseFieldDescriptor (TX7 k).2.2.1 = some (tyX7 k) := by decide +kernel
abbrev cX7_init : ByteArray := prog_9_method_1_code
def yX7_init : MethodName := ⟨RX7, "<init>", "(LSwarmPlanner$World;LSwarmPlanner$Ways;LSwarmPlanner$Giving;)V"⟩
abbrev cX7_makeRound : ByteArray := prog_9_method_2_code
def yX7_makeRound : MethodName := ⟨RX7, "makeRound", "()V"⟩
abbrev cX7_countRound : ByteArray := prog_9_method_3_code
def yX7_countRound : MethodName := ⟨RX7, "countRound", "()V"⟩
abbrev cX7_moveLeader : ByteArray := prog_9_method_4_code
def yX7_moveLeader : MethodName := ⟨RX7, "moveLeader", "(I)V"⟩
abbrev cX7_firstNearer : ByteArray := prog_9_method_5_code
def yX7_firstNearer : MethodName := ⟨RX7, "firstNearer", "([II)I"⟩
abbrev cX7_lineUp : ByteArray := prog_9_method_6_code
def yX7_lineUp : MethodName := ⟨RX7, "lineUp", "(I)V"⟩
abbrev cX7_lineUpMember : ByteArray := prog_9_method_7_code
def yX7_lineUpMember : MethodName := ⟨RX7, "lineUpMember", "(I)V"⟩
abbrev cX7_insert : ByteArray := prog_9_method_8_code
def yX7_insert : MethodName := ⟨RX7, "insert", "(II)V"⟩
abbrev cX7_act : ByteArray := prog_9_method_9_code
def yX7_act : MethodName := ⟨RX7, "act", "(I)V"⟩
abbrev cX7_firstFreeNearer : ByteArray := prog_9_method_10_code
def yX7_firstFreeNearer : MethodName := ⟨RX7, "firstFreeNearer", "([II)I"⟩
abbrev cX7_firstPartner : ByteArray := prog_9_method_11_code
def yX7_firstPartner : MethodName := ⟨RX7, "firstPartner", "([II)I"⟩
abbrev cX7_stayOrStepAside : ByteArray := prog_9_method_12_code
def yX7_stayOrStepAside : MethodName := ⟨RX7, "stayOrStepAside", "(II)V"⟩
abbrev cX7_firstFree : ByteArray := prog_9_method_13_code
def yX7_firstFree : MethodName := ⟨RX7, "firstFree", "(I)I"⟩
def RX8 : String := "SwarmPlanner$Ways"
def TX8 : u_T := fun k => match k with
  | 0 => ("SwarmPlanner$Ways", "world", "LSwarmPlanner$World;", true)
  | 1 => ("SwarmPlanner$Ways", "distances", "[[I", true)
  | 2 => ("SwarmPlanner$Ways", "known", "[Z", true)
  | _ => ("SwarmPlanner$Ways", "queue", "[I", true)
def tyX8 : Nat → FieldType := fun k => match k with
  | 0 => .object "SwarmPlanner$World"
  | 1 => .array (.array .int)
  | 2 => .array .boolean
  | _ => .array .int
abbrev wsX80 : List Cond := u_ws RX8 TX8 4
theorem nmX8 : ∀ a, a < 4 → ∀ b, b < 4 → a ≠ b → (TX8 a).2.1 ≠ (TX8 b).2.1 := by decide +kernel
theorem tyX8_ok : ∀ k, k < 4 → parseFieldDescriptor (TX8 k).2.2.1 = some (tyX8 k) := by decide +kernel
abbrev cX8_init : ByteArray := prog_10_method_1_code
def yX8_init : MethodName := ⟨RX8, "<init>", "(LSwarmPlanner$World;)V"⟩
abbrev cX8_forget : ByteArray := prog_10_method_2_code
def yX8_forget : MethodName := ⟨RX8, "forget", "()V"⟩
abbrev cX8_from : ByteArray := prog_10_method_3_code
def yX8_from : MethodName := ⟨RX8, "from", "(I)[I"⟩
def RX9 : String := "SwarmPlanner$World"
def TX9 : u_T := fun k => match k with
  | 0 => ("SwarmPlanner$World", "holds", "[I", true)
  | 1 => ("SwarmPlanner$World", "cellOf", "[I", true)
  | 2 => ("SwarmPlanner$World", "reasonOf", "[I", true)
  | 3 => ("SwarmPlanner$World", "waitsInRow", "[I", true)
  | 4 => ("SwarmPlanner$World", "stepsOf", "[I", true)
  | 5 => ("SwarmPlanner$World", "waitsOf", "[I", true)
  | 6 => ("SwarmPlanner$World", "roundsOf", "[I", true)
  | 7 => ("SwarmPlanner$World", "accounts", "[I", true)
  | 8 => ("SwarmPlanner$World", "shapes", "[LSwarmPlanner$Shape;", true)
  | 9 => ("SwarmPlanner$World", "named", "I", false)
  | 10 => ("SwarmPlanner$World", "goal", "I", false)
  | _ => ("SwarmPlanner$World", "present", "I", false)
def tyX9 : Nat → FieldType := fun k => match k with
  | 0 => .array .int
  | 1 => .array .int
  | 2 => .array .int
  | 3 => .array .int
  | 4 => .array .int
  | 5 => .array .int
  | 6 => .array .int
  | 7 => .array .int
  | 8 => .array (.object "SwarmPlanner$Shape")
  | 9 => .int
  | 10 => .int
  | _ => .int
abbrev wsX90 : List Cond := u_ws RX9 TX9 12
theorem nmX9 : ∀ a, a < 12 → ∀ b, b < 12 → a ≠ b → (TX9 a).2.1 ≠ (TX9 b).2.1 := by decide +kernel
theorem tyX9_ok : ∀ k, k < 12 → parseFieldDescriptor (TX9 k).2.2.1 = some (tyX9 k) := by decide +kernel
abbrev cX9_init : ByteArray := prog_11_method_1_code
def yX9_init : MethodName := ⟨RX9, "<init>", "()V"⟩
abbrev cX9_copyFrom : ByteArray := prog_11_method_2_code
def yX9_copyFrom : MethodName := ⟨RX9, "copyFrom", "(LSwarmPlanner$World;)V"⟩
abbrev cX9_living : ByteArray := prog_11_method_3_code
def yX9_living : MethodName := ⟨RX9, "living", "()I"⟩
abbrev cX9_hasMember : ByteArray := prog_11_method_4_code
def yX9_hasMember : MethodName := ⟨RX9, "hasMember", "(I)Z"⟩
abbrev cX9_leader : ByteArray := prog_11_method_5_code
def yX9_leader : MethodName := ⟨RX9, "leader", "()I"⟩
abbrev cX9_presentShape : ByteArray := prog_11_method_6_code
def yX9_presentShape : MethodName := ⟨RX9, "presentShape", "()LSwarmPlanner$Shape;"⟩
abbrev cX9_shapeSet : ByteArray := prog_11_method_7_code
def yX9_shapeSet : MethodName := ⟨RX9, "shapeSet", "()I"⟩
abbrev cX9_join : ByteArray := prog_11_method_8_code
def yX9_join : MethodName := ⟨RX9, "join", "(I)I"⟩
abbrev cX9_part : ByteArray := prog_11_method_9_code
def yX9_part : MethodName := ⟨RX9, "part", "(I)V"⟩
abbrev cX9_turnWall : ByteArray := prog_11_method_10_code
def yX9_turnWall : MethodName := ⟨RX9, "turnWall", "(I)V"⟩
abbrev cX9_step : ByteArray := prog_11_method_11_code
def yX9_step : MethodName := ⟨RX9, "step", "(III)V"⟩
abbrev cX9_exchange : ByteArray := prog_11_method_12_code
def yX9_exchange : MethodName := ⟨RX9, "exchange", "(II)V"⟩
abbrev cX9_put : ByteArray := prog_11_method_13_code
def yX9_put : MethodName := ⟨RX9, "put", "(III)V"⟩
abbrev cX9_stay : ByteArray := prog_11_method_14_code
def yX9_stay : MethodName := ⟨RX9, "stay", "(II)V"⟩
abbrev cX9_movedSince : ByteArray := prog_11_method_15_code
def yX9_movedSince : MethodName := ⟨RX9, "movedSince", "(LSwarmPlanner$World;)I"⟩
def RX10 : String := "SwarmPlanner"
def TX10 : u_T := fun k => match k with
  | 0 => ("SwarmPlanner", "world", "LSwarmPlanner$World;", true)
  | 1 => ("SwarmPlanner", "spare", "LSwarmPlanner$World;", true)
  | 2 => ("SwarmPlanner", "picture", "LSwarmPlanner$World;", true)
  | 3 => ("SwarmPlanner", "pictured", "Z", false)
  | 4 => ("SwarmPlanner", "past", "LSwarmPlanner$Past;", true)
  | 5 => ("SwarmPlanner", "tape", "LSwarmPlanner$Tape;", true)
  | 6 => ("SwarmPlanner", "shapeText", "LSwarmPlanner$ShapeText;", true)
  | 7 => ("SwarmPlanner", "commandText", "LSwarmPlanner$CommandText;", true)
  | 8 => ("SwarmPlanner", "ways", "LSwarmPlanner$Ways;", true)
  | 9 => ("SwarmPlanner", "giving", "LSwarmPlanner$Giving;", true)
  | 10 => ("SwarmPlanner", "turns", "LSwarmPlanner$Turns;", true)
  | 11 => ("SwarmPlanner", "refusedFor", "I", false)
  | _ => ("SwarmPlanner", "refusedCommand", "I", false)
def tyX10 : Nat → FieldType := fun k => match k with
  | 0 => .object "SwarmPlanner$World"
  | 1 => .object "SwarmPlanner$World"
  | 2 => .object "SwarmPlanner$World"
  | 3 => .boolean
  | 4 => .object "SwarmPlanner$Past"
  | 5 => .object "SwarmPlanner$Tape"
  | 6 => .object "SwarmPlanner$ShapeText"
  | 7 => .object "SwarmPlanner$CommandText"
  | 8 => .object "SwarmPlanner$Ways"
  | 9 => .object "SwarmPlanner$Giving"
  | 10 => .object "SwarmPlanner$Turns"
  | 11 => .int
  | _ => .int
abbrev wsX100 : List Cond := u_ws RX10 TX10 13
theorem nmX10 : ∀ a, a < 13 → ∀ b, b < 13 → a ≠ b → (TX10 a).2.1 ≠ (TX10 b).2.1 := by decide +kernel
theorem tyX10_ok : ∀ k, k < 13 → parseFieldDescriptor (TX10 k).2.2.1 = some (tyX10 k) := by decide +kernel
abbrev cX10_init : ByteArray := prog_1_method_1_code
def yX10_init : MethodName := ⟨RX10, "<init>", "()V"⟩
abbrev cX10_add : ByteArray := prog_1_method_2_code
def yX10_add : MethodName := ⟨RX10, "add", "(II)I"⟩
abbrev cX10_lose : ByteArray := prog_1_method_3_code
def yX10_lose : MethodName := ⟨RX10, "lose", "(I)I"⟩
abbrev cX10_lead : ByteArray := prog_1_method_4_code
def yX10_lead : MethodName := ⟨RX10, "lead", "(I)I"⟩
abbrev cX10_target : ByteArray := prog_1_method_5_code
def yX10_target : MethodName := ⟨RX10, "target", "(I)I"⟩
abbrev cX10_obstacle : ByteArray := prog_1_method_6_code
def yX10_obstacle : MethodName := ⟨RX10, "obstacle", "(I)I"⟩
abbrev cX10_feed : ByteArray := prog_1_method_7_code
def yX10_feed : MethodName := ⟨RX10, "feed", "(IIIIII)I"⟩
abbrev cX10_shape : ByteArray := prog_1_method_8_code
def yX10_shape : MethodName := ⟨RX10, "shape", "(I)I"⟩
abbrev cX10_choose : ByteArray := prog_1_method_9_code
def yX10_choose : MethodName := ⟨RX10, "choose", "(I)I"⟩
abbrev cX10_rounds : ByteArray := prog_1_method_10_code
def yX10_rounds : MethodName := ⟨RX10, "rounds", "(I)I"⟩
abbrev cX10_execute : ByteArray := prog_1_method_11_code
def yX10_execute : MethodName := ⟨RX10, "execute", "()I"⟩
abbrev cX10_refusal : ByteArray := prog_1_method_12_code
def yX10_refusal : MethodName := ⟨RX10, "refusal", "(I)I"⟩
abbrev cX10_member : ByteArray := prog_1_method_13_code
def yX10_member : MethodName := ⟨RX10, "member", "(II)I"⟩
abbrev cX10_swarm : ByteArray := prog_1_method_14_code
def yX10_swarm : MethodName := ⟨RX10, "swarm", "(I)I"⟩
abbrev cX10_cell : ByteArray := prog_1_method_15_code
def yX10_cell : MethodName := ⟨RX10, "cell", "(II)I"⟩
abbrev cX10_distance : ByteArray := prog_1_method_16_code
def yX10_distance : MethodName := ⟨RX10, "distance", "(II)I"⟩
abbrev cX10_slot : ByteArray := prog_1_method_17_code
def yX10_slot : MethodName := ⟨RX10, "slot", "(II)I"⟩
abbrev cX10_recognized : ByteArray := prog_1_method_18_code
def yX10_recognized : MethodName := ⟨RX10, "recognized", "(I)I"⟩
abbrev cX10_healed : ByteArray := prog_1_method_19_code
def yX10_healed : MethodName := ⟨RX10, "healed", "(I)I"⟩
abbrev cX10_healedWithout : ByteArray := prog_1_method_20_code
def yX10_healedWithout : MethodName := ⟨RX10, "healedWithout", "(II)I"⟩
abbrev cX10_again : ByteArray := prog_1_method_21_code
def yX10_again : MethodName := ⟨RX10, "again", "()I"⟩
abbrev cX10_account : ByteArray := prog_1_method_22_code
def yX10_account : MethodName := ⟨RX10, "account", "(I)I"⟩
abbrev cX10_back : ByteArray := prog_1_method_23_code
def yX10_back : MethodName := ⟨RX10, "back", "()I"⟩
abbrev cX10_image : ByteArray := prog_1_method_24_code
def yX10_image : MethodName := ⟨RX10, "image", "()I"⟩
abbrev cX10_undo : ByteArray := prog_1_method_25_code
def yX10_undo : MethodName := ⟨RX10, "undo", "()I"⟩
abbrev cX10_count : ByteArray := prog_1_method_26_code
def yX10_count : MethodName := ⟨RX10, "count", "(I)I"⟩
abbrev cX10_isCell : ByteArray := prog_1_method_27_code
def yX10_isCell : MethodName := ⟨RX10, "isCell", "(I)Z"⟩
abbrev cX10_isShape : ByteArray := prog_1_method_28_code
def yX10_isShape : MethodName := ⟨RX10, "isShape", "(I)Z"⟩
abbrev cX10_isByte : ByteArray := prog_1_method_29_code
def yX10_isByte : MethodName := ⟨RX10, "isByte", "(I)Z"⟩
abbrev cX10_cellAt : ByteArray := prog_1_method_30_code
def yX10_cellAt : MethodName := ⟨RX10, "cellAt", "(II)I"⟩
abbrev cX10_neighbor : ByteArray := prog_1_method_31_code
def yX10_neighbor : MethodName := ⟨RX10, "neighbor", "(II)I"⟩
abbrev cX10_restore : ByteArray := prog_1_method_32_code
def yX10_restore : MethodName := ⟨RX10, "restore", "(LSwarmPlanner$World;)V"⟩
abbrev cX10_turnWall : ByteArray := prog_1_method_33_code
def yX10_turnWall : MethodName := ⟨RX10, "turnWall", "(I)V"⟩
abbrev cX10_obey : ByteArray := prog_1_method_34_code
def yX10_obey : MethodName := ⟨RX10, "obey", "(III)I"⟩
abbrev cX10_obeyAdding : ByteArray := prog_1_method_35_code
def yX10_obeyAdding : MethodName := ⟨RX10, "obeyAdding", "(I)I"⟩
abbrev cX10_obeyWall : ByteArray := prog_1_method_36_code
def yX10_obeyWall : MethodName := ⟨RX10, "obeyWall", "(I)I"⟩
abbrev cX10_obeyTarget : ByteArray := prog_1_method_37_code
def yX10_obeyTarget : MethodName := ⟨RX10, "obeyTarget", "(I)I"⟩
abbrev cX10_obeyLeading : ByteArray := prog_1_method_38_code
def yX10_obeyLeading : MethodName := ⟨RX10, "obeyLeading", "(I)I"⟩
abbrev cX10_obeyLosing : ByteArray := prog_1_method_39_code
def yX10_obeyLosing : MethodName := ⟨RX10, "obeyLosing", "(I)I"⟩
abbrev cX10_numberGiven : ByteArray := prog_1_method_40_code
def yX10_numberGiven : MethodName := ⟨RX10, "numberGiven", "(II)I"⟩
abbrev cX10_numberOfGiving : ByteArray := prog_1_method_41_code
def yX10_numberOfGiving : MethodName := ⟨RX10, "numberOfGiving", "(I)I"⟩
abbrev cX10_slotWithPlace : ByteArray := prog_1_method_42_code
def yX10_slotWithPlace : MethodName := ⟨RX10, "slotWithPlace", "(I)I"⟩
abbrev cX10_distanceFromLeader : ByteArray := prog_1_method_43_code
def yX10_distanceFromLeader : MethodName := ⟨RX10, "distanceFromLeader", "(I)I"⟩
abbrev cX10_neighborsWithoutWall : ByteArray := prog_1_method_44_code
def yX10_neighborsWithoutWall : MethodName := ⟨RX10, "neighborsWithoutWall", "(I)I"⟩
abbrev cX10_triedWithout : ByteArray := prog_1_method_45_code
def yX10_triedWithout : MethodName := ⟨RX10, "triedWithout", "(II)I"⟩
def RX11 : String := "SwarmPlannerModel"
def TX11 : u_T := fun k => match k with
  | 0 => ("SwarmPlannerModel", "all", "[I", true)
  | 1 => ("SwarmPlannerModel", "changes", "I", false)
  | 2 => ("SwarmPlannerModel", "isSaved", "Z", false)
  | 3 => ("SwarmPlannerModel", "far", "[I", true)
  | 4 => ("SwarmPlannerModel", "queue", "[I", true)
  | 5 => ("SwarmPlannerModel", "places", "[I", true)
  | 6 => ("SwarmPlannerModel", "worths", "[I", true)
  | 7 => ("SwarmPlannerModel", "slotOf", "[I", true)
  | 8 => ("SwarmPlannerModel", "given", "I", false)
  | 9 => ("SwarmPlannerModel", "givenSum", "I", false)
  | 10 => ("SwarmPlannerModel", "worthOf", "[I", true)
  | 11 => ("SwarmPlannerModel", "turns", "[I", true)
  | 12 => ("SwarmPlannerModel", "turnFar", "[I", true)
  | 13 => ("SwarmPlannerModel", "cellsWere", "[I", true)
  | 14 => ("SwarmPlannerModel", "tape", "[I", true)
  | 15 => ("SwarmPlannerModel", "taped", "I", false)
  | 16 => ("SwarmPlannerModel", "at", "I", false)
  | 17 => ("SwarmPlannerModel", "fault", "I", false)
  | 18 => ("SwarmPlannerModel", "read", "[I", true)
  | 19 => ("SwarmPlannerModel", "orders", "[I", true)
  | 20 => ("SwarmPlannerModel", "orderMany", "I", false)
  | 21 => ("SwarmPlannerModel", "refusedWhy", "I", false)
  | 22 => ("SwarmPlannerModel", "refusedAt", "I", false)
  | 23 => ("SwarmPlannerModel", "turnedX", "I", false)
  | _ => ("SwarmPlannerModel", "turnedY", "I", false)
def tyX11 : Nat → FieldType := fun k => match k with
  | 0 => .array .int
  | 1 => .int
  | 2 => .boolean
  | 3 => .array .int
  | 4 => .array .int
  | 5 => .array .int
  | 6 => .array .int
  | 7 => .array .int
  | 8 => .int
  | 9 => .int
  | 10 => .array .int
  | 11 => .array .int
  | 12 => .array .int
  | 13 => .array .int
  | 14 => .array .int
  | 15 => .int
  | 16 => .int
  | 17 => .int
  | 18 => .array .int
  | 19 => .array .int
  | 20 => .int
  | 21 => .int
  | 22 => .int
  | 23 => .int
  | _ => .int
abbrev wsX110 : List Cond := u_ws RX11 TX11 25
theorem nmX11 : ∀ a, a < 25 → ∀ b, b < 25 → a ≠ b → (TX11 a).2.1 ≠ (TX11 b).2.1 := by decide +kernel
theorem tyX11_ok : ∀ k, k < 25 → parseFieldDescriptor (TX11 k).2.2.1 = some (tyX11 k) := by decide +kernel
abbrev cX11_init : ByteArray := prog_13_method_1_code
def yX11_init : MethodName := ⟨RX11, "<init>", "()V"⟩
abbrev cX11_in : ByteArray := prog_13_method_2_code
def yX11_in : MethodName := ⟨RX11, "in", "(III)Z"⟩
abbrev cX11_copies : ByteArray := prog_13_method_3_code
def yX11_copies : MethodName := ⟨RX11, "copies", "(II)V"⟩
abbrev cX11_keeps : ByteArray := prog_13_method_4_code
def yX11_keeps : MethodName := ⟨RX11, "keeps", "()V"⟩
abbrev cX11_of : ByteArray := prog_13_method_5_code
def yX11_of : MethodName := ⟨RX11, "of", "(II)I"⟩
abbrev cX11_lays : ByteArray := prog_13_method_6_code
def yX11_lays : MethodName := ⟨RX11, "lays", "(III)V"⟩
abbrev cX11_isMember : ByteArray := prog_13_method_7_code
def yX11_isMember : MethodName := ⟨RX11, "isMember", "(I)Z"⟩
abbrev cX11_isCell : ByteArray := prog_13_method_8_code
def yX11_isCell : MethodName := ⟨RX11, "isCell", "(I)Z"⟩
abbrev cX11_isBlocked : ByteArray := prog_13_method_9_code
def yX11_isBlocked : MethodName := ⟨RX11, "isBlocked", "(I)Z"⟩
abbrev cX11_members : ByteArray := prog_13_method_10_code
def yX11_members : MethodName := ⟨RX11, "members", "()I"⟩
abbrev cX11_on : ByteArray := prog_13_method_11_code
def yX11_on : MethodName := ⟨RX11, "on", "(I)I"⟩
abbrev cX11_leader : ByteArray := prog_13_method_12_code
def yX11_leader : MethodName := ⟨RX11, "leader", "()I"⟩
abbrev cX11_counts : ByteArray := prog_13_method_13_code
def yX11_counts : MethodName := ⟨RX11, "counts", "(II)V"⟩
abbrev cX11_beside : ByteArray := prog_13_method_14_code
def yX11_beside : MethodName := ⟨RX11, "beside", "(II)I"⟩
abbrev cX11_floods : ByteArray := prog_13_method_15_code
def yX11_floods : MethodName := ⟨RX11, "floods", "(II)V"⟩
abbrev cX11_distanceOf : ByteArray := prog_13_method_16_code
def yX11_distanceOf : MethodName := ⟨RX11, "distanceOf", "(II)I"⟩
abbrev cX11_shapeAt : ByteArray := prog_13_method_17_code
def yX11_shapeAt : MethodName := ⟨RX11, "shapeAt", "(I)I"⟩
abbrev cX11_slots : ByteArray := prog_13_method_18_code
def yX11_slots : MethodName := ⟨RX11, "slots", "(I)I"⟩
abbrev cX11_anchor : ByteArray := prog_13_method_19_code
def yX11_anchor : MethodName := ⟨RX11, "anchor", "(I)I"⟩
abbrev cX11_column : ByteArray := prog_13_method_20_code
def yX11_column : MethodName := ⟨RX11, "column", "(II)I"⟩
abbrev cX11_rowOf : ByteArray := prog_13_method_21_code
def yX11_rowOf : MethodName := ⟨RX11, "rowOf", "(II)I"⟩
abbrev cX11_placeOf : ByteArray := prog_13_method_22_code
def yX11_placeOf : MethodName := ⟨RX11, "placeOf", "(I)I"⟩
abbrev cX11_reckons : ByteArray := prog_13_method_23_code
def yX11_reckons : MethodName := ⟨RX11, "reckons", "(I)V"⟩
abbrev cX11_gives : ByteArray := prog_13_method_24_code
def yX11_gives : MethodName := ⟨RX11, "gives", "()V"⟩
abbrev cX11_isFormed : ByteArray := prog_13_method_25_code
def yX11_isFormed : MethodName := ⟨RX11, "isFormed", "()Z"⟩
abbrev cX11_goes : ByteArray := prog_13_method_26_code
def yX11_goes : MethodName := ⟨RX11, "goes", "(II)V"⟩
abbrev cX11_waits : ByteArray := prog_13_method_27_code
def yX11_waits : MethodName := ⟨RX11, "waits", "(I)V"⟩
abbrev cX11_leads : ByteArray := prog_13_method_28_code
def yX11_leads : MethodName := ⟨RX11, "leads", "()V"⟩
abbrev cX11_mayExchange : ByteArray := prog_13_method_29_code
def yX11_mayExchange : MethodName := ⟨RX11, "mayExchange", "(III)Z"⟩
abbrev cX11_steps : ByteArray := prog_13_method_30_code
def yX11_steps : MethodName := ⟨RX11, "steps", "(III)Z"⟩
abbrev cX11_exchanges : ByteArray := prog_13_method_31_code
def yX11_exchanges : MethodName := ⟨RX11, "exchanges", "(III)Z"⟩
abbrev cX11_stepsAside : ByteArray := prog_13_method_32_code
def yX11_stepsAside : MethodName := ⟨RX11, "stepsAside", "(I)Z"⟩
abbrev cX11_acts : ByteArray := prog_13_method_33_code
def yX11_acts : MethodName := ⟨RX11, "acts", "(I)V"⟩
abbrev cX11_round : ByteArray := prog_13_method_34_code
def yX11_round : MethodName := ⟨RX11, "round", "()V"⟩
abbrev cX11_makes : ByteArray := prog_13_method_35_code
def yX11_makes : MethodName := ⟨RX11, "makes", "(I)I"⟩
abbrev cX11_rounds : ByteArray := prog_13_method_36_code
def yX11_rounds : MethodName := ⟨RX11, "rounds", "(I)I"⟩
abbrev cX11_opens : ByteArray := prog_13_method_37_code
def yX11_opens : MethodName := ⟨RX11, "opens", "(I)I"⟩
abbrev cX11_goesLost : ByteArray := prog_13_method_38_code
def yX11_goesLost : MethodName := ⟨RX11, "goesLost", "(I)I"⟩
abbrev cX11_turnsBlocked : ByteArray := prog_13_method_39_code
def yX11_turnsBlocked : MethodName := ⟨RX11, "turnsBlocked", "(I)I"⟩
abbrev cX11_add : ByteArray := prog_13_method_40_code
def yX11_add : MethodName := ⟨RX11, "add", "(II)I"⟩
abbrev cX11_lose : ByteArray := prog_13_method_41_code
def yX11_lose : MethodName := ⟨RX11, "lose", "(I)I"⟩
abbrev cX11_lead : ByteArray := prog_13_method_42_code
def yX11_lead : MethodName := ⟨RX11, "lead", "(I)I"⟩
abbrev cX11_target : ByteArray := prog_13_method_43_code
def yX11_target : MethodName := ⟨RX11, "target", "(I)I"⟩
abbrev cX11_obstacle : ByteArray := prog_13_method_44_code
def yX11_obstacle : MethodName := ⟨RX11, "obstacle", "(I)I"⟩
abbrev cX11_feed : ByteArray := prog_13_method_45_code
def yX11_feed : MethodName := ⟨RX11, "feed", "(IIIIII)I"⟩
abbrev cX11_here : ByteArray := prog_13_method_46_code
def yX11_here : MethodName := ⟨RX11, "here", "()I"⟩
abbrev cX11_readsShape : ByteArray := prog_13_method_47_code
def yX11_readsShape : MethodName := ⟨RX11, "readsShape", "()V"⟩
abbrev cX11_shape : ByteArray := prog_13_method_48_code
def yX11_shape : MethodName := ⟨RX11, "shape", "(I)I"⟩
abbrev cX11_choose : ByteArray := prog_13_method_49_code
def yX11_choose : MethodName := ⟨RX11, "choose", "(I)I"⟩
abbrev cX11_number : ByteArray := prog_13_method_50_code
def yX11_number : MethodName := ⟨RX11, "number", "()I"⟩
abbrev cX11_order : ByteArray := prog_13_method_51_code
def yX11_order : MethodName := ⟨RX11, "order", "()V"⟩
abbrev cX11_refusal : ByteArray := prog_13_method_52_code
def yX11_refusal : MethodName := ⟨RX11, "refusal", "(III)I"⟩
abbrev cX11_carries : ByteArray := prog_13_method_53_code
def yX11_carries : MethodName := ⟨RX11, "carries", "(III)V"⟩
abbrev cX11_execute : ByteArray := prog_13_method_54_code
def yX11_execute : MethodName := ⟨RX11, "execute", "()I"⟩
abbrev cX11_refusal_ : ByteArray := prog_13_method_55_code
def yX11_refusal_ : MethodName := ⟨RX11, "refusal", "(I)I"⟩
abbrev cX11_member : ByteArray := prog_13_method_56_code
def yX11_member : MethodName := ⟨RX11, "member", "(II)I"⟩
abbrev cX11_swarm : ByteArray := prog_13_method_57_code
def yX11_swarm : MethodName := ⟨RX11, "swarm", "(I)I"⟩
abbrev cX11_slotAt : ByteArray := prog_13_method_58_code
def yX11_slotAt : MethodName := ⟨RX11, "slotAt", "(I)I"⟩
abbrev cX11_cell : ByteArray := prog_13_method_59_code
def yX11_cell : MethodName := ⟨RX11, "cell", "(II)I"⟩
abbrev cX11_distance : ByteArray := prog_13_method_60_code
def yX11_distance : MethodName := ⟨RX11, "distance", "(II)I"⟩
abbrev cX11_slot : ByteArray := prog_13_method_61_code
def yX11_slot : MethodName := ⟨RX11, "slot", "(II)I"⟩
abbrev cX11_turnsRound : ByteArray := prog_13_method_62_code
def yX11_turnsRound : MethodName := ⟨RX11, "turnsRound", "(III)V"⟩
abbrev cX11_isLike : ByteArray := prog_13_method_63_code
def yX11_isLike : MethodName := ⟨RX11, "isLike", "(III)Z"⟩
abbrev cX11_recognized : ByteArray := prog_13_method_64_code
def yX11_recognized : MethodName := ⟨RX11, "recognized", "(I)I"⟩
abbrev cX11_forms : ByteArray := prog_13_method_65_code
def yX11_forms : MethodName := ⟨RX11, "forms", "(I)I"⟩
abbrev cX11_healed : ByteArray := prog_13_method_66_code
def yX11_healed : MethodName := ⟨RX11, "healed", "(I)I"⟩
abbrev cX11_healedWithout : ByteArray := prog_13_method_67_code
def yX11_healedWithout : MethodName := ⟨RX11, "healedWithout", "(II)I"⟩
abbrev cX11_again : ByteArray := prog_13_method_68_code
def yX11_again : MethodName := ⟨RX11, "again", "()I"⟩
abbrev cX11_account : ByteArray := prog_13_method_69_code
def yX11_account : MethodName := ⟨RX11, "account", "(I)I"⟩
abbrev cX11_back : ByteArray := prog_13_method_70_code
def yX11_back : MethodName := ⟨RX11, "back", "()I"⟩
abbrev cX11_image : ByteArray := prog_13_method_71_code
def yX11_image : MethodName := ⟨RX11, "image", "()I"⟩
abbrev cX11_undo : ByteArray := prog_13_method_72_code
def yX11_undo : MethodName := ⟨RX11, "undo", "()I"⟩
abbrev cX11_count : ByteArray := prog_13_method_73_code
def yX11_count : MethodName := ⟨RX11, "count", "(I)I"⟩
def RJ9 : String := "java/lang/Math"
def TJ9 : u_T := fun k => match k with
  | _ => ("", "", "", false)
def tyJ9 : Nat → FieldType := fun k => match k with
  | _ => .int
abbrev wsJ90 : List Cond := u_ws RJ9 TJ9 0
theorem nmJ9 : ∀ a, a < 0 → ∀ b, b < 0 → a ≠ b → (TJ9 a).2.1 ≠ (TJ9 b).2.1 := by decide +kernel
theorem tyJ9_ok : ∀ k, k < 0 → parseFieldDescriptor (TJ9 k).2.2.1 = some (tyJ9 k) := by decide +kernel
abbrev cJ9_min_7cf53 : ByteArray := prog_14_method_69_code
def yJ9_min_7cf53 : MethodName := ⟨RJ9, "min", "(II)I"⟩
def RJ10 : String := "java/lang/System"
def TJ10 : u_T := fun k => match k with
  | _ => ("", "", "", false)
def tyJ10 : Nat → FieldType := fun k => match k with
  | _ => .int
abbrev wsJ100 : List Cond := u_ws RJ10 TJ10 0
theorem nmJ10 : ∀ a, a < 0 → ∀ b, b < 0 → a ≠ b → (TJ10 a).2.1 ≠ (TJ10 b).2.1 := by decide +kernel
theorem tyJ10_ok : ∀ k, k < 0 → parseFieldDescriptor (TJ10 k).2.2.1 = some (tyJ10 k) := by decide +kernel
def RJ7 : String := "java/util/Arrays"
def TJ7 : u_T := fun k => match k with
  | _ => ("", "", "", false)
def tyJ7 : Nat → FieldType := fun k => match k with
  | _ => .int
abbrev wsJ70 : List Cond := u_ws RJ7 TJ7 0
theorem nmJ7 : ∀ a, a < 0 → ∀ b, b < 0 → a ≠ b → (TJ7 a).2.1 ≠ (TJ7 b).2.1 := by decide +kernel
theorem tyJ7_ok : ∀ k, k < 0 → parseFieldDescriptor (TJ7 k).2.2.1 = some (tyJ7 k) := by decide +kernel
abbrev cJ7_fill_d0a16 : ByteArray := prog_16_method_101_code
def yJ7_fill_d0a16 : MethodName := ⟨RJ7, "fill", "([JJ)V"⟩
abbrev cJ7_fill_53178 : ByteArray := prog_16_method_103_code
def yJ7_fill_53178 : MethodName := ⟨RJ7, "fill", "([II)V"⟩
def RL : String := "SwarmPlannerLaw"
abbrev cL_law : ByteArray := code
def yL_law : MethodName := ⟨RL, "law", "([I)Z"⟩
abbrev vwCl : List vw_C := [(RX0, TX0, 5), (RX1, TX1, 13), (RX2, TX2, 7), (RX3, TX3, 3), (RX4, TX4, 4), (RX5, TX5, 3), (RX6, TX6, 2), (RX7, TX7, 6), (RX8, TX8, 4), (RX9, TX9, 12), (RX10, TX10, 13), (RX11, TX11, 25)]
