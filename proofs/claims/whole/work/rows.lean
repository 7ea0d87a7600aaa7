section
-- ===== PART A: goes FIRST, ahead of the names: the tables' words, and 'selects' of the private methods out of them =====
/-- a private method of a class that the tables say can be made, by its rows of tables_1 -/
def lw_okq (q : MethodName × Nat) : Prop := (q.1.cls ≠ "java/lang/invoke/MethodHandle" ∧ q.1.cls ≠ "java/lang/invoke/VarHandle") ∧ Cond.instantiable q.1.cls q.2 ∈ tables_1 ∧ Cond.privateMethod q.1 ∈ tables_1 ∧ Cond.instanceMethod q.1 ∈ tables_1
theorem lw_p0 : lw_okq (⟨"WalkingBus$Reader", "take", "(I)Z"⟩, 3) := ⟨⟨by decide +kernel, by decide +kernel⟩, List.mem_of_getElem? (i := 26) (by decide +kernel), List.mem_of_getElem? (i := 374) (by decide +kernel), List.mem_of_getElem? (i := 375) (by decide +kernel)⟩
theorem lw_p1 : lw_okq (⟨"WalkingBus$Reader", "isDigit", "(II)Z"⟩, 3) := ⟨⟨by decide +kernel, by decide +kernel⟩, List.mem_of_getElem? (i := 26) (by decide +kernel), List.mem_of_getElem? (i := 378) (by decide +kernel), List.mem_of_getElem? (i := 379) (by decide +kernel)⟩
theorem lw_p2 : lw_okq (⟨"WalkingBus$Reader", "takeDigit", "()I"⟩, 3) := ⟨⟨by decide +kernel, by decide +kernel⟩, List.mem_of_getElem? (i := 26) (by decide +kernel), List.mem_of_getElem? (i := 383) (by decide +kernel), List.mem_of_getElem? (i := 384) (by decide +kernel)⟩
theorem lw_p3 : lw_okq (⟨"WalkingBus$Reader", "readRoads", "(LWalkingBus$Streets;)I"⟩, 3) := ⟨⟨by decide +kernel, by decide +kernel⟩, List.mem_of_getElem? (i := 26) (by decide +kernel), List.mem_of_getElem? (i := 391) (by decide +kernel), List.mem_of_getElem? (i := 392) (by decide +kernel)⟩
theorem lw_p4 : lw_okq (⟨"WalkingBus$Reader", "readSchool", "(LWalkingBus$Streets;)I"⟩, 3) := ⟨⟨by decide +kernel, by decide +kernel⟩, List.mem_of_getElem? (i := 26) (by decide +kernel), List.mem_of_getElem? (i := 395) (by decide +kernel), List.mem_of_getElem? (i := 396) (by decide +kernel)⟩
theorem lw_p5 : lw_okq (⟨"WalkingBus$Reader", "readRoad", "(LWalkingBus$Streets;)I"⟩, 3) := ⟨⟨by decide +kernel, by decide +kernel⟩, List.mem_of_getElem? (i := 26) (by decide +kernel), List.mem_of_getElem? (i := 399) (by decide +kernel), List.mem_of_getElem? (i := 400) (by decide +kernel)⟩
theorem lw_p6 : lw_okq (⟨"WalkingBus$Reader", "takeNumber", "()I"⟩, 3) := ⟨⟨by decide +kernel, by decide +kernel⟩, List.mem_of_getElem? (i := 26) (by decide +kernel), List.mem_of_getElem? (i := 403) (by decide +kernel), List.mem_of_getElem? (i := 404) (by decide +kernel)⟩
theorem lw_p7 : lw_okq (⟨"WalkingBus", "moveToSpareTown", "()V"⟩, 17) := ⟨⟨by decide +kernel, by decide +kernel⟩, List.mem_of_getElem? (i := 16) (by decide +kernel), List.mem_of_getElem? (i := 411) (by decide +kernel), List.mem_of_getElem? (i := 412) (by decide +kernel)⟩
theorem lw_p8 : lw_okq (⟨"WalkingBus$Streets", "setRoadCosts", "()V"⟩, 10) := ⟨⟨by decide +kernel, by decide +kernel⟩, List.mem_of_getElem? (i := 43) (by decide +kernel), List.mem_of_getElem? (i := 419) (by decide +kernel), List.mem_of_getElem? (i := 420) (by decide +kernel)⟩
theorem lw_p9 : lw_okq (⟨"WalkingBus$Streets", "roadCost", "(I)I"⟩, 10) := ⟨⟨by decide +kernel, by decide +kernel⟩, List.mem_of_getElem? (i := 43) (by decide +kernel), List.mem_of_getElem? (i := 424) (by decide +kernel), List.mem_of_getElem? (i := 425) (by decide +kernel)⟩
theorem lw_p10 : lw_okq (⟨"WalkingBus$Streets", "firstRoadOfWay", "(II)I"⟩, 10) := ⟨⟨by decide +kernel, by decide +kernel⟩, List.mem_of_getElem? (i := 43) (by decide +kernel), List.mem_of_getElem? (i := 433) (by decide +kernel), List.mem_of_getElem? (i := 434) (by decide +kernel)⟩
theorem lw_p11 : lw_okq (⟨"WalkingBus", "isCorner", "(I)Z"⟩, 17) := ⟨⟨by decide +kernel, by decide +kernel⟩, List.mem_of_getElem? (i := 16) (by decide +kernel), List.mem_of_getElem? (i := 453) (by decide +kernel), List.mem_of_getElem? (i := 454) (by decide +kernel)⟩
theorem lw_p12 : lw_okq (⟨"WalkingBus", "isChild", "(I)Z"⟩, 17) := ⟨⟨by decide +kernel, by decide +kernel⟩, List.mem_of_getElem? (i := 16) (by decide +kernel), List.mem_of_getElem? (i := 496) (by decide +kernel), List.mem_of_getElem? (i := 497) (by decide +kernel)⟩
theorem lw_p13 : lw_okq (⟨"WalkingBus", "isSet", "(I)Z"⟩, 17) := ⟨⟨by decide +kernel, by decide +kernel⟩, List.mem_of_getElem? (i := 16) (by decide +kernel), List.mem_of_getElem? (i := 529) (by decide +kernel), List.mem_of_getElem? (i := 530) (by decide +kernel)⟩
theorem lw_p14 : lw_okq (⟨"WalkingBus", "hasWalked", "(IIILWalkingBus$Sheet;II)Z"⟩, 17) := ⟨⟨by decide +kernel, by decide +kernel⟩, List.mem_of_getElem? (i := 16) (by decide +kernel), List.mem_of_getElem? (i := 536) (by decide +kernel), List.mem_of_getElem? (i := 537) (by decide +kernel)⟩
theorem lw_p15 : lw_okq (⟨"WalkingBus$Gates", "isGate", "(I)Z"⟩, 4) := ⟨⟨by decide +kernel, by decide +kernel⟩, List.mem_of_getElem? (i := 104) (by decide +kernel), List.mem_of_getElem? (i := 552) (by decide +kernel), List.mem_of_getElem? (i := 553) (by decide +kernel)⟩
def lw_privs_1 : List (MethodName × Nat) := [(⟨"WalkingBus$Reader", "take", "(I)Z"⟩, 3), (⟨"WalkingBus$Reader", "isDigit", "(II)Z"⟩, 3), (⟨"WalkingBus$Reader", "takeDigit", "()I"⟩, 3), (⟨"WalkingBus$Reader", "readRoads", "(LWalkingBus$Streets;)I"⟩, 3), (⟨"WalkingBus$Reader", "readSchool", "(LWalkingBus$Streets;)I"⟩, 3), (⟨"WalkingBus$Reader", "readRoad", "(LWalkingBus$Streets;)I"⟩, 3), (⟨"WalkingBus$Reader", "takeNumber", "()I"⟩, 3), (⟨"WalkingBus", "moveToSpareTown", "()V"⟩, 17), (⟨"WalkingBus$Streets", "setRoadCosts", "()V"⟩, 10), (⟨"WalkingBus$Streets", "roadCost", "(I)I"⟩, 10), (⟨"WalkingBus$Streets", "firstRoadOfWay", "(II)I"⟩, 10), (⟨"WalkingBus", "isCorner", "(I)Z"⟩, 17), (⟨"WalkingBus", "isChild", "(I)Z"⟩, 17), (⟨"WalkingBus", "isSet", "(I)Z"⟩, 17), (⟨"WalkingBus", "hasWalked", "(IIILWalkingBus$Sheet;II)Z"⟩, 17), (⟨"WalkingBus$Gates", "isGate", "(I)Z"⟩, 4)]
theorem lw_r1 : ∀ q ∈ lw_privs_1, lw_okq q := List.forall_mem_cons.mpr ⟨lw_p0, List.forall_mem_cons.mpr ⟨lw_p1, List.forall_mem_cons.mpr ⟨lw_p2, List.forall_mem_cons.mpr ⟨lw_p3, List.forall_mem_cons.mpr ⟨lw_p4, List.forall_mem_cons.mpr ⟨lw_p5, List.forall_mem_cons.mpr ⟨lw_p6, List.forall_mem_cons.mpr ⟨lw_p7, List.forall_mem_cons.mpr ⟨lw_p8, List.forall_mem_cons.mpr ⟨lw_p9, List.forall_mem_cons.mpr ⟨lw_p10, List.forall_mem_cons.mpr ⟨lw_p11, List.forall_mem_cons.mpr ⟨lw_p12, List.forall_mem_cons.mpr ⟨lw_p13, List.forall_mem_cons.mpr ⟨lw_p14, List.forall_mem_cons.mpr ⟨lw_p15, fun _ h => absurd h List.not_mem_nil⟩⟩⟩⟩⟩⟩⟩⟩⟩⟩⟩⟩⟩⟩⟩⟩
theorem lw_p16 : lw_okq (⟨"WalkingBus$Line", "stop", "(LWalkingBus$Streets;I)I"⟩, 3) := ⟨⟨by decide +kernel, by decide +kernel⟩, List.mem_of_getElem? (i := 98) (by decide +kernel), List.mem_of_getElem? (i := 565) (by decide +kernel), List.mem_of_getElem? (i := 566) (by decide +kernel)⟩
theorem lw_p17 : lw_okq (⟨"WalkingBus$Line", "walkWay", "(LWalkingBus$Streets;III)V"⟩, 3) := ⟨⟨by decide +kernel, by decide +kernel⟩, List.mem_of_getElem? (i := 98) (by decide +kernel), List.mem_of_getElem? (i := 579) (by decide +kernel), List.mem_of_getElem? (i := 580) (by decide +kernel)⟩
theorem lw_p18 : lw_okq (⟨"WalkingBus", "startRefusal", "(IIII)I"⟩, 17) := ⟨⟨by decide +kernel, by decide +kernel⟩, List.mem_of_getElem? (i := 16) (by decide +kernel), List.mem_of_getElem? (i := 622) (by decide +kernel), List.mem_of_getElem? (i := 623) (by decide +kernel)⟩
theorem lw_p19 : lw_okq (⟨"WalkingBus$Gates", "swap", "(II)V"⟩, 4) := ⟨⟨by decide +kernel, by decide +kernel⟩, List.mem_of_getElem? (i := 104) (by decide +kernel), List.mem_of_getElem? (i := 636) (by decide +kernel), List.mem_of_getElem? (i := 637) (by decide +kernel)⟩
theorem lw_p20 : lw_okq (⟨"WalkingBus$Line", "latestStart", "(LWalkingBus$Streets;IIII)I"⟩, 3) := ⟨⟨by decide +kernel, by decide +kernel⟩, List.mem_of_getElem? (i := 98) (by decide +kernel), List.mem_of_getElem? (i := 645) (by decide +kernel), List.mem_of_getElem? (i := 646) (by decide +kernel)⟩
theorem lw_p21 : lw_okq (⟨"WalkingBus$Line", "keepOrder", "()V"⟩, 3) := ⟨⟨by decide +kernel, by decide +kernel⟩, List.mem_of_getElem? (i := 98) (by decide +kernel), List.mem_of_getElem? (i := 652) (by decide +kernel), List.mem_of_getElem? (i := 653) (by decide +kernel)⟩
theorem lw_p22 : lw_okq (⟨"WalkingBus", "grownFor", "(I)I"⟩, 17) := ⟨⟨by decide +kernel, by decide +kernel⟩, List.mem_of_getElem? (i := 16) (by decide +kernel), List.mem_of_getElem? (i := 668) (by decide +kernel), List.mem_of_getElem? (i := 669) (by decide +kernel)⟩
theorem lw_p23 : lw_okq (⟨"WalkingBus", "findSplit", "(IIII)Z"⟩, 17) := ⟨⟨by decide +kernel, by decide +kernel⟩, List.mem_of_getElem? (i := 16) (by decide +kernel), List.mem_of_getElem? (i := 682) (by decide +kernel), List.mem_of_getElem? (i := 683) (by decide +kernel)⟩
theorem lw_p24 : lw_okq (⟨"WalkingBus", "isRopeFor", "(II)Z"⟩, 17) := ⟨⟨by decide +kernel, by decide +kernel⟩, List.mem_of_getElem? (i := 16) (by decide +kernel), List.mem_of_getElem? (i := 690) (by decide +kernel), List.mem_of_getElem? (i := 691) (by decide +kernel)⟩
theorem lw_p25 : lw_okq (⟨"WalkingBus$Rope", "take", "(I)V"⟩, 11) := ⟨⟨by decide +kernel, by decide +kernel⟩, List.mem_of_getElem? (i := 163) (by decide +kernel), List.mem_of_getElem? (i := 703) (by decide +kernel), List.mem_of_getElem? (i := 704) (by decide +kernel)⟩
theorem lw_p26 : lw_okq (⟨"WalkingBus$Rope", "hope", "(II)I"⟩, 11) := ⟨⟨by decide +kernel, by decide +kernel⟩, List.mem_of_getElem? (i := 163) (by decide +kernel), List.mem_of_getElem? (i := 707) (by decide +kernel), List.mem_of_getElem? (i := 708) (by decide +kernel)⟩
theorem lw_p27 : lw_okq (⟨"WalkingBus$Rope", "bitAt", "(I)I"⟩, 11) := ⟨⟨by decide +kernel, by decide +kernel⟩, List.mem_of_getElem? (i := 163) (by decide +kernel), List.mem_of_getElem? (i := 714) (by decide +kernel), List.mem_of_getElem? (i := 715) (by decide +kernel)⟩
theorem lw_p28 : lw_okq (⟨"WalkingBus$Rope", "maySit", "(II)Z"⟩, 11) := ⟨⟨by decide +kernel, by decide +kernel⟩, List.mem_of_getElem? (i := 163) (by decide +kernel), List.mem_of_getElem? (i := 718) (by decide +kernel), List.mem_of_getElem? (i := 719) (by decide +kernel)⟩
theorem lw_p29 : lw_okq (⟨"WalkingBus$Week", "isEnough", "([II)Z"⟩, 6) := ⟨⟨by decide +kernel, by decide +kernel⟩, List.mem_of_getElem? (i := 207) (by decide +kernel), List.mem_of_getElem? (i := 760) (by decide +kernel), List.mem_of_getElem? (i := 761) (by decide +kernel)⟩
theorem lw_p30 : lw_okq (⟨"WalkingBus$Week", "mayHelp", "(II)Z"⟩, 6) := ⟨⟨by decide +kernel, by decide +kernel⟩, List.mem_of_getElem? (i := 207) (by decide +kernel), List.mem_of_getElem? (i := 768) (by decide +kernel), List.mem_of_getElem? (i := 769) (by decide +kernel)⟩
theorem lw_p31 : lw_okq (⟨"WalkingBus$Week", "addDays", "(II)V"⟩, 6) := ⟨⟨by decide +kernel, by decide +kernel⟩, List.mem_of_getElem? (i := 207) (by decide +kernel), List.mem_of_getElem? (i := 772) (by decide +kernel), List.mem_of_getElem? (i := 773) (by decide +kernel)⟩
def lw_privs_2 : List (MethodName × Nat) := [(⟨"WalkingBus$Line", "stop", "(LWalkingBus$Streets;I)I"⟩, 3), (⟨"WalkingBus$Line", "walkWay", "(LWalkingBus$Streets;III)V"⟩, 3), (⟨"WalkingBus", "startRefusal", "(IIII)I"⟩, 17), (⟨"WalkingBus$Gates", "swap", "(II)V"⟩, 4), (⟨"WalkingBus$Line", "latestStart", "(LWalkingBus$Streets;IIII)I"⟩, 3), (⟨"WalkingBus$Line", "keepOrder", "()V"⟩, 3), (⟨"WalkingBus", "grownFor", "(I)I"⟩, 17), (⟨"WalkingBus", "findSplit", "(IIII)Z"⟩, 17), (⟨"WalkingBus", "isRopeFor", "(II)Z"⟩, 17), (⟨"WalkingBus$Rope", "take", "(I)V"⟩, 11), (⟨"WalkingBus$Rope", "hope", "(II)I"⟩, 11), (⟨"WalkingBus$Rope", "bitAt", "(I)I"⟩, 11), (⟨"WalkingBus$Rope", "maySit", "(II)Z"⟩, 11), (⟨"WalkingBus$Week", "isEnough", "([II)Z"⟩, 6), (⟨"WalkingBus$Week", "mayHelp", "(II)Z"⟩, 6), (⟨"WalkingBus$Week", "addDays", "(II)V"⟩, 6)]
theorem lw_r2 : ∀ q ∈ lw_privs_2, lw_okq q := List.forall_mem_cons.mpr ⟨lw_p16, List.forall_mem_cons.mpr ⟨lw_p17, List.forall_mem_cons.mpr ⟨lw_p18, List.forall_mem_cons.mpr ⟨lw_p19, List.forall_mem_cons.mpr ⟨lw_p20, List.forall_mem_cons.mpr ⟨lw_p21, List.forall_mem_cons.mpr ⟨lw_p22, List.forall_mem_cons.mpr ⟨lw_p23, List.forall_mem_cons.mpr ⟨lw_p24, List.forall_mem_cons.mpr ⟨lw_p25, List.forall_mem_cons.mpr ⟨lw_p26, List.forall_mem_cons.mpr ⟨lw_p27, List.forall_mem_cons.mpr ⟨lw_p28, List.forall_mem_cons.mpr ⟨lw_p29, List.forall_mem_cons.mpr ⟨lw_p30, List.forall_mem_cons.mpr ⟨lw_p31, fun _ h => absurd h List.not_mem_nil⟩⟩⟩⟩⟩⟩⟩⟩⟩⟩⟩⟩⟩⟩⟩⟩
theorem lw_p32 : lw_okq (⟨"WalkingBus", "fail", "(I)I"⟩, 17) := ⟨⟨by decide +kernel, by decide +kernel⟩, List.mem_of_getElem? (i := 16) (by decide +kernel), List.mem_of_getElem? (i := 780) (by decide +kernel), List.mem_of_getElem? (i := 781) (by decide +kernel)⟩
theorem lw_p33 : lw_okq (⟨"WalkingBus", "tellHeld", "(LWalkingBus$Child;)I"⟩, 17) := ⟨⟨by decide +kernel, by decide +kernel⟩, List.mem_of_getElem? (i := 16) (by decide +kernel), List.mem_of_getElem? (i := 819) (by decide +kernel), List.mem_of_getElem? (i := 820) (by decide +kernel)⟩
theorem lw_p34 : lw_okq (⟨"WalkingBus", "leaveTrace", "(I)V"⟩, 17) := ⟨⟨by decide +kernel, by decide +kernel⟩, List.mem_of_getElem? (i := 16) (by decide +kernel), List.mem_of_getElem? (i := 823) (by decide +kernel), List.mem_of_getElem? (i := 824) (by decide +kernel)⟩
theorem lw_p35 : lw_okq (⟨"WalkingBus", "tellSlow", "(LWalkingBus$Child;)I"⟩, 17) := ⟨⟨by decide +kernel, by decide +kernel⟩, List.mem_of_getElem? (i := 16) (by decide +kernel), List.mem_of_getElem? (i := 827) (by decide +kernel), List.mem_of_getElem? (i := 828) (by decide +kernel)⟩
theorem lw_p36 : lw_okq (⟨"WalkingBus", "tellChild", "(LWalkingBus$Child;)I"⟩, 17) := ⟨⟨by decide +kernel, by decide +kernel⟩, List.mem_of_getElem? (i := 16) (by decide +kernel), List.mem_of_getElem? (i := 831) (by decide +kernel), List.mem_of_getElem? (i := 832) (by decide +kernel)⟩
theorem lw_p37 : lw_okq (⟨"WalkingBus", "pairs", "(I)I"⟩, 17) := ⟨⟨by decide +kernel, by decide +kernel⟩, List.mem_of_getElem? (i := 16) (by decide +kernel), List.mem_of_getElem? (i := 859) (by decide +kernel), List.mem_of_getElem? (i := 860) (by decide +kernel)⟩
theorem lw_p38 : lw_okq (⟨"WalkingBusModel", "against", "(IIII)I"⟩, 42) := ⟨⟨by decide +kernel, by decide +kernel⟩, List.mem_of_getElem? (i := 863) (by decide +kernel), List.mem_of_getElem? (i := 1009) (by decide +kernel), List.mem_of_getElem? (i := 1010) (by decide +kernel)⟩
theorem lw_p39 : lw_okq (⟨"WalkingBusModel", "fails", "(I)I"⟩, 42) := ⟨⟨by decide +kernel, by decide +kernel⟩, List.mem_of_getElem? (i := 863) (by decide +kernel), List.mem_of_getElem? (i := 1013) (by decide +kernel), List.mem_of_getElem? (i := 1014) (by decide +kernel)⟩
theorem lw_p40 : lw_okq (⟨"WalkingBusModel", "readStreets", "(II)I"⟩, 42) := ⟨⟨by decide +kernel, by decide +kernel⟩, List.mem_of_getElem? (i := 863) (by decide +kernel), List.mem_of_getElem? (i := 1017) (by decide +kernel), List.mem_of_getElem? (i := 1018) (by decide +kernel)⟩
theorem lw_p41 : lw_okq (⟨"WalkingBusModel", "digitAt", "(II)I"⟩, 42) := ⟨⟨by decide +kernel, by decide +kernel⟩, List.mem_of_getElem? (i := 863) (by decide +kernel), List.mem_of_getElem? (i := 1021) (by decide +kernel), List.mem_of_getElem? (i := 1022) (by decide +kernel)⟩
theorem lw_p42 : lw_okq (⟨"WalkingBusModel", "readRoad", "(I)Z"⟩, 42) := ⟨⟨by decide +kernel, by decide +kernel⟩, List.mem_of_getElem? (i := 863) (by decide +kernel), List.mem_of_getElem? (i := 1025) (by decide +kernel), List.mem_of_getElem? (i := 1026) (by decide +kernel)⟩
theorem lw_p43 : lw_okq (⟨"WalkingBusModel", "takes", "(IIII)Z"⟩, 42) := ⟨⟨by decide +kernel, by decide +kernel⟩, List.mem_of_getElem? (i := 863) (by decide +kernel), List.mem_of_getElem? (i := 1029) (by decide +kernel), List.mem_of_getElem? (i := 1030) (by decide +kernel)⟩
theorem lw_p44 : lw_okq (⟨"WalkingBusModel", "layFar", "()V"⟩, 42) := ⟨⟨by decide +kernel, by decide +kernel⟩, List.mem_of_getElem? (i := 863) (by decide +kernel), List.mem_of_getElem? (i := 1033) (by decide +kernel), List.mem_of_getElem? (i := 1034) (by decide +kernel)⟩
theorem lw_p45 : lw_okq (⟨"WalkingBusModel", "costOf", "(I)I"⟩, 42) := ⟨⟨by decide +kernel, by decide +kernel⟩, List.mem_of_getElem? (i := 863) (by decide +kernel), List.mem_of_getElem? (i := 1038) (by decide +kernel), List.mem_of_getElem? (i := 1039) (by decide +kernel)⟩
theorem lw_p46 : lw_okq (⟨"WalkingBusModel", "isCorner", "(I)Z"⟩, 42) := ⟨⟨by decide +kernel, by decide +kernel⟩, List.mem_of_getElem? (i := 863) (by decide +kernel), List.mem_of_getElem? (i := 1050) (by decide +kernel), List.mem_of_getElem? (i := 1051) (by decide +kernel)⟩
theorem lw_p47 : lw_okq (⟨"WalkingBusModel", "isWay", "(II)Z"⟩, 42) := ⟨⟨by decide +kernel, by decide +kernel⟩, List.mem_of_getElem? (i := 863) (by decide +kernel), List.mem_of_getElem? (i := 1054) (by decide +kernel), List.mem_of_getElem? (i := 1055) (by decide +kernel)⟩
def lw_privs_3 : List (MethodName × Nat) := [(⟨"WalkingBus", "fail", "(I)I"⟩, 17), (⟨"WalkingBus", "tellHeld", "(LWalkingBus$Child;)I"⟩, 17), (⟨"WalkingBus", "leaveTrace", "(I)V"⟩, 17), (⟨"WalkingBus", "tellSlow", "(LWalkingBus$Child;)I"⟩, 17), (⟨"WalkingBus", "tellChild", "(LWalkingBus$Child;)I"⟩, 17), (⟨"WalkingBus", "pairs", "(I)I"⟩, 17), (⟨"WalkingBusModel", "against", "(IIII)I"⟩, 42), (⟨"WalkingBusModel", "fails", "(I)I"⟩, 42), (⟨"WalkingBusModel", "readStreets", "(II)I"⟩, 42), (⟨"WalkingBusModel", "digitAt", "(II)I"⟩, 42), (⟨"WalkingBusModel", "readRoad", "(I)Z"⟩, 42), (⟨"WalkingBusModel", "takes", "(IIII)Z"⟩, 42), (⟨"WalkingBusModel", "layFar", "()V"⟩, 42), (⟨"WalkingBusModel", "costOf", "(I)I"⟩, 42), (⟨"WalkingBusModel", "isCorner", "(I)Z"⟩, 42), (⟨"WalkingBusModel", "isWay", "(II)Z"⟩, 42)]
theorem lw_r3 : ∀ q ∈ lw_privs_3, lw_okq q := List.forall_mem_cons.mpr ⟨lw_p32, List.forall_mem_cons.mpr ⟨lw_p33, List.forall_mem_cons.mpr ⟨lw_p34, List.forall_mem_cons.mpr ⟨lw_p35, List.forall_mem_cons.mpr ⟨lw_p36, List.forall_mem_cons.mpr ⟨lw_p37, List.forall_mem_cons.mpr ⟨lw_p38, List.forall_mem_cons.mpr ⟨lw_p39, List.forall_mem_cons.mpr ⟨lw_p40, List.forall_mem_cons.mpr ⟨lw_p41, List.forall_mem_cons.mpr ⟨lw_p42, List.forall_mem_cons.mpr ⟨lw_p43, List.forall_mem_cons.mpr ⟨lw_p44, List.forall_mem_cons.mpr ⟨lw_p45, List.forall_mem_cons.mpr ⟨lw_p46, List.forall_mem_cons.mpr ⟨lw_p47, fun _ h => absurd h List.not_mem_nil⟩⟩⟩⟩⟩⟩⟩⟩⟩⟩⟩⟩⟩⟩⟩⟩
theorem lw_p48 : lw_okq (⟨"WalkingBusModel", "roadsOf", "(II)I"⟩, 42) := ⟨⟨by decide +kernel, by decide +kernel⟩, List.mem_of_getElem? (i := 863) (by decide +kernel), List.mem_of_getElem? (i := 1058) (by decide +kernel), List.mem_of_getElem? (i := 1059) (by decide +kernel)⟩
theorem lw_p49 : lw_okq (⟨"WalkingBusModel", "nextRoad", "(II)I"⟩, 42) := ⟨⟨by decide +kernel, by decide +kernel⟩, List.mem_of_getElem? (i := 863) (by decide +kernel), List.mem_of_getElem? (i := 1062) (by decide +kernel), List.mem_of_getElem? (i := 1063) (by decide +kernel)⟩
theorem lw_p50 : lw_okq (⟨"WalkingBusModel", "isChild", "(I)Z"⟩, 42) := ⟨⟨by decide +kernel, by decide +kernel⟩, List.mem_of_getElem? (i := 863) (by decide +kernel), List.mem_of_getElem? (i := 1078) (by decide +kernel), List.mem_of_getElem? (i := 1079) (by decide +kernel)⟩
theorem lw_p51 : lw_okq (⟨"WalkingBusModel", "paceOf", "(I)I"⟩, 42) := ⟨⟨by decide +kernel, by decide +kernel⟩, List.mem_of_getElem? (i := 863) (by decide +kernel), List.mem_of_getElem? (i := 1082) (by decide +kernel), List.mem_of_getElem? (i := 1083) (by decide +kernel)⟩
theorem lw_p52 : lw_okq (⟨"WalkingBusModel", "tiedTo", "(II)I"⟩, 42) := ⟨⟨by decide +kernel, by decide +kernel⟩, List.mem_of_getElem? (i := 863) (by decide +kernel), List.mem_of_getElem? (i := 1086) (by decide +kernel), List.mem_of_getElem? (i := 1087) (by decide +kernel)⟩
theorem lw_p53 : lw_okq (⟨"WalkingBusModel", "isSet", "(I)Z"⟩, 42) := ⟨⟨by decide +kernel, by decide +kernel⟩, List.mem_of_getElem? (i := 863) (by decide +kernel), List.mem_of_getElem? (i := 1103) (by decide +kernel), List.mem_of_getElem? (i := 1104) (by decide +kernel)⟩
theorem lw_p54 : lw_okq (⟨"WalkingBusModel", "whyNotLine", "(IIIIII)I"⟩, 42) := ⟨⟨by decide +kernel, by decide +kernel⟩, List.mem_of_getElem? (i := 863) (by decide +kernel), List.mem_of_getElem? (i := 1107) (by decide +kernel), List.mem_of_getElem? (i := 1108) (by decide +kernel)⟩
theorem lw_p55 : lw_okq (⟨"WalkingBusModel", "cornersOf", "(I)I"⟩, 42) := ⟨⟨by decide +kernel, by decide +kernel⟩, List.mem_of_getElem? (i := 863) (by decide +kernel), List.mem_of_getElem? (i := 1111) (by decide +kernel), List.mem_of_getElem? (i := 1112) (by decide +kernel)⟩
theorem lw_p56 : lw_okq (⟨"WalkingBusModel", "crossingsOf", "(I)I"⟩, 42) := ⟨⟨by decide +kernel, by decide +kernel⟩, List.mem_of_getElem? (i := 863) (by decide +kernel), List.mem_of_getElem? (i := 1121) (by decide +kernel), List.mem_of_getElem? (i := 1122) (by decide +kernel)⟩
theorem lw_p57 : lw_okq (⟨"WalkingBusModel", "lost", "(I)J"⟩, 42) := ⟨⟨by decide +kernel, by decide +kernel⟩, List.mem_of_getElem? (i := 863) (by decide +kernel), List.mem_of_getElem? (i := 1125) (by decide +kernel), List.mem_of_getElem? (i := 1126) (by decide +kernel)⟩
theorem lw_p58 : lw_okq (⟨"WalkingBusModel", "goLine", "(IIII)V"⟩, 42) := ⟨⟨by decide +kernel, by decide +kernel⟩, List.mem_of_getElem? (i := 863) (by decide +kernel), List.mem_of_getElem? (i := 1129) (by decide +kernel), List.mem_of_getElem? (i := 1130) (by decide +kernel)⟩
theorem lw_p59 : lw_okq (⟨"WalkingBusModel", "goWay", "(III)V"⟩, 42) := ⟨⟨by decide +kernel, by decide +kernel⟩, List.mem_of_getElem? (i := 863) (by decide +kernel), List.mem_of_getElem? (i := 1133) (by decide +kernel), List.mem_of_getElem? (i := 1134) (by decide +kernel)⟩
theorem lw_p60 : lw_okq (⟨"WalkingBusModel", "moveOn", "(I)V"⟩, 42) := ⟨⟨by decide +kernel, by decide +kernel⟩, List.mem_of_getElem? (i := 863) (by decide +kernel), List.mem_of_getElem? (i := 1137) (by decide +kernel), List.mem_of_getElem? (i := 1138) (by decide +kernel)⟩
theorem lw_p61 : lw_okq (⟨"WalkingBusModel", "cross", "(II)V"⟩, 42) := ⟨⟨by decide +kernel, by decide +kernel⟩, List.mem_of_getElem? (i := 863) (by decide +kernel), List.mem_of_getElem? (i := 1141) (by decide +kernel), List.mem_of_getElem? (i := 1142) (by decide +kernel)⟩
theorem lw_p62 : lw_okq (⟨"WalkingBusModel", "waitTill", "(I)V"⟩, 42) := ⟨⟨by decide +kernel, by decide +kernel⟩, List.mem_of_getElem? (i := 863) (by decide +kernel), List.mem_of_getElem? (i := 1146) (by decide +kernel), List.mem_of_getElem? (i := 1147) (by decide +kernel)⟩
theorem lw_p63 : lw_okq (⟨"WalkingBusModel", "isAsked", "(III)Z"⟩, 42) := ⟨⟨by decide +kernel, by decide +kernel⟩, List.mem_of_getElem? (i := 863) (by decide +kernel), List.mem_of_getElem? (i := 1167) (by decide +kernel), List.mem_of_getElem? (i := 1168) (by decide +kernel)⟩
def lw_privs_4 : List (MethodName × Nat) := [(⟨"WalkingBusModel", "roadsOf", "(II)I"⟩, 42), (⟨"WalkingBusModel", "nextRoad", "(II)I"⟩, 42), (⟨"WalkingBusModel", "isChild", "(I)Z"⟩, 42), (⟨"WalkingBusModel", "paceOf", "(I)I"⟩, 42), (⟨"WalkingBusModel", "tiedTo", "(II)I"⟩, 42), (⟨"WalkingBusModel", "isSet", "(I)Z"⟩, 42), (⟨"WalkingBusModel", "whyNotLine", "(IIIIII)I"⟩, 42), (⟨"WalkingBusModel", "cornersOf", "(I)I"⟩, 42), (⟨"WalkingBusModel", "crossingsOf", "(I)I"⟩, 42), (⟨"WalkingBusModel", "lost", "(I)J"⟩, 42), (⟨"WalkingBusModel", "goLine", "(IIII)V"⟩, 42), (⟨"WalkingBusModel", "goWay", "(III)V"⟩, 42), (⟨"WalkingBusModel", "moveOn", "(I)V"⟩, 42), (⟨"WalkingBusModel", "cross", "(II)V"⟩, 42), (⟨"WalkingBusModel", "waitTill", "(I)V"⟩, 42), (⟨"WalkingBusModel", "isAsked", "(III)Z"⟩, 42)]
theorem lw_r4 : ∀ q ∈ lw_privs_4, lw_okq q := List.forall_mem_cons.mpr ⟨lw_p48, List.forall_mem_cons.mpr ⟨lw_p49, List.forall_mem_cons.mpr ⟨lw_p50, List.forall_mem_cons.mpr ⟨lw_p51, List.forall_mem_cons.mpr ⟨lw_p52, List.forall_mem_cons.mpr ⟨lw_p53, List.forall_mem_cons.mpr ⟨lw_p54, List.forall_mem_cons.mpr ⟨lw_p55, List.forall_mem_cons.mpr ⟨lw_p56, List.forall_mem_cons.mpr ⟨lw_p57, List.forall_mem_cons.mpr ⟨lw_p58, List.forall_mem_cons.mpr ⟨lw_p59, List.forall_mem_cons.mpr ⟨lw_p60, List.forall_mem_cons.mpr ⟨lw_p61, List.forall_mem_cons.mpr ⟨lw_p62, List.forall_mem_cons.mpr ⟨lw_p63, fun _ h => absurd h List.not_mem_nil⟩⟩⟩⟩⟩⟩⟩⟩⟩⟩⟩⟩⟩⟩⟩⟩
theorem lw_p64 : lw_okq (⟨"WalkingBusModel", "mayStart", "(II)Z"⟩, 42) := ⟨⟨by decide +kernel, by decide +kernel⟩, List.mem_of_getElem? (i := 863) (by decide +kernel), List.mem_of_getElem? (i := 1171) (by decide +kernel), List.mem_of_getElem? (i := 1172) (by decide +kernel)⟩
theorem lw_p65 : lw_okq (⟨"WalkingBusModel", "laySetGates", "(I)I"⟩, 42) := ⟨⟨by decide +kernel, by decide +kernel⟩, List.mem_of_getElem? (i := 863) (by decide +kernel), List.mem_of_getElem? (i := 1175) (by decide +kernel), List.mem_of_getElem? (i := 1176) (by decide +kernel)⟩
theorem lw_p66 : lw_okq (⟨"WalkingBusModel", "layOrder", "(I)Z"⟩, 42) := ⟨⟨by decide +kernel, by decide +kernel⟩, List.mem_of_getElem? (i := 863) (by decide +kernel), List.mem_of_getElem? (i := 1179) (by decide +kernel), List.mem_of_getElem? (i := 1180) (by decide +kernel)⟩
theorem lw_p67 : lw_okq (⟨"WalkingBusModel", "findStart", "(IIII)V"⟩, 42) := ⟨⟨by decide +kernel, by decide +kernel⟩, List.mem_of_getElem? (i := 863) (by decide +kernel), List.mem_of_getElem? (i := 1183) (by decide +kernel), List.mem_of_getElem? (i := 1184) (by decide +kernel)⟩
theorem lw_p68 : lw_okq (⟨"WalkingBusModel", "startBy", "(IIII)I"⟩, 42) := ⟨⟨by decide +kernel, by decide +kernel⟩, List.mem_of_getElem? (i := 863) (by decide +kernel), List.mem_of_getElem? (i := 1187) (by decide +kernel), List.mem_of_getElem? (i := 1188) (by decide +kernel)⟩
theorem lw_p69 : lw_okq (⟨"WalkingBusModel", "grownOf", "(I)I"⟩, 42) := ⟨⟨by decide +kernel, by decide +kernel⟩, List.mem_of_getElem? (i := 863) (by decide +kernel), List.mem_of_getElem? (i := 1204) (by decide +kernel), List.mem_of_getElem? (i := 1205) (by decide +kernel)⟩
theorem lw_p70 : lw_okq (⟨"WalkingBusModel", "startOf", "(IIII)I"⟩, 42) := ⟨⟨by decide +kernel, by decide +kernel⟩, List.mem_of_getElem? (i := 863) (by decide +kernel), List.mem_of_getElem? (i := 1212) (by decide +kernel), List.mem_of_getElem? (i := 1213) (by decide +kernel)⟩
theorem lw_p71 : lw_okq (⟨"WalkingBusModel", "isRope", "(II)Z"⟩, 42) := ⟨⟨by decide +kernel, by decide +kernel⟩, List.mem_of_getElem? (i := 863) (by decide +kernel), List.mem_of_getElem? (i := 1220) (by decide +kernel), List.mem_of_getElem? (i := 1221) (by decide +kernel)⟩
theorem lw_p72 : lw_okq (⟨"WalkingBusModel", "layRopes", "(II)V"⟩, 42) := ⟨⟨by decide +kernel, by decide +kernel⟩, List.mem_of_getElem? (i := 863) (by decide +kernel), List.mem_of_getElem? (i := 1224) (by decide +kernel), List.mem_of_getElem? (i := 1225) (by decide +kernel)⟩
theorem lw_p73 : lw_okq (⟨"WalkingBusModel", "mayBe", "(IIIZ)Z"⟩, 42) := ⟨⟨by decide +kernel, by decide +kernel⟩, List.mem_of_getElem? (i := 863) (by decide +kernel), List.mem_of_getElem? (i := 1228) (by decide +kernel), List.mem_of_getElem? (i := 1229) (by decide +kernel)⟩
theorem lw_p74 : lw_okq (⟨"WalkingBusModel", "friendRows", "(I)I"⟩, 42) := ⟨⟨by decide +kernel, by decide +kernel⟩, List.mem_of_getElem? (i := 863) (by decide +kernel), List.mem_of_getElem? (i := 1232) (by decide +kernel), List.mem_of_getElem? (i := 1233) (by decide +kernel)⟩
theorem lw_p75 : lw_okq (⟨"WalkingBusModel", "layWeek", "(I)V"⟩, 42) := ⟨⟨by decide +kernel, by decide +kernel⟩, List.mem_of_getElem? (i := 863) (by decide +kernel), List.mem_of_getElem? (i := 1267) (by decide +kernel), List.mem_of_getElem? (i := 1268) (by decide +kernel)⟩
theorem lw_p76 : lw_okq (⟨"WalkingBusModel", "mayHelp", "(III)Z"⟩, 42) := ⟨⟨by decide +kernel, by decide +kernel⟩, List.mem_of_getElem? (i := 863) (by decide +kernel), List.mem_of_getElem? (i := 1271) (by decide +kernel), List.mem_of_getElem? (i := 1272) (by decide +kernel)⟩
theorem lw_p77 : lw_okq (⟨"WalkingBusModel", "mostDays", "(I)I"⟩, 42) := ⟨⟨by decide +kernel, by decide +kernel⟩, List.mem_of_getElem? (i := 863) (by decide +kernel), List.mem_of_getElem? (i := 1275) (by decide +kernel), List.mem_of_getElem? (i := 1276) (by decide +kernel)⟩
theorem lw_p78 : lw_okq (⟨"WalkingBusModel", "begins", "(I)V"⟩, 42) := ⟨⟨by decide +kernel, by decide +kernel⟩, List.mem_of_getElem? (i := 863) (by decide +kernel), List.mem_of_getElem? (i := 1303) (by decide +kernel), List.mem_of_getElem? (i := 1304) (by decide +kernel)⟩
theorem lw_p79 : lw_okq (⟨"WalkingBusModel", "crossingRoads", "()I"⟩, 42) := ⟨⟨by decide +kernel, by decide +kernel⟩, List.mem_of_getElem? (i := 863) (by decide +kernel), List.mem_of_getElem? (i := 1327) (by decide +kernel), List.mem_of_getElem? (i := 1328) (by decide +kernel)⟩
def lw_privs_5 : List (MethodName × Nat) := [(⟨"WalkingBusModel", "mayStart", "(II)Z"⟩, 42), (⟨"WalkingBusModel", "laySetGates", "(I)I"⟩, 42), (⟨"WalkingBusModel", "layOrder", "(I)Z"⟩, 42), (⟨"WalkingBusModel", "findStart", "(IIII)V"⟩, 42), (⟨"WalkingBusModel", "startBy", "(IIII)I"⟩, 42), (⟨"WalkingBusModel", "grownOf", "(I)I"⟩, 42), (⟨"WalkingBusModel", "startOf", "(IIII)I"⟩, 42), (⟨"WalkingBusModel", "isRope", "(II)Z"⟩, 42), (⟨"WalkingBusModel", "layRopes", "(II)V"⟩, 42), (⟨"WalkingBusModel", "mayBe", "(IIIZ)Z"⟩, 42), (⟨"WalkingBusModel", "friendRows", "(I)I"⟩, 42), (⟨"WalkingBusModel", "layWeek", "(I)V"⟩, 42), (⟨"WalkingBusModel", "mayHelp", "(III)Z"⟩, 42), (⟨"WalkingBusModel", "mostDays", "(I)I"⟩, 42), (⟨"WalkingBusModel", "begins", "(I)V"⟩, 42), (⟨"WalkingBusModel", "crossingRoads", "()I"⟩, 42)]
theorem lw_r5 : ∀ q ∈ lw_privs_5, lw_okq q := List.forall_mem_cons.mpr ⟨lw_p64, List.forall_mem_cons.mpr ⟨lw_p65, List.forall_mem_cons.mpr ⟨lw_p66, List.forall_mem_cons.mpr ⟨lw_p67, List.forall_mem_cons.mpr ⟨lw_p68, List.forall_mem_cons.mpr ⟨lw_p69, List.forall_mem_cons.mpr ⟨lw_p70, List.forall_mem_cons.mpr ⟨lw_p71, List.forall_mem_cons.mpr ⟨lw_p72, List.forall_mem_cons.mpr ⟨lw_p73, List.forall_mem_cons.mpr ⟨lw_p74, List.forall_mem_cons.mpr ⟨lw_p75, List.forall_mem_cons.mpr ⟨lw_p76, List.forall_mem_cons.mpr ⟨lw_p77, List.forall_mem_cons.mpr ⟨lw_p78, List.forall_mem_cons.mpr ⟨lw_p79, fun _ h => absurd h List.not_mem_nil⟩⟩⟩⟩⟩⟩⟩⟩⟩⟩⟩⟩⟩⟩⟩⟩
theorem lw_p80 : lw_okq (⟨"WalkingBusModel", "pairsOf", "(I)I"⟩, 42) := ⟨⟨by decide +kernel, by decide +kernel⟩, List.mem_of_getElem? (i := 863) (by decide +kernel), List.mem_of_getElem? (i := 1331) (by decide +kernel), List.mem_of_getElem? (i := 1332) (by decide +kernel)⟩
def lw_privs_6 : List (MethodName × Nat) := [(⟨"WalkingBusModel", "pairsOf", "(I)I"⟩, 42)]
theorem lw_r6 : ∀ q ∈ lw_privs_6, lw_okq q := List.forall_mem_cons.mpr ⟨lw_p80, fun _ h => absurd h List.not_mem_nil⟩
def lw_privs : List (MethodName × Nat) := lw_privs_1 ++ (lw_privs_2 ++ (lw_privs_3 ++ (lw_privs_4 ++ (lw_privs_5 ++ (lw_privs_6)))))
def lw_tbl : List Cond := k2_sels lw_privs ++ tables_1
theorem lw_privs_ok : ∀ q ∈ lw_privs, lw_okq q := by
  show ∀ q ∈ lw_privs_1 ++ (lw_privs_2 ++ (lw_privs_3 ++ (lw_privs_4 ++ (lw_privs_5 ++ (lw_privs_6))))), lw_okq q
  exact List.forall_mem_append.mpr ⟨lw_r1, List.forall_mem_append.mpr ⟨lw_r2, List.forall_mem_append.mpr ⟨lw_r3, List.forall_mem_append.mpr ⟨lw_r4, List.forall_mem_append.mpr ⟨lw_r5, lw_r6⟩⟩⟩⟩⟩
-- ===== end of PART A; then your names; then what follows =====
/-! ===== BEGIN words of one list among another's, by their places ===== -/
theorem goodIn_r {big : List Cond} (ws : List Cond) (ps : List Nat) (hp : ws = ps.filterMap (fun i => big[i]?)) (h : ws.all goodWord = true) : GoodIn big ws := by
  intro w hw
  have h1 := List.all_eq_true.mp h w hw
  rw [hp] at hw
  obtain ⟨i, -, hi⟩ := List.mem_filterMap.mp hw
  have hm : w ∈ big := by first | exact List.mem_of_getElem? hi | exact List.getElem?_mem hi
  exact ⟨hm, good_of_word h1⟩
theorem goodIn_app {big a b : List Cond} (ha : GoodIn big a) (hb : GoodIn big b) : GoodIn big (a ++ b) := fun w h => (List.mem_append.mp h).elim (ha w) (hb w)
theorem goodIn_ca {big a b : List Cond} {c : Cond} (ha : GoodIn big (c :: a)) (hb : GoodIn big b) : GoodIn big (c :: (a ++ b)) := fun w h => (List.mem_cons.mp h).elim (fun e => ha w (List.mem_cons.mpr (Or.inl e))) (fun h => (List.mem_append.mp h).elim (fun h => ha w (List.mem_cons.mpr (Or.inr h))) (hb w))
theorem goodIn_sub {big ws : List Cond} (hm : ∀ w ∈ ws, w ∈ big) (h : ws.all goodWord = true) : GoodIn big ws := fun w hw => ⟨hm w hw, good_of_word (List.all_eq_true.mp h w hw)⟩
/-! ===== END ===== -/

/-! ===== BEGIN new T[n][m]: the outer array a place, the inner ones among the pooled ===== -/
/-- f, but v at every address of l -/
def vr_up {α : Type} (f : Nat → α) (l : List Nat) (v : α) : Nat → α := fun a => if a ∈ l then v else f a
theorem vr_up_in {α : Type} {f : Nat → α} {l : List Nat} {v : α} {a : Nat} (h : a ∈ l) : vr_up f l v a = v := if_pos h
theorem vr_up_ne {α : Type} {f : Nat → α} {l : List Nat} {v : α} {a : Nat} (h : a ∉ l) : vr_up f l v a = f a := if_neg h
theorem vr_rows {L l : List Nat} {f : Nat → va_E} {e : va_E} (h : ∀ a, a ∈ l → a ∉ L) : va_pl L f ++ l.map (fun a => (a, e)) = va_pl (L ++ l) (vr_up f l e) := by
  unfold va_pl
  rw [List.map_append]
  congr 1
  · apply List.map_congr_left
    intro a ha
    rw [vr_up_ne (fun q => h a q ha)]
  · apply List.map_congr_left
    intro a ha
    rw [vr_up_in ha]
theorem vr_lay {X rows : va_W} {x : Nat × va_E} {pl : va_W} {D : va_G} {cl : List vw_C} {H : Heap} (hP : va_P D cl (((X ++ pl) ++ [x]) ++ rows) H) : va_P D cl ((X ++ [x]) ++ (pl ++ rows)) H := by
  rw [List.append_assoc (X ++ pl)] at hP
  have h := va_P.swap hP
  rw [← List.append_assoc X] at h
  have h2 := va_P.swap h
  rw [List.append_assoc (X ++ [x])] at h2
  exact h2
theorem vr_layD {X rows : va_W} {x : Nat × va_E} {pl : va_W} {A : Nat → Prop} (hD : va_D A (((X ++ pl) ++ [x]) ++ rows)) : va_D A ((X ++ [x]) ++ (pl ++ rows)) := by
  rw [List.append_assoc (X ++ pl)] at hD
  have h := va_D.swap hD
  rw [← List.append_assoc X] at h
  have h2 := va_D.swap h
  rw [List.append_assoc (X ++ [x])] at h2
  exact h2
theorem vr_outer (c : ClassId) (N h0 : Nat) : ∀ i : Nat, Jvm.Free.Multi.outerC c N h0 i = arrV c N (fun j => va_rf (if j < i then some (h0 + 1 + j) else none))
  | 0 => by
    show ({ cls := c, slots := Array.replicate N .null, vm := .none } : Cell) = _
    rw [arrV_new]
    refine congrArg (arrV c N) (funext fun j => ?_)
    simp [va_rf]
  | i + 1 => by
    show (Jvm.Free.Multi.outerC c N h0 i).setSlot i (.ref (h0 + 1 + i)) = _
    rw [vr_outer c N h0 i, arrV_store]
    refine congrArg (arrV c N) (funext fun j => ?_)
    by_cases e : j = i
    · subst e
      simp [updV, va_rf]
    · by_cases h : j < i
      · simp [updV, e, h, Nat.lt_succ_of_lt h]
      · simp [updV, e, h, show ¬ j < i + 1 by omega]
def zz_AOA (t : FieldType) (U : State) : Prop := (Cond.arrayOver (.array t)).before #[] U = true
theorem zz_AOA.use {t : FieldType} {A : Array Value} {U : State} (h : zz_AOA t U) : (Cond.arrayOver (.array t)).before A U = true := h
section VGM
variable {p : Program} {l : Launch} {e : Env} {R : Room} {s : State} {m : MethodId} {args : Array Value} {below : List Frame} {meth : Method} {c : Code} {H : Heap} {locs : List Loc} {cells slots : Nat} {Q : State → Prop}
variable {cc : ByteArray} {pc : Nat} {ls : Array Slot} {rest : List Value} {D : va_G} {cl : List vw_C} {A : Nat → Prop} {a : Nat} {tys : List (ClassId × FieldType)} {ws : va_W} {H0 : Heap}
theorem va_mna {X : va_W} {L : List Nat} {f : Nat → va_E} {cc : ByteArray} (hexec : p.tables.exec = Jvm.exec) (hb : c.code = cc) {own : String} {index : Nat} {ty : FieldType} {cy : ClassId} (hown : s.vm.findClass own = some m.cls) (hclink : (Cond.classLink own index ("[" ++ (FieldType.array ty).toString)).before args s = true) (hover : zz_AOA ty s) (harr : (Cond.arrayClass ty).before args s = true) (hcy : s.vm.findClass (FieldType.array ty).toString = some cy)
    (hK : va_K D cl tys s) (hP : va_P D cl (X ++ va_pl L f) H) (hD : va_D A (X ++ va_pl L f)) (hS : va_S A H0 H locs) (hA : ∀ q, H0.size ≤ q → A q) {n k : Int32} {N' K' : Nat} {z : vp_A} (hn : ¬ n < 0) (hk : ¬ k < 0) (hN : n.toNatClampNeg = N') (hM : k.toNatClampNeg = K')
    (hb1 : N' * 4 ≤ 536870912) (hb2 : K' * componentBytes ty ≤ 536870912) (hb3 : K' ≤ 536870912) (hdf : fits ty (defaultValue ty) = true) (hdd : (defaultValue ty).isDefault = true) (hcells : cells + (1 + N') ≤ R.cells) (hslots : slots + (N' + N' * K') ≤ R.slots) (hz : ∀ c : ClassId, Jvm.Free.Multi.innerC c K' (defaultValue ty) = vp_cell c z) (hdg : decode cc pc = .ok (.multianewarray index 2, 4))
    (kk : ∀ (q : Nat) (r : Nat → Nat) (cA : ClassId) (H1 : Heap), (∀ i j : Nat, i < N' → j < N' → r i = r j → i = j) → (∀ i : Nat, i < N' → r i ∉ L) → va_K D cl (tys ++ [(cA, .array ty)]) s →
      va_P D cl ((X ++ [(q, .inl (cA, N', .inr (.inr (.inr (.inr (fun i => if i < N' then some (r i) else none))))))]) ++ va_pl (L ++ (List.range N').map r) (vr_up f ((List.range N').map r) (.inl (cy, z)))) H1 → va_D A ((X ++ [(q, .inl (cA, N', .inr (.inr (.inr (.inr (fun i => if i < N' then some (r i) else none))))))]) ++ va_pl (L ++ (List.range N').map r) (vr_up f ((List.range N').map r) (.inl (cy, z)))) → va_S A H0 H1 locs →
      W p l e R s m args below meth c H1 locs (cells + 1 + N') (slots + N' + N' * K') Q (F0 m (pc + 4) ls (.ref q :: rest))) : W p l e R s m args below meth c H locs cells slots Q (F0 m pc ls (.int k :: .int n :: rest)) := by
  subst hN
  subst hM
  intro T hT Xs
  obtain ⟨vm₁, cA, comp, -, fA, fC, hO, -, X', step⟩ := Xs.multianewarray2F hexec hown hclink (zz_AOA.use hover) harr (g := F0 m pc ls (.int k :: .int n :: rest)) rfl (by rw [hb]; exact hdg) rfl hn hk hb1 hb2 hb3 hdf hdd hcells hslots
  have ec : some cy = some comp := hcy.symm.trans fC
  cases ec
  generalize hF : Jvm.Free.Multi.fill (T.setVm vm₁) cA cy n.toNatClampNeg k.toNatClampNeg (defaultValue ty) n.toNatClampNeg = F at X' step
  have hTh : (T.setVm vm₁).heap = H := hT
  obtain ⟨f1, f2, -, -⟩ := Jvm.Free.Multi.fill_facts (T.setVm vm₁) cA cy n.toNatClampNeg k.toNatClampNeg (defaultValue ty) n.toNatClampNeg
  rw [hF, hTh] at f1 f2
  have hold : ∀ x : Nat, x < H.size → F.heap[x]? = H[x]? := fun x hx => by
    have := Jvm.Free.Multi.fill_old (T.setVm vm₁) cA cy n.toNatClampNeg k.toNatClampNeg (defaultValue ty) (a := x) (by rw [hTh]; exact hx) n.toNatClampNeg
    rw [hF, hTh] at this
    exact this
  have hrow : ∀ j : Nat, j < n.toNatClampNeg → F.heap[H.size + 1 + j]? = some (vp_cell cy z) := fun j hj => by
    have := Jvm.Free.Multi.fill_inner (T.setVm vm₁) cA cy n.toNatClampNeg k.toNatClampNeg (defaultValue ty) n.toNatClampNeg j hj
    rw [hF, hTh, hz] at this
    exact this
  have hout : Jvm.Free.Multi.outerC cA n.toNatClampNeg H.size n.toNatClampNeg = vp_cell cA (n.toNatClampNeg, .inr (.inr (.inr (.inr (fun i => if i < n.toNatClampNeg then some (H.size + 1 + i) else none))))) := by
    rw [vp_cell_q]
    exact vr_outer cA n.toNatClampNeg H.size n.toNatClampNeg
  rw [hout] at f2
  have hlt : ∀ a, a ∈ L → a < H.size := fun a ha => by
    obtain ⟨k9, hk9⟩ := va_pl_get (X := X) (f := f) ha
    exact (hP k9 _ hk9).lt
  have hnl : ∀ i : Nat, i < n.toNatClampNeg → H.size + 1 + i ∉ L := fun i _ h => by
    have := hlt _ h
    omega
  have hnm : ∀ a, a ∈ (List.range n.toNatClampNeg).map (fun i => H.size + 1 + i) → a ∉ L := fun a ha h => by
    obtain ⟨i, -, rfl⟩ := List.mem_map.mp ha
    have := hlt _ h
    omega
  have hP0 : va_P D cl (X ++ va_pl L f) F.heap := hP.kept (fun k9 x hx => hold x.1 ((hP k9 x hx).lt))
  have hP1 : va_P D cl ((X ++ va_pl L f) ++ [(H.size, .inl (cA, n.toNatClampNeg, .inr (.inr (.inr (.inr (fun i => if i < n.toNatClampNeg then some (H.size + 1 + i) else none))))))]) F.heap := hP0.app (fun k9 x hx => by
    have h0 : k9 < 1 := (List.getElem?_eq_some_iff.mp hx).1
    rw [show k9 = 0 by omega] at hx
    cases hx
    exact f2)
  have hP2 : va_P D cl (((X ++ va_pl L f) ++ [(H.size, .inl (cA, n.toNatClampNeg, .inr (.inr (.inr (.inr (fun i => if i < n.toNatClampNeg then some (H.size + 1 + i) else none))))))]) ++ ((List.range n.toNatClampNeg).map (fun i => H.size + 1 + i)).map (fun a => (a, .inl (cy, z)))) F.heap := hP1.app (fun k9 x hx => by
    obtain ⟨a, ha, rfl⟩ := List.mem_map.mp (List.mem_of_getElem? hx)
    obtain ⟨i, hi, rfl⟩ := List.mem_map.mp ha
    exact hrow i (List.mem_range.mp hi))
  have hD2 : va_D A (((X ++ va_pl L f) ++ [(H.size, .inl (cA, n.toNatClampNeg, .inr (.inr (.inr (.inr (fun i => if i < n.toNatClampNeg then some (H.size + 1 + i) else none))))))]) ++ ((List.range n.toNatClampNeg).map (fun i => H.size + 1 + i)).map (fun a => (a, .inl (cy, z)))) := by
    have hD1 := hD.push (e := .inl (cA, n.toNatClampNeg, .inr (.inr (.inr (.inr (fun i => if i < n.toNatClampNeg then some (H.size + 1 + i) else none)))))) hP rfl (hA _ hS.1)
    generalize hW1 : (X ++ va_pl L f) ++ [(H.size, .inl (cA, n.toNatClampNeg, .inr (.inr (.inr (.inr (fun i => if i < n.toNatClampNeg then some (H.size + 1 + i) else none))))))] = W1 at hD1 hP1 ⊢
    have hle : ∀ (k9 : Nat) (x : Nat × va_E), W1[k9]? = some x → x.1 ≤ H.size := fun k9 x hx => by
      rw [← hW1] at hx
      by_cases hl : k9 < (X ++ va_pl L f).length
      · rw [List.getElem?_append_left hl] at hx
        exact Nat.le_of_lt ((hP k9 x hx).lt)
      · rw [List.getElem?_append_right (by omega)] at hx
        have h0 : k9 - (X ++ va_pl L f).length < 1 := (List.getElem?_eq_some_iff.mp hx).1
        rw [show k9 - (X ++ va_pl L f).length = 0 by omega] at hx
        cases hx
        exact Nat.le_refl _
    have hr : ∀ (k9 : Nat) (x : Nat × va_E), (((List.range n.toNatClampNeg).map (fun i => H.size + 1 + i)).map (fun a => ((a, .inl (cy, z)) : Nat × va_E)))[k9]? = some x → x.1 = H.size + 1 + k9 := fun k9 x hx => by
      rw [List.getElem?_map, List.getElem?_map] at hx
      by_cases h9 : k9 < n.toNatClampNeg
      · rw [List.getElem?_range h9] at hx
        cases hx
        rfl
      · have hn0 : (List.range n.toNatClampNeg)[k9]? = none := List.getElem?_eq_none (by rw [List.length_range]; omega)
        rw [hn0] at hx
        cases hx
    refine ⟨fun i j x y hi hj hxy => ?_, fun k9 x hx => ?_⟩
    · by_cases h1 : i < W1.length <;> by_cases h2 : j < W1.length
      · rw [List.getElem?_append_left h1] at hi
        rw [List.getElem?_append_left h2] at hj
        exact hD1.1 i j x y hi hj hxy
      · rw [List.getElem?_append_left h1] at hi
        rw [List.getElem?_append_right (by omega)] at hj
        have := hle _ _ hi
        have := hr _ _ hj
        omega
      · rw [List.getElem?_append_right (by omega)] at hi
        rw [List.getElem?_append_left h2] at hj
        have := hle _ _ hj
        have := hr _ _ hi
        omega
      · rw [List.getElem?_append_right (by omega)] at hi hj
        have := hr _ _ hi
        have := hr _ _ hj
        omega
    · by_cases h1 : k9 < W1.length
      · rw [List.getElem?_append_left h1] at hx
        exact hD1.2 k9 x hx
      · rw [List.getElem?_append_right (by omega)] at hx
        have := hr _ _ hx
        exact hA _ (by have := hS.1; omega)
  have hAr : ArrOfT s cA (.array ty) := fun N9 z9 => by
    obtain ⟨-, k9, hk9, cm9, hkk9⟩ := (hO 0 0 0).1
    exact ⟨(fun q hq => by cases hq), k9, hk9, cm9, hkk9⟩
  have hK2 : va_K D cl (tys ++ [(cA, .array ty)]) s := ⟨hK.1, fun k9 x hx => by
    by_cases hl : k9 < tys.length
    · rw [List.getElem?_append_left hl] at hx
      exact hK.2 k9 x hx
    · rw [List.getElem?_append_right (by omega)] at hx
      have h0 : k9 - tys.length < 1 := (List.getElem?_eq_some_iff.mp hx).1
      rw [show k9 - tys.length = 0 by omega] at hx
      cases hx
      exact ⟨hAr, fA⟩⟩
  obtain ⟨t, a1, b1⟩ := kk H.size (fun i => H.size + 1 + i) cA F.heap (fun i j _ _ h => by have h9 : H.size + 1 + i = H.size + 1 + j := h; omega) hnl hK2 (by rw [← vr_rows hnm]; exact vr_lay hP2) (by rw [← vr_rows hnm]; exact vr_layD hD2) ⟨by rw [f1]; have := hS.1; omega, fun x h1 h2 => (hold x (Nat.lt_of_lt_of_le h1 hS.1)).trans (hS.2.1 x h1 h2), hS.2.2⟩ F rfl X'
  refine ⟨t, step t ?_, b1⟩
  have e : T.heap.size = H.size := by rw [hT]
  rw [e]
  exact a1
end VGM
/-! ===== END ===== -/

def RX0 : String := "WalkingBus$Child"
def TX0 : u_T := fun k => match k with
  | 0 => ("WalkingBus$Child", "kind", "I", false)
  | 1 => ("WalkingBus$Child", "corner", "I", false)
  | 2 => ("WalkingBus$Child", "age", "I", false)
  | 3 => ("WalkingBus$Child", "readyAt", "I", false)
  | 4 => ("WalkingBus$Child", "friends", "I", false)
  | _ => ("WalkingBus$Child", "quarrels", "I", false)
def tyX0 : Nat → FieldType := fun k => match k with
  | 0 => .int
  | 1 => .int
  | 2 => .int
  | 3 => .int
  | 4 => .int
  | _ => .int
abbrev wsX00 : List Cond := u_ws RX0 TX0 6
theorem nmX0 : ∀ a, a < 6 → ∀ b, b < 6 → a ≠ b → (TX0 a).2.1 ≠ (TX0 b).2.1 := by decide +kernel
theorem tyX0_ok : ∀ k, k < 6 → parseFieldDescriptor (TX0 k).2.2.1 = some (tyX0 k) := by decide +kernel
abbrev cX0_init : ByteArray := prog_2_method_1_code
def yX0_init : MethodName := ⟨RX0, "<init>", "()V"⟩
abbrev cX0_become : ByteArray := prog_2_method_2_code
def yX0_become : MethodName := ⟨RX0, "become", "(IIII)V"⟩
abbrev cX0_pace : ByteArray := prog_2_method_3_code
def yX0_pace : MethodName := ⟨RX0, "pace", "()I"⟩
abbrev cX0_heads : ByteArray := prog_2_method_4_code
def yX0_heads : MethodName := ⟨RX0, "heads", "()I"⟩
abbrev cX0_bondWith : ByteArray := prog_2_method_5_code
def yX0_bondWith : MethodName := ⟨RX0, "bondWith", "(I)I"⟩
abbrev cX0_bind : ByteArray := prog_2_method_6_code
def yX0_bind : MethodName := ⟨RX0, "bind", "(II)V"⟩
def RX1 : String := "WalkingBus$Gates"
def TX1 : u_T := fun k => match k with
  | 0 => ("WalkingBus$Gates", "count", "I", false)
  | 1 => ("WalkingBus$Gates", "order", "[I", true)
  | 2 => ("WalkingBus$Gates", "readyAt", "[I", true)
  | _ => ("WalkingBus$Gates", "pace", "[I", true)
def tyX1 : Nat → FieldType := fun k => match k with
  | 0 => .int
  | 1 => .array .int
  | 2 => .array .int
  | _ => .array .int
abbrev wsX10 : List Cond := u_ws RX1 TX1 4
theorem nmX1 : ∀ a, a < 4 → ∀ b, b < 4 → a ≠ b → (TX1 a).2.1 ≠ (TX1 b).2.1 := by decide +kernel
theorem tyX1_ok : ∀ k, k < 4 → parseFieldDescriptor (TX1 k).2.2.1 = some (tyX1 k) := by decide +kernel
abbrev cX1_init : ByteArray := prog_3_method_1_code
def yX1_init : MethodName := ⟨RX1, "<init>", "()V"⟩
abbrev cX1_gather : ByteArray := prog_3_method_2_code
def yX1_gather : MethodName := ⟨RX1, "gather", "([LWalkingBus$Child;I)V"⟩
abbrev cX1_setFirstOrder : ByteArray := prog_3_method_3_code
def yX1_setFirstOrder : MethodName := ⟨RX1, "setFirstOrder", "()V"⟩
abbrev cX1_isGate : ByteArray := prog_3_method_4_code
def yX1_isGate : MethodName := ⟨RX1, "isGate", "(I)Z"⟩
abbrev cX1_orderBy : ByteArray := prog_3_method_5_code
def yX1_orderBy : MethodName := ⟨RX1, "orderBy", "(LWalkingBus$Sheet;II)Z"⟩
abbrev cX1_toNextOrder : ByteArray := prog_3_method_6_code
def yX1_toNextOrder : MethodName := ⟨RX1, "toNextOrder", "()Z"⟩
abbrev cX1_swap : ByteArray := prog_3_method_7_code
def yX1_swap : MethodName := ⟨RX1, "swap", "(II)V"⟩
def RX2 : String := "WalkingBus$Line"
def TX2 : u_T := fun k => match k with
  | 0 => ("WalkingBus$Line", "gates", "LWalkingBus$Gates;", true)
  | 1 => ("WalkingBus$Line", "minutes", "LWalkingBus$Minutes;", true)
  | _ => ("WalkingBus$Line", "bestOrder", "[I", true)
def tyX2 : Nat → FieldType := fun k => match k with
  | 0 => .object "WalkingBus$Gates"
  | 1 => .object "WalkingBus$Minutes"
  | _ => .array .int
abbrev wsX20 : List Cond := u_ws RX2 TX2 3
theorem nmX2 : ∀ a, a < 3 → ∀ b, b < 3 → a ≠ b → (TX2 a).2.1 ≠ (TX2 b).2.1 := by decide +kernel
theorem tyX2_ok : ∀ k, k < 3 → parseFieldDescriptor (TX2 k).2.2.1 = some (tyX2 k) := by decide +kernel
abbrev cX2_init : ByteArray := prog_4_method_1_code
def yX2_init : MethodName := ⟨RX2, "<init>", "()V"⟩
abbrev cX2_isWalkable : ByteArray := prog_4_method_2_code
def yX2_isWalkable : MethodName := ⟨RX2, "isWalkable", "(LWalkingBus$Streets;I)Z"⟩
abbrev cX2_stop : ByteArray := prog_4_method_3_code
def yX2_stop : MethodName := ⟨RX2, "stop", "(LWalkingBus$Streets;I)I"⟩
abbrev cX2_walk : ByteArray := prog_4_method_4_code
def yX2_walk : MethodName := ⟨RX2, "walk", "(LWalkingBus$Streets;II)V"⟩
abbrev cX2_walkWay : ByteArray := prog_4_method_5_code
def yX2_walkWay : MethodName := ⟨RX2, "walkWay", "(LWalkingBus$Streets;III)V"⟩
abbrev cX2_hasStarts : ByteArray := prog_4_method_6_code
def yX2_hasStarts : MethodName := ⟨RX2, "hasStarts", "(LWalkingBus$Streets;I)Z"⟩
abbrev cX2_findStart : ByteArray := prog_4_method_7_code
def yX2_findStart : MethodName := ⟨RX2, "findStart", "(LWalkingBus$Streets;III)I"⟩
abbrev cX2_keepOrder : ByteArray := prog_4_method_8_code
def yX2_keepOrder : MethodName := ⟨RX2, "keepOrder", "()V"⟩
abbrev cX2_latestStart : ByteArray := prog_4_method_9_code
def yX2_latestStart : MethodName := ⟨RX2, "latestStart", "(LWalkingBus$Streets;IIII)I"⟩
def RX3 : String := "WalkingBus$Minutes"
def TX3 : u_T := fun k => match k with
  | 0 => ("WalkingBus$Minutes", "casesAt", "[J", true)
  | 1 => ("WalkingBus$Minutes", "earliest", "I", false)
  | 2 => ("WalkingBus$Minutes", "spread", "I", false)
  | _ => ("WalkingBus$Minutes", "cases", "J", false)
def tyX3 : Nat → FieldType := fun k => match k with
  | 0 => .array .long
  | 1 => .int
  | 2 => .int
  | _ => .long
abbrev wsX30 : List Cond := u_ws RX3 TX3 4
theorem nmX3 : ∀ a, a < 4 → ∀ b, b < 4 → a ≠ b → (TX3 a).2.1 ≠ (TX3 b).2.1 := by decide +kernel
theorem tyX3_ok : ∀ k, k < 4 → parseFieldDescriptor (TX3 k).2.2.1 = some (tyX3 k) := by decide +kernel
abbrev cX3_init : ByteArray := prog_5_method_1_code
def yX3_init : MethodName := ⟨RX3, "<init>", "()V"⟩
abbrev cX3_begin : ByteArray := prog_5_method_2_code
def yX3_begin : MethodName := ⟨RX3, "begin", "(I)V"⟩
abbrev cX3_pass : ByteArray := prog_5_method_3_code
def yX3_pass : MethodName := ⟨RX3, "pass", "(I)V"⟩
abbrev cX3_cross : ByteArray := prog_5_method_4_code
def yX3_cross : MethodName := ⟨RX3, "cross", "(II)V"⟩
abbrev cX3_waitUntil : ByteArray := prog_5_method_5_code
def yX3_waitUntil : MethodName := ⟨RX3, "waitUntil", "(I)V"⟩
abbrev cX3_casesBehind : ByteArray := prog_5_method_6_code
def yX3_casesBehind : MethodName := ⟨RX3, "casesBehind", "(I)J"⟩
abbrev cX3_sumOverCases : ByteArray := prog_5_method_7_code
def yX3_sumOverCases : MethodName := ⟨RX3, "sumOverCases", "()J"⟩
def RX4 : String := "WalkingBus$Reader"
def TX4 : u_T := fun k => match k with
  | 0 => ("WalkingBus$Reader", "codes", "[I", true)
  | 1 => ("WalkingBus$Reader", "count", "I", false)
  | _ => ("WalkingBus$Reader", "at", "I", false)
def tyX4 : Nat → FieldType := fun k => match k with
  | 0 => .array .int
  | 1 => .int
  | _ => .int
abbrev wsX40 : List Cond := u_ws RX4 TX4 3
theorem nmX4 : ∀ a, a < 3 → ∀ b, b < 3 → a ≠ b → (TX4 a).2.1 ≠ (TX4 b).2.1 := by decide +kernel
theorem tyX4_ok : ∀ k, k < 3 → parseFieldDescriptor (TX4 k).2.2.1 = some (tyX4 k) := by decide +kernel
abbrev cX4_init : ByteArray := prog_6_method_1_code
def yX4_init : MethodName := ⟨RX4, "<init>", "()V"⟩
abbrev cX4_read : ByteArray := prog_6_method_2_code
def yX4_read : MethodName := ⟨RX4, "read", "(LWalkingBus$Sheet;IILWalkingBus$Streets;)I"⟩
abbrev cX4_readRoads : ByteArray := prog_6_method_3_code
def yX4_readRoads : MethodName := ⟨RX4, "readRoads", "(LWalkingBus$Streets;)I"⟩
abbrev cX4_readRoad : ByteArray := prog_6_method_4_code
def yX4_readRoad : MethodName := ⟨RX4, "readRoad", "(LWalkingBus$Streets;)I"⟩
abbrev cX4_readSchool : ByteArray := prog_6_method_5_code
def yX4_readSchool : MethodName := ⟨RX4, "readSchool", "(LWalkingBus$Streets;)I"⟩
abbrev cX4_take : ByteArray := prog_6_method_6_code
def yX4_take : MethodName := ⟨RX4, "take", "(I)Z"⟩
abbrev cX4_isDigit : ByteArray := prog_6_method_7_code
def yX4_isDigit : MethodName := ⟨RX4, "isDigit", "(II)Z"⟩
abbrev cX4_takeDigit : ByteArray := prog_6_method_8_code
def yX4_takeDigit : MethodName := ⟨RX4, "takeDigit", "()I"⟩
abbrev cX4_takeNumber : ByteArray := prog_6_method_9_code
def yX4_takeNumber : MethodName := ⟨RX4, "takeNumber", "()I"⟩
def RX5 : String := "WalkingBus$Rope"
def TX5 : u_T := fun k => match k with
  | 0 => ("WalkingBus$Rope", "friends", "[I", true)
  | 1 => ("WalkingBus$Rope", "quarrels", "[I", true)
  | 2 => ("WalkingBus$Rope", "loopOf", "[I", true)
  | 3 => ("WalkingBus$Rope", "bestLoops", "[I", true)
  | 4 => ("WalkingBus$Rope", "isCounting", "Z", false)
  | 5 => ("WalkingBus$Rope", "loops", "I", false)
  | 6 => ("WalkingBus$Rope", "emptyLoop", "I", false)
  | 7 => ("WalkingBus$Rope", "oldEnough", "I", false)
  | 8 => ("WalkingBus$Rope", "withFriends", "I", false)
  | 9 => ("WalkingBus$Rope", "found", "I", false)
  | _ => ("WalkingBus$Rope", "mostFriends", "I", false)
def tyX5 : Nat → FieldType := fun k => match k with
  | 0 => .array .int
  | 1 => .array .int
  | 2 => .array .int
  | 3 => .array .int
  | 4 => .boolean
  | 5 => .int
  | 6 => .int
  | 7 => .int
  | 8 => .int
  | 9 => .int
  | _ => .int
abbrev wsX50 : List Cond := u_ws RX5 TX5 11
theorem nmX5 : ∀ a, a < 11 → ∀ b, b < 11 → a ≠ b → (TX5 a).2.1 ≠ (TX5 b).2.1 := by decide +kernel
theorem tyX5_ok : ∀ k, k < 11 → parseFieldDescriptor (TX5 k).2.2.1 = some (tyX5 k) := by decide +kernel
abbrev cX5_init : ByteArray := prog_7_method_1_code
def yX5_init : MethodName := ⟨RX5, "<init>", "()V"⟩
abbrev cX5_search : ByteArray := prog_7_method_2_code
def yX5_search : MethodName := ⟨RX5, "search", "([LWalkingBus$Child;IIZ)V"⟩
abbrev cX5_fill : ByteArray := prog_7_method_3_code
def yX5_fill : MethodName := ⟨RX5, "fill", "(LWalkingBus$Rope;III)V"⟩
abbrev cX5_take : ByteArray := prog_7_method_4_code
def yX5_take : MethodName := ⟨RX5, "take", "(I)V"⟩
abbrev cX5_hope : ByteArray := prog_7_method_5_code
def yX5_hope : MethodName := ⟨RX5, "hope", "(II)I"⟩
abbrev cX5_maySit : ByteArray := prog_7_method_6_code
def yX5_maySit : MethodName := ⟨RX5, "maySit", "(II)Z"⟩
abbrev cX5_isBeside : ByteArray := prog_7_method_7_code
def yX5_isBeside : MethodName := ⟨RX5, "isBeside", "(I)Z"⟩
abbrev cX5_bitAt : ByteArray := prog_7_method_8_code
def yX5_bitAt : MethodName := ⟨RX5, "bitAt", "(I)I"⟩
def RX6 : String := "WalkingBus$Sheet"
def TX6 : u_T := fun k => match k with
  | 0 => ("WalkingBus$Sheet", "isThere", "Z", false)
  | 1 => ("WalkingBus$Sheet", "sort", "I", false)
  | 2 => ("WalkingBus$Sheet", "count", "I", false)
  | _ => ("WalkingBus$Sheet", "cells", "[I", true)
def tyX6 : Nat → FieldType := fun k => match k with
  | 0 => .boolean
  | 1 => .int
  | 2 => .int
  | _ => .array .int
abbrev wsX60 : List Cond := u_ws RX6 TX6 4
theorem nmX6 : ∀ a, a < 4 → ∀ b, b < 4 → a ≠ b → (TX6 a).2.1 ≠ (TX6 b).2.1 := by decide +kernel
theorem tyX6_ok : ∀ k, k < 4 → parseFieldDescriptor (TX6 k).2.2.1 = some (tyX6 k) := by decide +kernel
abbrev cX6_init : ByteArray := prog_8_method_1_code
def yX6_init : MethodName := ⟨RX6, "<init>", "()V"⟩
abbrev cX6_begin : ByteArray := prog_8_method_2_code
def yX6_begin : MethodName := ⟨RX6, "begin", "(II)V"⟩
abbrev cX6_reaches : ByteArray := prog_8_method_3_code
def yX6_reaches : MethodName := ⟨RX6, "reaches", "(II)Z"⟩
abbrev cX6_rowFault : ByteArray := prog_8_method_4_code
def yX6_rowFault : MethodName := ⟨RX6, "rowFault", "(III)I"⟩
abbrev cX6_at : ByteArray := prog_8_method_5_code
def yX6_at : MethodName := ⟨RX6, "at", "(I)I"⟩
abbrev cX6_change : ByteArray := prog_8_method_6_code
def yX6_change : MethodName := ⟨RX6, "change", "(II)V"⟩
def RX7 : String := "WalkingBus$Streets"
def TX7 : u_T := fun k => match k with
  | 0 => ("WalkingBus$Streets", "corners", "I", false)
  | 1 => ("WalkingBus$Streets", "roads", "I", false)
  | 2 => ("WalkingBus$Streets", "school", "I", false)
  | 3 => ("WalkingBus$Streets", "from", "[I", true)
  | 4 => ("WalkingBus$Streets", "to", "[I", true)
  | 5 => ("WalkingBus$Streets", "length", "[I", true)
  | 6 => ("WalkingBus$Streets", "odds", "[I", true)
  | 7 => ("WalkingBus$Streets", "shut", "[I", true)
  | 8 => ("WalkingBus$Streets", "cost", "[[I", true)
  | _ => ("WalkingBus$Streets", "firstRoad", "[[I", true)
def tyX7 : Nat → FieldType := fun k => match k with
  | 0 => .int
  | 1 => .int
  | 2 => .int
  | 3 => .array .int
  | 4 => .array .int
  | 5 => .array .int
  | 6 => .array .int
  | 7 => .array .int
  | 8 => .array (.array .int)
  | _ => .array (.array .int)
abbrev wsX70 : List Cond := u_ws RX7 TX7 10
theorem nmX7 : ∀ a, a < 10 → ∀ b, b < 10 → a ≠ b → (TX7 a).2.1 ≠ (TX7 b).2.1 := by decide +kernel
theorem tyX7_ok : ∀ k, k < 10 → parseFieldDescriptor (TX7 k).2.2.1 = some (tyX7 k) := by decide +kernel
abbrev cX7_init : ByteArray := prog_9_method_1_code
def yX7_init : MethodName := ⟨RX7, "<init>", "()V"⟩
abbrev cX7_begin : ByteArray := prog_9_method_2_code
def yX7_begin : MethodName := ⟨RX7, "begin", "(I)V"⟩
abbrev cX7_addRoad : ByteArray := prog_9_method_3_code
def yX7_addRoad : MethodName := ⟨RX7, "addRoad", "(IIIII)V"⟩
abbrev cX7_crossings : ByteArray := prog_9_method_4_code
def yX7_crossings : MethodName := ⟨RX7, "crossings", "()I"⟩
abbrev cX7_isCrossing : ByteArray := prog_9_method_5_code
def yX7_isCrossing : MethodName := ⟨RX7, "isCrossing", "(I)Z"⟩
abbrev cX7_findWays : ByteArray := prog_9_method_6_code
def yX7_findWays : MethodName := ⟨RX7, "findWays", "()V"⟩
abbrev cX7_setRoadCosts : ByteArray := prog_9_method_7_code
def yX7_setRoadCosts : MethodName := ⟨RX7, "setRoadCosts", "()V"⟩
abbrev cX7_roadCost : ByteArray := prog_9_method_8_code
def yX7_roadCost : MethodName := ⟨RX7, "roadCost", "(I)I"⟩
abbrev cX7_firstRoadOfWay : ByteArray := prog_9_method_9_code
def yX7_firstRoadOfWay : MethodName := ⟨RX7, "firstRoadOfWay", "(II)I"⟩
abbrev cX7_otherEnd : ByteArray := prog_9_method_10_code
def yX7_otherEnd : MethodName := ⟨RX7, "otherEnd", "(II)I"⟩
abbrev cX7_hasWay : ByteArray := prog_9_method_11_code
def yX7_hasWay : MethodName := ⟨RX7, "hasWay", "(II)Z"⟩
abbrev cX7_lengthOfWay : ByteArray := prog_9_method_12_code
def yX7_lengthOfWay : MethodName := ⟨RX7, "lengthOfWay", "(II)I"⟩
abbrev cX7_crossingsOfWay : ByteArray := prog_9_method_13_code
def yX7_crossingsOfWay : MethodName := ⟨RX7, "crossingsOfWay", "(II)I"⟩
abbrev cX7_roadsOfWay : ByteArray := prog_9_method_14_code
def yX7_roadsOfWay : MethodName := ⟨RX7, "roadsOfWay", "(II)I"⟩
abbrev cX7_roadOfWay : ByteArray := prog_9_method_15_code
def yX7_roadOfWay : MethodName := ⟨RX7, "roadOfWay", "(III)I"⟩
def RX8 : String := "WalkingBus$Week"
def TX8 : u_T := fun k => match k with
  | 0 => ("WalkingBus$Week", "able", "[I", true)
  | 1 => ("WalkingBus$Week", "daysOf", "[I", true)
  | 2 => ("WalkingBus$Week", "sets", "[I", true)
  | 3 => ("WalkingBus$Week", "need", "I", false)
  | 4 => ("WalkingBus$Week", "most", "I", false)
  | _ => ("WalkingBus$Week", "mostDays", "I", false)
def tyX8 : Nat → FieldType := fun k => match k with
  | 0 => .array .int
  | 1 => .array .int
  | 2 => .array .int
  | 3 => .int
  | 4 => .int
  | _ => .int
abbrev wsX80 : List Cond := u_ws RX8 TX8 6
theorem nmX8 : ∀ a, a < 6 → ∀ b, b < 6 → a ≠ b → (TX8 a).2.1 ≠ (TX8 b).2.1 := by decide +kernel
theorem tyX8_ok : ∀ k, k < 6 → parseFieldDescriptor (TX8 k).2.2.1 = some (tyX8 k) := by decide +kernel
abbrev cX8_init : ByteArray := prog_10_method_1_code
def yX8_init : MethodName := ⟨RX8, "<init>", "()V"⟩
abbrev cX8_make : ByteArray := prog_10_method_2_code
def yX8_make : MethodName := ⟨RX8, "make", "([III)V"⟩
abbrev cX8_isEnough : ByteArray := prog_10_method_3_code
def yX8_isEnough : MethodName := ⟨RX8, "isEnough", "([II)Z"⟩
abbrev cX8_fill : ByteArray := prog_10_method_4_code
def yX8_fill : MethodName := ⟨RX8, "fill", "(LWalkingBus$Week;I)Z"⟩
abbrev cX8_mayHelp : ByteArray := prog_10_method_5_code
def yX8_mayHelp : MethodName := ⟨RX8, "mayHelp", "(II)Z"⟩
abbrev cX8_addDays : ByteArray := prog_10_method_6_code
def yX8_addDays : MethodName := ⟨RX8, "addDays", "(II)V"⟩
def RX9 : String := "WalkingBus"
def TX9 : u_T := fun k => match k with
  | 0 => ("WalkingBus", "sheets", "[LWalkingBus$Sheet;", true)
  | 1 => ("WalkingBus", "reader", "LWalkingBus$Reader;", true)
  | 2 => ("WalkingBus", "town", "LWalkingBus$Streets;", false)
  | 3 => ("WalkingBus", "spareTown", "LWalkingBus$Streets;", false)
  | 4 => ("WalkingBus", "children", "[LWalkingBus$Child;", true)
  | 5 => ("WalkingBus", "childCount", "I", false)
  | 6 => ("WalkingBus", "line", "LWalkingBus$Line;", true)
  | 7 => ("WalkingBus", "rope", "LWalkingBus$Rope;", true)
  | 8 => ("WalkingBus", "hold", "I", false)
  | 9 => ("WalkingBus", "helperDays", "[I", true)
  | 10 => ("WalkingBus", "helperCount", "I", false)
  | 11 => ("WalkingBus", "plan", "LWalkingBus$Week;", true)
  | 12 => ("WalkingBus", "traced", "I", false)
  | 13 => ("WalkingBus", "lastFault", "I", false)
  | 14 => ("WalkingBus", "splitSet", "I", false)
  | 15 => ("WalkingBus", "splitGrown", "I", false)
  | _ => ("WalkingBus", "splitStarts", "I", false)
def tyX9 : Nat → FieldType := fun k => match k with
  | 0 => .array (.object "WalkingBus$Sheet")
  | 1 => .object "WalkingBus$Reader"
  | 2 => .object "WalkingBus$Streets"
  | 3 => .object "WalkingBus$Streets"
  | 4 => .array (.object "WalkingBus$Child")
  | 5 => .int
  | 6 => .object "WalkingBus$Line"
  | 7 => .object "WalkingBus$Rope"
  | 8 => .int
  | 9 => .array .int
  | 10 => .int
  | 11 => .object "WalkingBus$Week"
  | 12 => .int
  | 13 => .int
  | 14 => .int
  | 15 => .int
  | _ => .int
abbrev wsX90 : List Cond := u_ws RX9 TX9 17
theorem nmX9 : ∀ a, a < 17 → ∀ b, b < 17 → a ≠ b → (TX9 a).2.1 ≠ (TX9 b).2.1 := by decide +kernel
theorem tyX9_ok : ∀ k, k < 17 → parseFieldDescriptor (TX9 k).2.2.1 = some (tyX9 k) := by decide +kernel
abbrev cX9_init : ByteArray := prog_1_method_1_code
def yX9_init : MethodName := ⟨RX9, "<init>", "()V"⟩
abbrev cX9_streets : ByteArray := prog_1_method_2_code
def yX9_streets : MethodName := ⟨RX9, "streets", "(IIII)I"⟩
abbrev cX9_ofRoad : ByteArray := prog_1_method_3_code
def yX9_ofRoad : MethodName := ⟨RX9, "ofRoad", "(II)I"⟩
abbrev cX9_way : ByteArray := prog_1_method_4_code
def yX9_way : MethodName := ⟨RX9, "way", "(III)I"⟩
abbrev cX9_along : ByteArray := prog_1_method_5_code
def yX9_along : MethodName := ⟨RX9, "along", "(III)I"⟩
abbrev cX9_child : ByteArray := prog_1_method_6_code
def yX9_child : MethodName := ⟨RX9, "child", "(IIII)I"⟩
abbrev cX9_ofChild : ByteArray := prog_1_method_7_code
def yX9_ofChild : MethodName := ⟨RX9, "ofChild", "(II)I"⟩
abbrev cX9_ready : ByteArray := prog_1_method_8_code
def yX9_ready : MethodName := ⟨RX9, "ready", "(II)I"⟩
abbrev cX9_tie : ByteArray := prog_1_method_9_code
def yX9_tie : MethodName := ⟨RX9, "tie", "(III)I"⟩
abbrev cX9_late : ByteArray := prog_1_method_10_code
def yX9_late : MethodName := ⟨RX9, "late", "(IIIIIIIII)J"⟩
abbrev cX9_mean : ByteArray := prog_1_method_11_code
def yX9_mean : MethodName := ⟨RX9, "mean", "(IIIIIIII)J"⟩
abbrev cX9_start : ByteArray := prog_1_method_12_code
def yX9_start : MethodName := ⟨RX9, "start", "(IIII)I"⟩
abbrev cX9_gate : ByteArray := prog_1_method_13_code
def yX9_gate : MethodName := ⟨RX9, "gate", "(IIIII)I"⟩
abbrev cX9_holds : ByteArray := prog_1_method_14_code
def yX9_holds : MethodName := ⟨RX9, "holds", "(I)I"⟩
abbrev cX9_grown : ByteArray := prog_1_method_15_code
def yX9_grown : MethodName := ⟨RX9, "grown", "(I)I"⟩
abbrev cX9_split : ByteArray := prog_1_method_16_code
def yX9_split : MethodName := ⟨RX9, "split", "(IIIII)I"⟩
abbrev cX9_ways : ByteArray := prog_1_method_17_code
def yX9_ways : MethodName := ⟨RX9, "ways", "(II)J"⟩
abbrev cX9_friendly : ByteArray := prog_1_method_18_code
def yX9_friendly : MethodName := ⟨RX9, "friendly", "(III)I"⟩
abbrev cX9_loss : ByteArray := prog_1_method_19_code
def yX9_loss : MethodName := ⟨RX9, "loss", "(IIIII)J"⟩
abbrev cX9_patience : ByteArray := prog_1_method_20_code
def yX9_patience : MethodName := ⟨RX9, "patience", "(III)I"⟩
abbrev cX9_helper : ByteArray := prog_1_method_21_code
def yX9_helper : MethodName := ⟨RX9, "helper", "(I)I"⟩
abbrev cX9_days : ByteArray := prog_1_method_22_code
def yX9_days : MethodName := ⟨RX9, "days", "(II)I"⟩
abbrev cX9_week : ByteArray := prog_1_method_23_code
def yX9_week : MethodName := ⟨RX9, "week", "(II)I"⟩
abbrev cX9_sheet : ByteArray := prog_1_method_24_code
def yX9_sheet : MethodName := ⟨RX9, "sheet", "(III)I"⟩
abbrev cX9_lose : ByteArray := prog_1_method_25_code
def yX9_lose : MethodName := ⟨RX9, "lose", "(I)I"⟩
abbrev cX9_put : ByteArray := prog_1_method_26_code
def yX9_put : MethodName := ⟨RX9, "put", "(III)I"⟩
abbrev cX9_cell : ByteArray := prog_1_method_27_code
def yX9_cell : MethodName := ⟨RX9, "cell", "(III)J"⟩
abbrev cX9_copy : ByteArray := prog_1_method_28_code
def yX9_copy : MethodName := ⟨RX9, "copy", "(IIIII)I"⟩
abbrev cX9_tell : ByteArray := prog_1_method_29_code
def yX9_tell : MethodName := ⟨RX9, "tell", "(I)I"⟩
abbrev cX9_tag : ByteArray := prog_1_method_30_code
def yX9_tag : MethodName := ⟨RX9, "tag", "(I)I"⟩
abbrev cX9_as : ByteArray := prog_1_method_31_code
def yX9_as : MethodName := ⟨RX9, "as", "(II)I"⟩
abbrev cX9_trace : ByteArray := prog_1_method_32_code
def yX9_trace : MethodName := ⟨RX9, "trace", "()I"⟩
abbrev cX9_fault : ByteArray := prog_1_method_33_code
def yX9_fault : MethodName := ⟨RX9, "fault", "()I"⟩
abbrev cX9_many : ByteArray := prog_1_method_34_code
def yX9_many : MethodName := ⟨RX9, "many", "(I)I"⟩
abbrev cX9_isWithin : ByteArray := prog_1_method_35_code
def yX9_isWithin : MethodName := ⟨RX9, "isWithin", "(III)Z"⟩
abbrev cX9_isSheet : ByteArray := prog_1_method_36_code
def yX9_isSheet : MethodName := ⟨RX9, "isSheet", "(I)Z"⟩
abbrev cX9_isSort : ByteArray := prog_1_method_37_code
def yX9_isSort : MethodName := ⟨RX9, "isSort", "(I)Z"⟩
abbrev cX9_isKind : ByteArray := prog_1_method_38_code
def yX9_isKind : MethodName := ⟨RX9, "isKind", "(I)Z"⟩
abbrev cX9_isAge : ByteArray := prog_1_method_39_code
def yX9_isAge : MethodName := ⟨RX9, "isAge", "(I)Z"⟩
abbrev cX9_isMinute : ByteArray := prog_1_method_40_code
def yX9_isMinute : MethodName := ⟨RX9, "isMinute", "(I)Z"⟩
abbrev cX9_isCorner : ByteArray := prog_1_method_41_code
def yX9_isCorner : MethodName := ⟨RX9, "isCorner", "(I)Z"⟩
abbrev cX9_isChild : ByteArray := prog_1_method_42_code
def yX9_isChild : MethodName := ⟨RX9, "isChild", "(I)Z"⟩
abbrev cX9_isSet : ByteArray := prog_1_method_43_code
def yX9_isSet : MethodName := ⟨RX9, "isSet", "(I)Z"⟩
abbrev cX9_isRopeFor : ByteArray := prog_1_method_44_code
def yX9_isRopeFor : MethodName := ⟨RX9, "isRopeFor", "(II)Z"⟩
abbrev cX9_isWait : ByteArray := prog_1_method_45_code
def yX9_isWait : MethodName := ⟨RX9, "isWait", "(III)Z"⟩
abbrev cX9_fail : ByteArray := prog_1_method_46_code
def yX9_fail : MethodName := ⟨RX9, "fail", "(I)I"⟩
abbrev cX9_moveToSpareTown : ByteArray := prog_1_method_47_code
def yX9_moveToSpareTown : MethodName := ⟨RX9, "moveToSpareTown", "()V"⟩
abbrev cX9_hasWalked : ByteArray := prog_1_method_48_code
def yX9_hasWalked : MethodName := ⟨RX9, "hasWalked", "(IIILWalkingBus$Sheet;II)Z"⟩
abbrev cX9_startRefusal : ByteArray := prog_1_method_49_code
def yX9_startRefusal : MethodName := ⟨RX9, "startRefusal", "(IIII)I"⟩
abbrev cX9_grownFor : ByteArray := prog_1_method_50_code
def yX9_grownFor : MethodName := ⟨RX9, "grownFor", "(I)I"⟩
abbrev cX9_findSplit : ByteArray := prog_1_method_51_code
def yX9_findSplit : MethodName := ⟨RX9, "findSplit", "(IIII)Z"⟩
abbrev cX9_partOfShare : ByteArray := prog_1_method_52_code
def yX9_partOfShare : MethodName := ⟨RX9, "partOfShare", "(JJI)J"⟩
abbrev cX9_commonDivisor : ByteArray := prog_1_method_53_code
def yX9_commonDivisor : MethodName := ⟨RX9, "commonDivisor", "(JJ)J"⟩
abbrev cX9_weightSum : ByteArray := prog_1_method_54_code
def yX9_weightSum : MethodName := ⟨RX9, "weightSum", "(I)J"⟩
abbrev cX9_lossSum : ByteArray := prog_1_method_55_code
def yX9_lossSum : MethodName := ⟨RX9, "lossSum", "(IIII)J"⟩
abbrev cX9_leaveTrace : ByteArray := prog_1_method_56_code
def yX9_leaveTrace : MethodName := ⟨RX9, "leaveTrace", "(I)V"⟩
abbrev cX9_tellChild : ByteArray := prog_1_method_57_code
def yX9_tellChild : MethodName := ⟨RX9, "tellChild", "(LWalkingBus$Child;)I"⟩
abbrev cX9_tellSlow : ByteArray := prog_1_method_58_code
def yX9_tellSlow : MethodName := ⟨RX9, "tellSlow", "(LWalkingBus$Child;)I"⟩
abbrev cX9_tellHeld : ByteArray := prog_1_method_59_code
def yX9_tellHeld : MethodName := ⟨RX9, "tellHeld", "(LWalkingBus$Child;)I"⟩
abbrev cX9_pairs : ByteArray := prog_1_method_60_code
def yX9_pairs : MethodName := ⟨RX9, "pairs", "(I)I"⟩
def RX10 : String := "WalkingBusModel"
def TX10 : u_T := fun k => match k with
  | 0 => ("WalkingBusModel", "fault", "I", false)
  | 1 => ("WalkingBusModel", "trace", "I", false)
  | 2 => ("WalkingBusModel", "sorts", "[I", true)
  | 3 => ("WalkingBusModel", "sheetLong", "[I", true)
  | 4 => ("WalkingBusModel", "cells", "[I", true)
  | 5 => ("WalkingBusModel", "corners", "I", false)
  | 6 => ("WalkingBusModel", "roads", "I", false)
  | 7 => ("WalkingBusModel", "school", "I", false)
  | 8 => ("WalkingBusModel", "roadA", "[I", true)
  | 9 => ("WalkingBusModel", "roadB", "[I", true)
  | 10 => ("WalkingBusModel", "roadLong", "[I", true)
  | 11 => ("WalkingBusModel", "roadOdds", "[I", true)
  | 12 => ("WalkingBusModel", "roadShut", "[I", true)
  | 13 => ("WalkingBusModel", "far", "[I", true)
  | 14 => ("WalkingBusModel", "readCorners", "I", false)
  | 15 => ("WalkingBusModel", "readRoads", "I", false)
  | 16 => ("WalkingBusModel", "readSchool", "I", false)
  | 17 => ("WalkingBusModel", "read", "[I", true)
  | 18 => ("WalkingBusModel", "at", "I", false)
  | 19 => ("WalkingBusModel", "children", "I", false)
  | 20 => ("WalkingBusModel", "childKind", "[I", true)
  | 21 => ("WalkingBusModel", "childCorner", "[I", true)
  | 22 => ("WalkingBusModel", "childAge", "[I", true)
  | 23 => ("WalkingBusModel", "childReady", "[I", true)
  | 24 => ("WalkingBusModel", "ties", "[I", true)
  | 25 => ("WalkingBusModel", "chance", "[J", true)
  | 26 => ("WalkingBusModel", "gates", "[I", true)
  | 27 => ("WalkingBusModel", "gateCount", "I", false)
  | 28 => ("WalkingBusModel", "most", "I", false)
  | 29 => ("WalkingBusModel", "bestStart", "I", false)
  | 30 => ("WalkingBusModel", "bestGates", "[I", true)
  | 31 => ("WalkingBusModel", "setGates", "[I", true)
  | 32 => ("WalkingBusModel", "holding", "I", false)
  | 33 => ("WalkingBusModel", "loop", "[I", true)
  | 34 => ("WalkingBusModel", "bestLoop", "[I", true)
  | 35 => ("WalkingBusModel", "bestRows", "I", false)
  | 36 => ("WalkingBusModel", "ropes", "J", false)
  | 37 => ("WalkingBusModel", "helpers", "I", false)
  | 38 => ("WalkingBusModel", "helperDays", "[I", true)
  | 39 => ("WalkingBusModel", "weekSet", "[I", true)
  | 40 => ("WalkingBusModel", "bestWeek", "[I", true)
  | _ => ("WalkingBusModel", "bestMost", "I", false)
def tyX10 : Nat → FieldType := fun k => match k with
  | 0 => .int
  | 1 => .int
  | 2 => .array .int
  | 3 => .array .int
  | 4 => .array .int
  | 5 => .int
  | 6 => .int
  | 7 => .int
  | 8 => .array .int
  | 9 => .array .int
  | 10 => .array .int
  | 11 => .array .int
  | 12 => .array .int
  | 13 => .array .int
  | 14 => .int
  | 15 => .int
  | 16 => .int
  | 17 => .array .int
  | 18 => .int
  | 19 => .int
  | 20 => .array .int
  | 21 => .array .int
  | 22 => .array .int
  | 23 => .array .int
  | 24 => .array .int
  | 25 => .array .long
  | 26 => .array .int
  | 27 => .int
  | 28 => .int
  | 29 => .int
  | 30 => .array .int
  | 31 => .array .int
  | 32 => .int
  | 33 => .array .int
  | 34 => .array .int
  | 35 => .int
  | 36 => .long
  | 37 => .int
  | 38 => .array .int
  | 39 => .array .int
  | 40 => .array .int
  | _ => .int
abbrev wsX100 : List Cond := u_ws RX10 TX10 42
theorem nmX10 : ∀ a, a < 42 → ∀ b, b < 42 → a ≠ b → (TX10 a).2.1 ≠ (TX10 b).2.1 := by decide +kernel
theorem tyX10_ok : ∀ k, k < 42 → parseFieldDescriptor (TX10 k).2.2.1 = some (tyX10 k) := by decide +kernel
abbrev cX10_init : ByteArray := prog_12_method_1_code
def yX10_init : MethodName := ⟨RX10, "<init>", "()V"⟩
abbrev cX10_fails : ByteArray := prog_12_method_3_code
def yX10_fails : MethodName := ⟨RX10, "fails", "(I)I"⟩
abbrev cX10_lost : ByteArray := prog_12_method_4_code
def yX10_lost : MethodName := ⟨RX10, "lost", "(I)J"⟩
abbrev cX10_within : ByteArray := prog_12_method_5_code
def yX10_within : MethodName := ⟨RX10, "within", "(III)Z"⟩
abbrev cX10_has : ByteArray := prog_12_method_6_code
def yX10_has : MethodName := ⟨RX10, "has", "(II)Z"⟩
abbrev cX10_bitsOf : ByteArray := prog_12_method_7_code
def yX10_bitsOf : MethodName := ⟨RX10, "bitsOf", "(I)I"⟩
abbrev cX10_isSheet : ByteArray := prog_12_method_8_code
def yX10_isSheet : MethodName := ⟨RX10, "isSheet", "(I)Z"⟩
abbrev cX10_isSort : ByteArray := prog_12_method_9_code
def yX10_isSort : MethodName := ⟨RX10, "isSort", "(I)Z"⟩
abbrev cX10_against : ByteArray := prog_12_method_10_code
def yX10_against : MethodName := ⟨RX10, "against", "(IIII)I"⟩
abbrev cX10_isCorner : ByteArray := prog_12_method_11_code
def yX10_isCorner : MethodName := ⟨RX10, "isCorner", "(I)Z"⟩
abbrev cX10_streets : ByteArray := prog_12_method_12_code
def yX10_streets : MethodName := ⟨RX10, "streets", "(IIII)I"⟩
abbrev cX10_digitAt : ByteArray := prog_12_method_13_code
def yX10_digitAt : MethodName := ⟨RX10, "digitAt", "(II)I"⟩
abbrev cX10_readStreets : ByteArray := prog_12_method_14_code
def yX10_readStreets : MethodName := ⟨RX10, "readStreets", "(II)I"⟩
abbrev cX10_takes : ByteArray := prog_12_method_15_code
def yX10_takes : MethodName := ⟨RX10, "takes", "(IIII)Z"⟩
abbrev cX10_readRoad : ByteArray := prog_12_method_16_code
def yX10_readRoad : MethodName := ⟨RX10, "readRoad", "(I)Z"⟩
abbrev cX10_costOf : ByteArray := prog_12_method_17_code
def yX10_costOf : MethodName := ⟨RX10, "costOf", "(I)I"⟩
abbrev cX10_layFar : ByteArray := prog_12_method_18_code
def yX10_layFar : MethodName := ⟨RX10, "layFar", "()V"⟩
abbrev cX10_ofRoad : ByteArray := prog_12_method_19_code
def yX10_ofRoad : MethodName := ⟨RX10, "ofRoad", "(II)I"⟩
abbrev cX10_nextRoad : ByteArray := prog_12_method_20_code
def yX10_nextRoad : MethodName := ⟨RX10, "nextRoad", "(II)I"⟩
abbrev cX10_isWay : ByteArray := prog_12_method_21_code
def yX10_isWay : MethodName := ⟨RX10, "isWay", "(II)Z"⟩
abbrev cX10_roadsOf : ByteArray := prog_12_method_22_code
def yX10_roadsOf : MethodName := ⟨RX10, "roadsOf", "(II)I"⟩
abbrev cX10_way : ByteArray := prog_12_method_23_code
def yX10_way : MethodName := ⟨RX10, "way", "(III)I"⟩
abbrev cX10_along : ByteArray := prog_12_method_24_code
def yX10_along : MethodName := ⟨RX10, "along", "(III)I"⟩
abbrev cX10_isChild : ByteArray := prog_12_method_25_code
def yX10_isChild : MethodName := ⟨RX10, "isChild", "(I)Z"⟩
abbrev cX10_child : ByteArray := prog_12_method_26_code
def yX10_child : MethodName := ⟨RX10, "child", "(IIII)I"⟩
abbrev cX10_paceOf : ByteArray := prog_12_method_27_code
def yX10_paceOf : MethodName := ⟨RX10, "paceOf", "(I)I"⟩
abbrev cX10_tiedTo : ByteArray := prog_12_method_28_code
def yX10_tiedTo : MethodName := ⟨RX10, "tiedTo", "(II)I"⟩
abbrev cX10_ofChild : ByteArray := prog_12_method_29_code
def yX10_ofChild : MethodName := ⟨RX10, "ofChild", "(II)I"⟩
abbrev cX10_ready : ByteArray := prog_12_method_30_code
def yX10_ready : MethodName := ⟨RX10, "ready", "(II)I"⟩
abbrev cX10_tie : ByteArray := prog_12_method_31_code
def yX10_tie : MethodName := ⟨RX10, "tie", "(III)I"⟩
abbrev cX10_isSet : ByteArray := prog_12_method_32_code
def yX10_isSet : MethodName := ⟨RX10, "isSet", "(I)Z"⟩
abbrev cX10_cornersOf : ByteArray := prog_12_method_33_code
def yX10_cornersOf : MethodName := ⟨RX10, "cornersOf", "(I)I"⟩
abbrev cX10_crossingsOf : ByteArray := prog_12_method_34_code
def yX10_crossingsOf : MethodName := ⟨RX10, "crossingsOf", "(I)I"⟩
abbrev cX10_moveOn : ByteArray := prog_12_method_35_code
def yX10_moveOn : MethodName := ⟨RX10, "moveOn", "(I)V"⟩
abbrev cX10_cross : ByteArray := prog_12_method_36_code
def yX10_cross : MethodName := ⟨RX10, "cross", "(II)V"⟩
abbrev cX10_waitTill : ByteArray := prog_12_method_37_code
def yX10_waitTill : MethodName := ⟨RX10, "waitTill", "(I)V"⟩
abbrev cX10_goWay : ByteArray := prog_12_method_38_code
def yX10_goWay : MethodName := ⟨RX10, "goWay", "(III)V"⟩
abbrev cX10_goLine : ByteArray := prog_12_method_39_code
def yX10_goLine : MethodName := ⟨RX10, "goLine", "(IIII)V"⟩
abbrev cX10_tens : ByteArray := prog_12_method_40_code
def yX10_tens : MethodName := ⟨RX10, "tens", "(I)J"⟩
abbrev cX10_common : ByteArray := prog_12_method_41_code
def yX10_common : MethodName := ⟨RX10, "common", "(JJ)J"⟩
abbrev cX10_part : ByteArray := prog_12_method_42_code
def yX10_part : MethodName := ⟨RX10, "part", "(JJI)J"⟩
abbrev cX10_whyNotLine : ByteArray := prog_12_method_43_code
def yX10_whyNotLine : MethodName := ⟨RX10, "whyNotLine", "(IIIIII)I"⟩
abbrev cX10_late : ByteArray := prog_12_method_44_code
def yX10_late : MethodName := ⟨RX10, "late", "(IIIIIIIII)J"⟩
abbrev cX10_mean : ByteArray := prog_12_method_45_code
def yX10_mean : MethodName := ⟨RX10, "mean", "(IIIIIIII)J"⟩
abbrev cX10_startBy : ByteArray := prog_12_method_46_code
def yX10_startBy : MethodName := ⟨RX10, "startBy", "(IIII)I"⟩
abbrev cX10_layOrder : ByteArray := prog_12_method_47_code
def yX10_layOrder : MethodName := ⟨RX10, "layOrder", "(I)Z"⟩
abbrev cX10_laySetGates : ByteArray := prog_12_method_48_code
def yX10_laySetGates : MethodName := ⟨RX10, "laySetGates", "(I)I"⟩
abbrev cX10_mayStart : ByteArray := prog_12_method_49_code
def yX10_mayStart : MethodName := ⟨RX10, "mayStart", "(II)Z"⟩
abbrev cX10_findStart : ByteArray := prog_12_method_50_code
def yX10_findStart : MethodName := ⟨RX10, "findStart", "(IIII)V"⟩
abbrev cX10_isAsked : ByteArray := prog_12_method_51_code
def yX10_isAsked : MethodName := ⟨RX10, "isAsked", "(III)Z"⟩
abbrev cX10_start : ByteArray := prog_12_method_52_code
def yX10_start : MethodName := ⟨RX10, "start", "(IIII)I"⟩
abbrev cX10_gate : ByteArray := prog_12_method_53_code
def yX10_gate : MethodName := ⟨RX10, "gate", "(IIIII)I"⟩
abbrev cX10_holds : ByteArray := prog_12_method_54_code
def yX10_holds : MethodName := ⟨RX10, "holds", "(I)I"⟩
abbrev cX10_grownOf : ByteArray := prog_12_method_55_code
def yX10_grownOf : MethodName := ⟨RX10, "grownOf", "(I)I"⟩
abbrev cX10_grown : ByteArray := prog_12_method_56_code
def yX10_grown : MethodName := ⟨RX10, "grown", "(I)I"⟩
abbrev cX10_startOf : ByteArray := prog_12_method_57_code
def yX10_startOf : MethodName := ⟨RX10, "startOf", "(IIII)I"⟩
abbrev cX10_split : ByteArray := prog_12_method_58_code
def yX10_split : MethodName := ⟨RX10, "split", "(IIIII)I"⟩
abbrev cX10_mayBe : ByteArray := prog_12_method_59_code
def yX10_mayBe : MethodName := ⟨RX10, "mayBe", "(IIIZ)Z"⟩
abbrev cX10_friendRows : ByteArray := prog_12_method_60_code
def yX10_friendRows : MethodName := ⟨RX10, "friendRows", "(I)I"⟩
abbrev cX10_layRopes : ByteArray := prog_12_method_61_code
def yX10_layRopes : MethodName := ⟨RX10, "layRopes", "(II)V"⟩
abbrev cX10_isRope : ByteArray := prog_12_method_62_code
def yX10_isRope : MethodName := ⟨RX10, "isRope", "(II)Z"⟩
abbrev cX10_ways : ByteArray := prog_12_method_63_code
def yX10_ways : MethodName := ⟨RX10, "ways", "(II)J"⟩
abbrev cX10_friendly : ByteArray := prog_12_method_64_code
def yX10_friendly : MethodName := ⟨RX10, "friendly", "(III)I"⟩
abbrev cX10_isLate : ByteArray := prog_12_method_65_code
def yX10_isLate : MethodName := ⟨RX10, "isLate", "(III)Z"⟩
abbrev cX10_lossOf : ByteArray := prog_12_method_66_code
def yX10_lossOf : MethodName := ⟨RX10, "lossOf", "(IIII)I"⟩
abbrev cX10_loss : ByteArray := prog_12_method_67_code
def yX10_loss : MethodName := ⟨RX10, "loss", "(IIIII)J"⟩
abbrev cX10_patience : ByteArray := prog_12_method_68_code
def yX10_patience : MethodName := ⟨RX10, "patience", "(III)I"⟩
abbrev cX10_helper : ByteArray := prog_12_method_69_code
def yX10_helper : MethodName := ⟨RX10, "helper", "(I)I"⟩
abbrev cX10_days : ByteArray := prog_12_method_70_code
def yX10_days : MethodName := ⟨RX10, "days", "(II)I"⟩
abbrev cX10_mayHelp : ByteArray := prog_12_method_71_code
def yX10_mayHelp : MethodName := ⟨RX10, "mayHelp", "(III)Z"⟩
abbrev cX10_mostDays : ByteArray := prog_12_method_72_code
def yX10_mostDays : MethodName := ⟨RX10, "mostDays", "(I)I"⟩
abbrev cX10_layWeek : ByteArray := prog_12_method_73_code
def yX10_layWeek : MethodName := ⟨RX10, "layWeek", "(I)V"⟩
abbrev cX10_week : ByteArray := prog_12_method_74_code
def yX10_week : MethodName := ⟨RX10, "week", "(II)I"⟩
abbrev cX10_sheet : ByteArray := prog_12_method_75_code
def yX10_sheet : MethodName := ⟨RX10, "sheet", "(III)I"⟩
abbrev cX10_lose : ByteArray := prog_12_method_76_code
def yX10_lose : MethodName := ⟨RX10, "lose", "(I)I"⟩
abbrev cX10_put : ByteArray := prog_12_method_77_code
def yX10_put : MethodName := ⟨RX10, "put", "(III)I"⟩
abbrev cX10_cell : ByteArray := prog_12_method_78_code
def yX10_cell : MethodName := ⟨RX10, "cell", "(III)J"⟩
abbrev cX10_copy : ByteArray := prog_12_method_79_code
def yX10_copy : MethodName := ⟨RX10, "copy", "(IIIII)I"⟩
abbrev cX10_begins : ByteArray := prog_12_method_80_code
def yX10_begins : MethodName := ⟨RX10, "begins", "(I)V"⟩
abbrev cX10_tell : ByteArray := prog_12_method_81_code
def yX10_tell : MethodName := ⟨RX10, "tell", "(I)I"⟩
abbrev cX10_tag : ByteArray := prog_12_method_82_code
def yX10_tag : MethodName := ⟨RX10, "tag", "(I)I"⟩
abbrev cX10_as : ByteArray := prog_12_method_83_code
def yX10_as : MethodName := ⟨RX10, "as", "(II)I"⟩
abbrev cX10_trace : ByteArray := prog_12_method_84_code
def yX10_trace : MethodName := ⟨RX10, "trace", "()I"⟩
abbrev cX10_fault : ByteArray := prog_12_method_85_code
def yX10_fault : MethodName := ⟨RX10, "fault", "()I"⟩
abbrev cX10_pairsOf : ByteArray := prog_12_method_86_code
def yX10_pairsOf : MethodName := ⟨RX10, "pairsOf", "(I)I"⟩
abbrev cX10_crossingRoads : ByteArray := prog_12_method_87_code
def yX10_crossingRoads : MethodName := ⟨RX10, "crossingRoads", "()I"⟩
abbrev cX10_many : ByteArray := prog_12_method_88_code
def yX10_many : MethodName := ⟨RX10, "many", "(I)I"⟩
def RJ6 : String := "java/lang/Integer"
def TJ6 : u_T := fun k => match k with
  | _ => ("", "", "", false)
def tyJ6 : Nat → FieldType := fun k => match k with
  | _ => .int
abbrev wsJ60 : List Cond := u_ws RJ6 TJ6 0
theorem nmJ6 : ∀ a, a < 0 → ∀ b, b < 0 → a ≠ b → (TJ6 a).2.1 ≠ (TJ6 b).2.1 := by decide +kernel
theorem tyJ6_ok : ∀ k, k < 0 → parseFieldDescriptor (TJ6 k).2.2.1 = some (tyJ6 k) := by decide +kernel
abbrev cJ6_bitCount_0f7a4 : ByteArray := prog_13_method_49_code
def yJ6_bitCount_0f7a4 : MethodName := ⟨RJ6, "bitCount", "(I)I"⟩
def RJ9 : String := "java/lang/Math"
def TJ9 : u_T := fun k => match k with
  | _ => ("", "", "", false)
def tyJ9 : Nat → FieldType := fun k => match k with
  | _ => .int
abbrev wsJ90 : List Cond := u_ws RJ9 TJ9 0
theorem nmJ9 : ∀ a, a < 0 → ∀ b, b < 0 → a ≠ b → (TJ9 a).2.1 ≠ (TJ9 b).2.1 := by decide +kernel
theorem tyJ9_ok : ∀ k, k < 0 → parseFieldDescriptor (TJ9 k).2.2.1 = some (tyJ9 k) := by decide +kernel
abbrev cJ9_max_7cf53 : ByteArray := prog_14_method_65_code
def yJ9_max_7cf53 : MethodName := ⟨RJ9, "max", "(II)I"⟩
abbrev cJ9_min_7cf53 : ByteArray := prog_14_method_69_code
def yJ9_min_7cf53 : MethodName := ⟨RJ9, "min", "(II)I"⟩
def RJ10 : String := "java/lang/System"
def TJ10 : u_T := fun k => match k with
  | _ => ("", "", "", false)
def tyJ10 : Nat → FieldType := fun k => match k with
  | _ => .int
abbrev wsJ100 : List Cond := u_ws RJ10 TJ10 0
theorem nmJ10 : ∀ a, a < 0 → ∀ b, b < 0 → a ≠ b → (TJ10 a).2.1 ≠ (TJ10 b).2.1 := by decide +kernel
theorem tyJ10_ok : ∀ k, k < 0 → parseFieldDescriptor (TJ10 k).2.2.1 = some (tyJ10 k) := by decide +kernel
def RL : String := "WalkingBusLaw"
abbrev cL_law : ByteArray := code
def yL_law : MethodName := ⟨RL, "law", "([I)Z"⟩
abbrev vwCl : List vw_C := [(RX0, TX0, 6), (RX1, TX1, 4), (RX2, TX2, 3), (RX3, TX3, 4), (RX4, TX4, 3), (RX5, TX5, 11), (RX6, TX6, 4), (RX7, TX7, 10), (RX8, TX8, 6), (RX9, TX9, 17), (RX10, TX10, 42)]
/-- the words of the tables that hold at every later state -/
def gW : List Cond := lw_tbl.filter goodWord
theorem gW_in : ∀ w ∈ gW, w ∈ lw_tbl := fun w h => (List.mem_filter.mp h).1
theorem gW_good : ∀ w ∈ gW, (w.onTables && w.keeps) = true ∨ ∃ ty, w = .arrayClass ty := fun w h => good_of_word (List.mem_filter.mp h).2
theorem gw_in {w : Cond} (i : Nat) (h : lw_tbl[i]? = some w) (hg : goodWord w = true) : w ∈ gW := List.mem_filter.mpr ⟨List.mem_of_getElem? h, hg⟩
theorem gw_all {ws : List Cond} (ps : List Nat) (hp : ws = ps.filterMap (fun i => lw_tbl[i]?)) (h : ws.all goodWord = true) : ∀ w ∈ ws, w ∈ gW := by
  intro w hw
  have hg := List.all_eq_true.mp h w hw
  rw [hp] at hw
  obtain ⟨i, -, hi⟩ := List.mem_filterMap.mp hw
  exact gw_in i hi hg
set_option maxRecDepth 20000 in
theorem inX0 : ∀ w ∈ wsX00, w ∈ gW := gw_all [357, 359, 361, 363, 365, 367] (by decide +kernel) (by decide +kernel)
set_option maxRecDepth 20000 in
theorem inX1 : ∀ w ∈ wsX10, w ∈ gW := gw_all [199, 201, 203, 205] (by decide +kernel) (by decide +kernel)
set_option maxRecDepth 20000 in
theorem inX2 : ∀ w ∈ wsX20, w ∈ gW := gw_all [236, 238, 240] (by decide +kernel) (by decide +kernel)
set_option maxRecDepth 20000 in
theorem inX3 : ∀ w ∈ wsX30, w ∈ gW := gw_all [220, 222, 224, 226] (by decide +kernel) (by decide +kernel)
set_option maxRecDepth 20000 in
theorem inX4 : ∀ w ∈ wsX40, w ∈ gW := gw_all [115, 117, 119] (by decide +kernel) (by decide +kernel)
set_option maxRecDepth 20000 in
theorem inX5 : ∀ w ∈ wsX50, w ∈ gW := gw_all [264, 266, 268, 270, 272, 274, 276, 278, 280, 282, 284] (by decide +kernel) (by decide +kernel)
set_option maxRecDepth 20000 in
theorem inX6 : ∀ w ∈ wsX60, w ∈ gW := gw_all [326, 328, 330, 332] (by decide +kernel) (by decide +kernel)
set_option maxRecDepth 20000 in
theorem inX7 : ∀ w ∈ wsX70, w ∈ gW := gw_all [155, 157, 159, 161, 163, 165, 167, 169, 171, 173] (by decide +kernel) (by decide +kernel)
set_option maxRecDepth 20000 in
theorem inX8 : ∀ w ∈ wsX80, w ∈ gW := gw_all [301, 303, 305, 307, 309, 311] (by decide +kernel) (by decide +kernel)
set_option maxRecDepth 20000 in
theorem inX9 : ∀ w ∈ wsX90, w ∈ gW := gw_all [387, 389, 391, 393, 395, 397, 399, 401, 403, 405, 407, 409, 411, 413, 415, 417, 419] (by decide +kernel) (by decide +kernel)
set_option maxRecDepth 20000 in
theorem inX10 : ∀ w ∈ wsX100, w ∈ gW := gw_all [991, 993, 995, 997, 999, 1001, 1003, 1005, 1007, 1009, 1011, 1013, 1015, 1017, 1019, 1021, 1023, 1025, 1027, 1029, 1031, 1033, 1035, 1037, 1039, 1041, 1043, 1045, 1047, 1049, 1051, 1053, 1055, 1057, 1059, 1061, 1063, 1065, 1067, 1069, 1071, 1073] (by decide +kernel) (by decide +kernel)
/-- links between nest mates -/
def nestF : List (String × Nat × String × String × String × String) := [(RX4, 61, "WalkingBus$Streets", "corners", "I", "WalkingBus"), (RX9, 348, "WalkingBus$Streets", "corners", "I", "WalkingBus"), (RX9, 110, "WalkingBus$Streets", "roads", "I", "WalkingBus"), (RX2, 50, "WalkingBus$Streets", "school", "I", "WalkingBus"), (RX4, 75, "WalkingBus$Streets", "school", "I", "WalkingBus"), (RX9, 113, "WalkingBus$Streets", "from", "[I", "WalkingBus"), (RX9, 116, "WalkingBus$Streets", "to", "[I", "WalkingBus"), (RX9, 119, "WalkingBus$Streets", "length", "[I", "WalkingBus"), (RX2, 79, "WalkingBus$Streets", "length", "[I", "WalkingBus"), (RX9, 122, "WalkingBus$Streets", "odds", "[I", "WalkingBus"), (RX2, 89, "WalkingBus$Streets", "odds", "[I", "WalkingBus"), (RX9, 125, "WalkingBus$Streets", "shut", "[I", "WalkingBus"), (RX2, 92, "WalkingBus$Streets", "shut", "[I", "WalkingBus"), (RX2, 75, "WalkingBus$Streets", "firstRoad", "[[I", "WalkingBus"), (RX2, 29, "WalkingBus$Gates", "count", "I", "WalkingBus"), (RX9, 244, "WalkingBus$Gates", "count", "I", "WalkingBus"), (RX2, 47, "WalkingBus$Gates", "order", "[I", "WalkingBus"), (RX2, 61, "WalkingBus$Gates", "readyAt", "[I", "WalkingBus"), (RX2, 67, "WalkingBus$Gates", "pace", "[I", "WalkingBus"), (RX2, 133, "WalkingBus$Minutes", "cases", "J", "WalkingBus"), (RX9, 220, "WalkingBus$Minutes", "cases", "J", "WalkingBus"), (RX9, 240, "WalkingBus$Line", "gates", "LWalkingBus$Gates;", "WalkingBus"), (RX9, 210, "WalkingBus$Line", "minutes", "LWalkingBus$Minutes;", "WalkingBus"), (RX9, 249, "WalkingBus$Line", "bestOrder", "[I", "WalkingBus"), (RX9, 280, "WalkingBus$Rope", "bestLoops", "[I", "WalkingBus"), (RX9, 277, "WalkingBus$Rope", "loops", "I", "WalkingBus"), (RX9, 271, "WalkingBus$Rope", "found", "I", "WalkingBus"), (RX9, 274, "WalkingBus$Rope", "mostFriends", "I", "WalkingBus"), (RX9, 300, "WalkingBus$Week", "sets", "[I", "WalkingBus"), (RX9, 297, "WalkingBus$Week", "mostDays", "I", "WalkingBus"), (RX9, 309, "WalkingBus$Sheet", "isThere", "Z", "WalkingBus"), (RX9, 322, "WalkingBus$Sheet", "sort", "I", "WalkingBus"), (RX9, 325, "WalkingBus$Sheet", "cells", "[I", "WalkingBus"), (RX9, 165, "WalkingBus$Child", "kind", "I", "WalkingBus"), (RX1, 25, "WalkingBus$Child", "corner", "I", "WalkingBus"), (RX9, 168, "WalkingBus$Child", "corner", "I", "WalkingBus"), (RX5, 53, "WalkingBus$Child", "age", "I", "WalkingBus"), (RX9, 171, "WalkingBus$Child", "age", "I", "WalkingBus"), (RX1, 30, "WalkingBus$Child", "readyAt", "I", "WalkingBus"), (RX9, 174, "WalkingBus$Child", "readyAt", "I", "WalkingBus"), (RX5, 47, "WalkingBus$Child", "friends", "I", "WalkingBus"), (RX9, 184, "WalkingBus$Child", "friends", "I", "WalkingBus"), (RX5, 51, "WalkingBus$Child", "quarrels", "I", "WalkingBus"), (RX9, 187, "WalkingBus$Child", "quarrels", "I", "WalkingBus")]
def nestM : List (String × Nat × MethodName × String) := [(RX9, 19, yX4_init, "WalkingBus"), (RX9, 26, yX7_init, "WalkingBus"), (RX9, 46, yX2_init, "WalkingBus"), (RX2, 11, yX1_init, "WalkingBus"), (RX2, 20, yX3_init, "WalkingBus"), (RX9, 53, yX5_init, "WalkingBus"), (RX9, 70, yX8_init, "WalkingBus"), (RX9, 90, yX6_init, "WalkingBus"), (RX9, 91, yX0_init, "WalkingBus"), (RX4, 67, yX9_isWithin, "WalkingBus")]
def cdF (q : String × Nat × String × String × String × String) : Cond := .fieldLinkNest q.1 q.2.1 q.2.2.1 q.2.2.2.1 q.2.2.2.2.1 q.2.2.2.2.2
def cdM (q : String × Nat × MethodName × String) : Cond := .methodLinkNest q.1 q.2.1 q.2.2.1 q.2.2.2
def NW (U : State) : Prop := (∀ q ∈ nestF, va_Nw (cdF q) U) ∧ (∀ q ∈ nestM, va_Nw (cdM q) U)
theorem NW.warm {s U : State} (hW : s.WarmedH U.vm) (h : NW s) : NW U := ⟨fun q hq => va_Nw.warmF hW (h.1 q hq), fun q hq => va_Nw.warmM hW (h.2 q hq)⟩
theorem NW.same {u U : State} (hv : u.vm = U.vm) (h : NW u) : NW U := ⟨fun q hq => va_Nw.same rfl hv (h.1 q hq), fun q hq => va_Nw.same rfl hv (h.2 q hq)⟩
set_option maxRecDepth 20000 in
theorem nestF_in : ∀ q ∈ nestF, cdF q ∈ lw_tbl := by
  have h : nestF.map cdF = ([132, 133, 135, 137, 138, 140, 142, 144, 145, 147, 148, 150, 151, 154, 191, 192, 194, 196, 198, 218, 219, 231, 233, 235, 253, 256, 261, 263, 296, 300, 320, 322, 325, 341, 343, 344, 346, 347, 349, 350, 352, 353, 355, 356] : List Nat).filterMap (fun i => lw_tbl[i]?) := by decide +kernel
  intro q hq
  have h1 : cdF q ∈ nestF.map cdF := List.mem_map_of_mem hq
  rw [h] at h1
  obtain ⟨i, -, hi⟩ := List.mem_filterMap.mp h1
  exact List.mem_of_getElem? hi
set_option maxRecDepth 20000 in
theorem nestM_in : ∀ q ∈ nestM, cdM q ∈ lw_tbl := by
  have h : nestM.map cdM = ([108, 125, 180, 186, 210, 245, 289, 315, 336, 462] : List Nat).filterMap (fun i => lw_tbl[i]?) := by decide +kernel
  intro q hq
  have h1 : cdM q ∈ nestM.map cdM := List.mem_map_of_mem hq
  rw [h] at h1
  obtain ⟨i, -, hi⟩ := List.mem_filterMap.mp h1
  exact List.mem_of_getElem? hi
end
section
theorem kS_yX4_take : Cond.selects RX4 yX4_take yX4_take ∈ gW := gw_in 0 (by decide +kernel) (by decide +kernel)
theorem kS_yX4_isDigit : Cond.selects RX4 yX4_isDigit yX4_isDigit ∈ gW := gw_in 1 (by decide +kernel) (by decide +kernel)
theorem kS_yX4_takeDigit : Cond.selects RX4 yX4_takeDigit yX4_takeDigit ∈ gW := gw_in 2 (by decide +kernel) (by decide +kernel)
theorem kS_yX4_readRoads : Cond.selects RX4 yX4_readRoads yX4_readRoads ∈ gW := gw_in 3 (by decide +kernel) (by decide +kernel)
theorem kS_yX4_readSchool : Cond.selects RX4 yX4_readSchool yX4_readSchool ∈ gW := gw_in 4 (by decide +kernel) (by decide +kernel)
theorem kS_yX4_readRoad : Cond.selects RX4 yX4_readRoad yX4_readRoad ∈ gW := gw_in 5 (by decide +kernel) (by decide +kernel)
theorem kS_yX4_takeNumber : Cond.selects RX4 yX4_takeNumber yX4_takeNumber ∈ gW := gw_in 6 (by decide +kernel) (by decide +kernel)
theorem kS_yX9_moveToSpareTown : Cond.selects RX9 yX9_moveToSpareTown yX9_moveToSpareTown ∈ gW := gw_in 7 (by decide +kernel) (by decide +kernel)
theorem kS_yX7_setRoadCosts : Cond.selects RX7 yX7_setRoadCosts yX7_setRoadCosts ∈ gW := gw_in 8 (by decide +kernel) (by decide +kernel)
theorem kS_yX7_roadCost : Cond.selects RX7 yX7_roadCost yX7_roadCost ∈ gW := gw_in 9 (by decide +kernel) (by decide +kernel)
theorem kS_yX7_firstRoadOfWay : Cond.selects RX7 yX7_firstRoadOfWay yX7_firstRoadOfWay ∈ gW := gw_in 10 (by decide +kernel) (by decide +kernel)
theorem kS_yX9_isCorner : Cond.selects RX9 yX9_isCorner yX9_isCorner ∈ gW := gw_in 11 (by decide +kernel) (by decide +kernel)
theorem kS_yX9_isChild : Cond.selects RX9 yX9_isChild yX9_isChild ∈ gW := gw_in 12 (by decide +kernel) (by decide +kernel)
theorem kS_yX9_isSet : Cond.selects RX9 yX9_isSet yX9_isSet ∈ gW := gw_in 13 (by decide +kernel) (by decide +kernel)
theorem kS_yX9_hasWalked : Cond.selects RX9 yX9_hasWalked yX9_hasWalked ∈ gW := gw_in 14 (by decide +kernel) (by decide +kernel)
theorem kS_yX1_isGate : Cond.selects RX1 yX1_isGate yX1_isGate ∈ gW := gw_in 15 (by decide +kernel) (by decide +kernel)
theorem kS_yX2_stop : Cond.selects RX2 yX2_stop yX2_stop ∈ gW := gw_in 16 (by decide +kernel) (by decide +kernel)
theorem kS_yX2_walkWay : Cond.selects RX2 yX2_walkWay yX2_walkWay ∈ gW := gw_in 17 (by decide +kernel) (by decide +kernel)
theorem kS_yX9_startRefusal : Cond.selects RX9 yX9_startRefusal yX9_startRefusal ∈ gW := gw_in 18 (by decide +kernel) (by decide +kernel)
theorem kS_yX1_swap : Cond.selects RX1 yX1_swap yX1_swap ∈ gW := gw_in 19 (by decide +kernel) (by decide +kernel)
theorem kS_yX2_latestStart : Cond.selects RX2 yX2_latestStart yX2_latestStart ∈ gW := gw_in 20 (by decide +kernel) (by decide +kernel)
theorem kS_yX2_keepOrder : Cond.selects RX2 yX2_keepOrder yX2_keepOrder ∈ gW := gw_in 21 (by decide +kernel) (by decide +kernel)
theorem kS_yX9_grownFor : Cond.selects RX9 yX9_grownFor yX9_grownFor ∈ gW := gw_in 22 (by decide +kernel) (by decide +kernel)
theorem kS_yX9_findSplit : Cond.selects RX9 yX9_findSplit yX9_findSplit ∈ gW := gw_in 23 (by decide +kernel) (by decide +kernel)
theorem kS_yX9_isRopeFor : Cond.selects RX9 yX9_isRopeFor yX9_isRopeFor ∈ gW := gw_in 24 (by decide +kernel) (by decide +kernel)
theorem kS_yX5_take : Cond.selects RX5 yX5_take yX5_take ∈ gW := gw_in 25 (by decide +kernel) (by decide +kernel)
theorem kS_yX5_hope : Cond.selects RX5 yX5_hope yX5_hope ∈ gW := gw_in 26 (by decide +kernel) (by decide +kernel)
theorem kS_yX5_bitAt : Cond.selects RX5 yX5_bitAt yX5_bitAt ∈ gW := gw_in 27 (by decide +kernel) (by decide +kernel)
theorem kS_yX5_maySit : Cond.selects RX5 yX5_maySit yX5_maySit ∈ gW := gw_in 28 (by decide +kernel) (by decide +kernel)
theorem kS_yX8_isEnough : Cond.selects RX8 yX8_isEnough yX8_isEnough ∈ gW := gw_in 29 (by decide +kernel) (by decide +kernel)
theorem kS_yX8_mayHelp : Cond.selects RX8 yX8_mayHelp yX8_mayHelp ∈ gW := gw_in 30 (by decide +kernel) (by decide +kernel)
theorem kS_yX8_addDays : Cond.selects RX8 yX8_addDays yX8_addDays ∈ gW := gw_in 31 (by decide +kernel) (by decide +kernel)
theorem kS_yX9_fail : Cond.selects RX9 yX9_fail yX9_fail ∈ gW := gw_in 32 (by decide +kernel) (by decide +kernel)
theorem kS_yX9_tellHeld : Cond.selects RX9 yX9_tellHeld yX9_tellHeld ∈ gW := gw_in 33 (by decide +kernel) (by decide +kernel)
theorem kS_yX9_leaveTrace : Cond.selects RX9 yX9_leaveTrace yX9_leaveTrace ∈ gW := gw_in 34 (by decide +kernel) (by decide +kernel)
theorem kS_yX9_tellSlow : Cond.selects RX9 yX9_tellSlow yX9_tellSlow ∈ gW := gw_in 35 (by decide +kernel) (by decide +kernel)
theorem kS_yX9_tellChild : Cond.selects RX9 yX9_tellChild yX9_tellChild ∈ gW := gw_in 36 (by decide +kernel) (by decide +kernel)
theorem kS_yX9_pairs : Cond.selects RX9 yX9_pairs yX9_pairs ∈ gW := gw_in 37 (by decide +kernel) (by decide +kernel)
theorem kS_yX10_against : Cond.selects RX10 yX10_against yX10_against ∈ gW := gw_in 38 (by decide +kernel) (by decide +kernel)
theorem kS_yX10_fails : Cond.selects RX10 yX10_fails yX10_fails ∈ gW := gw_in 39 (by decide +kernel) (by decide +kernel)
theorem kS_yX10_readStreets : Cond.selects RX10 yX10_readStreets yX10_readStreets ∈ gW := gw_in 40 (by decide +kernel) (by decide +kernel)
theorem kS_yX10_digitAt : Cond.selects RX10 yX10_digitAt yX10_digitAt ∈ gW := gw_in 41 (by decide +kernel) (by decide +kernel)
theorem kS_yX10_readRoad : Cond.selects RX10 yX10_readRoad yX10_readRoad ∈ gW := gw_in 42 (by decide +kernel) (by decide +kernel)
theorem kS_yX10_takes : Cond.selects RX10 yX10_takes yX10_takes ∈ gW := gw_in 43 (by decide +kernel) (by decide +kernel)
theorem kS_yX10_layFar : Cond.selects RX10 yX10_layFar yX10_layFar ∈ gW := gw_in 44 (by decide +kernel) (by decide +kernel)
theorem kS_yX10_costOf : Cond.selects RX10 yX10_costOf yX10_costOf ∈ gW := gw_in 45 (by decide +kernel) (by decide +kernel)
theorem kS_yX10_isCorner : Cond.selects RX10 yX10_isCorner yX10_isCorner ∈ gW := gw_in 46 (by decide +kernel) (by decide +kernel)
theorem kS_yX10_isWay : Cond.selects RX10 yX10_isWay yX10_isWay ∈ gW := gw_in 47 (by decide +kernel) (by decide +kernel)
theorem kS_yX10_roadsOf : Cond.selects RX10 yX10_roadsOf yX10_roadsOf ∈ gW := gw_in 48 (by decide +kernel) (by decide +kernel)
theorem kS_yX10_nextRoad : Cond.selects RX10 yX10_nextRoad yX10_nextRoad ∈ gW := gw_in 49 (by decide +kernel) (by decide +kernel)
theorem kS_yX10_isChild : Cond.selects RX10 yX10_isChild yX10_isChild ∈ gW := gw_in 50 (by decide +kernel) (by decide +kernel)
theorem kS_yX10_paceOf : Cond.selects RX10 yX10_paceOf yX10_paceOf ∈ gW := gw_in 51 (by decide +kernel) (by decide +kernel)
theorem kS_yX10_tiedTo : Cond.selects RX10 yX10_tiedTo yX10_tiedTo ∈ gW := gw_in 52 (by decide +kernel) (by decide +kernel)
theorem kS_yX10_isSet : Cond.selects RX10 yX10_isSet yX10_isSet ∈ gW := gw_in 53 (by decide +kernel) (by decide +kernel)
theorem kS_yX10_whyNotLine : Cond.selects RX10 yX10_whyNotLine yX10_whyNotLine ∈ gW := gw_in 54 (by decide +kernel) (by decide +kernel)
theorem kS_yX10_cornersOf : Cond.selects RX10 yX10_cornersOf yX10_cornersOf ∈ gW := gw_in 55 (by decide +kernel) (by decide +kernel)
theorem kS_yX10_crossingsOf : Cond.selects RX10 yX10_crossingsOf yX10_crossingsOf ∈ gW := gw_in 56 (by decide +kernel) (by decide +kernel)
theorem kS_yX10_lost : Cond.selects RX10 yX10_lost yX10_lost ∈ gW := gw_in 57 (by decide +kernel) (by decide +kernel)
theorem kS_yX10_goLine : Cond.selects RX10 yX10_goLine yX10_goLine ∈ gW := gw_in 58 (by decide +kernel) (by decide +kernel)
theorem kS_yX10_goWay : Cond.selects RX10 yX10_goWay yX10_goWay ∈ gW := gw_in 59 (by decide +kernel) (by decide +kernel)
theorem kS_yX10_moveOn : Cond.selects RX10 yX10_moveOn yX10_moveOn ∈ gW := gw_in 60 (by decide +kernel) (by decide +kernel)
theorem kS_yX10_cross : Cond.selects RX10 yX10_cross yX10_cross ∈ gW := gw_in 61 (by decide +kernel) (by decide +kernel)
theorem kS_yX10_waitTill : Cond.selects RX10 yX10_waitTill yX10_waitTill ∈ gW := gw_in 62 (by decide +kernel) (by decide +kernel)
theorem kS_yX10_isAsked : Cond.selects RX10 yX10_isAsked yX10_isAsked ∈ gW := gw_in 63 (by decide +kernel) (by decide +kernel)
theorem kS_yX10_mayStart : Cond.selects RX10 yX10_mayStart yX10_mayStart ∈ gW := gw_in 64 (by decide +kernel) (by decide +kernel)
theorem kS_yX10_laySetGates : Cond.selects RX10 yX10_laySetGates yX10_laySetGates ∈ gW := gw_in 65 (by decide +kernel) (by decide +kernel)
theorem kS_yX10_layOrder : Cond.selects RX10 yX10_layOrder yX10_layOrder ∈ gW := gw_in 66 (by decide +kernel) (by decide +kernel)
theorem kS_yX10_findStart : Cond.selects RX10 yX10_findStart yX10_findStart ∈ gW := gw_in 67 (by decide +kernel) (by decide +kernel)
theorem kS_yX10_startBy : Cond.selects RX10 yX10_startBy yX10_startBy ∈ gW := gw_in 68 (by decide +kernel) (by decide +kernel)
theorem kS_yX10_grownOf : Cond.selects RX10 yX10_grownOf yX10_grownOf ∈ gW := gw_in 69 (by decide +kernel) (by decide +kernel)
theorem kS_yX10_startOf : Cond.selects RX10 yX10_startOf yX10_startOf ∈ gW := gw_in 70 (by decide +kernel) (by decide +kernel)
theorem kS_yX10_isRope : Cond.selects RX10 yX10_isRope yX10_isRope ∈ gW := gw_in 71 (by decide +kernel) (by decide +kernel)
theorem kS_yX10_layRopes : Cond.selects RX10 yX10_layRopes yX10_layRopes ∈ gW := gw_in 72 (by decide +kernel) (by decide +kernel)
theorem kS_yX10_mayBe : Cond.selects RX10 yX10_mayBe yX10_mayBe ∈ gW := gw_in 73 (by decide +kernel) (by decide +kernel)
theorem kS_yX10_friendRows : Cond.selects RX10 yX10_friendRows yX10_friendRows ∈ gW := gw_in 74 (by decide +kernel) (by decide +kernel)
theorem kS_yX10_layWeek : Cond.selects RX10 yX10_layWeek yX10_layWeek ∈ gW := gw_in 75 (by decide +kernel) (by decide +kernel)
theorem kS_yX10_mayHelp : Cond.selects RX10 yX10_mayHelp yX10_mayHelp ∈ gW := gw_in 76 (by decide +kernel) (by decide +kernel)
theorem kS_yX10_mostDays : Cond.selects RX10 yX10_mostDays yX10_mostDays ∈ gW := gw_in 77 (by decide +kernel) (by decide +kernel)
theorem kS_yX10_begins : Cond.selects RX10 yX10_begins yX10_begins ∈ gW := gw_in 78 (by decide +kernel) (by decide +kernel)
theorem kS_yX10_crossingRoads : Cond.selects RX10 yX10_crossingRoads yX10_crossingRoads ∈ gW := gw_in 79 (by decide +kernel) (by decide +kernel)
theorem kS_yX10_pairsOf : Cond.selects RX10 yX10_pairsOf yX10_pairsOf ∈ gW := gw_in 80 (by decide +kernel) (by decide +kernel)
theorem kN_RL : Cond.initialized "WalkingBusLaw" ∈ gW := gw_in 81 (by decide +kernel) (by decide +kernel)
theorem kN_RX9 : Cond.initialized "WalkingBus" ∈ gW := gw_in 82 (by decide +kernel) (by decide +kernel)
theorem kN_RX4 : Cond.initialized "WalkingBus$Reader" ∈ gW := gw_in 83 (by decide +kernel) (by decide +kernel)
theorem kN_RX7 : Cond.initialized "WalkingBus$Streets" ∈ gW := gw_in 84 (by decide +kernel) (by decide +kernel)
theorem kN_RX2 : Cond.initialized "WalkingBus$Line" ∈ gW := gw_in 85 (by decide +kernel) (by decide +kernel)
theorem kN_RX1 : Cond.initialized "WalkingBus$Gates" ∈ gW := gw_in 86 (by decide +kernel) (by decide +kernel)
theorem kN_RX3 : Cond.initialized "WalkingBus$Minutes" ∈ gW := gw_in 87 (by decide +kernel) (by decide +kernel)
theorem kN_RX5 : Cond.initialized "WalkingBus$Rope" ∈ gW := gw_in 88 (by decide +kernel) (by decide +kernel)
theorem kN_RX8 : Cond.initialized "WalkingBus$Week" ∈ gW := gw_in 89 (by decide +kernel) (by decide +kernel)
theorem kN_RX6 : Cond.initialized "WalkingBus$Sheet" ∈ gW := gw_in 90 (by decide +kernel) (by decide +kernel)
theorem kN_RX0 : Cond.initialized "WalkingBus$Child" ∈ gW := gw_in 91 (by decide +kernel) (by decide +kernel)
theorem kN_RX10 : Cond.initialized "WalkingBusModel" ∈ gW := gw_in 92 (by decide +kernel) (by decide +kernel)
theorem kN_RJ9 : Cond.initialized "java/lang/Math" ∈ gW := gw_in 93 (by decide +kernel) (by decide +kernel)
theorem kN_RJ6 : Cond.initialized "java/lang/Integer" ∈ gW := gw_in 94 (by decide +kernel) (by decide +kernel)
theorem kN_RJ10 : Cond.initialized "java/lang/System" ∈ gW := gw_in 95 (by decide +kernel) (by decide +kernel)
theorem kL_RL_7 : Cond.classLink RL 7 "WalkingBus" ∈ gW := gw_in 96 (by decide +kernel) (by decide +kernel)
theorem kA_RX9 : Cond.instantiable "WalkingBus" 17 ∈ gW := gw_in 97 (by decide +kernel) (by decide +kernel)
theorem kM_RL_9 : Cond.methodLink RL 9 yX9_init ∈ gW := gw_in 98 (by decide +kernel) (by decide +kernel)
theorem kI_yX9_init : Cond.instanceMethod yX9_init ∈ gW := gw_in 99 (by decide +kernel) (by decide +kernel)
theorem kC_yX9_init : Cond.code yX9_init prog_1_method_1_code 2 none ∈ gW := gw_in 100 (by decide +kernel) (by decide +kernel)
theorem kM_RX9_5 : Cond.methodLink RX9 5 objectInit ∈ gW := gw_in 101 (by decide +kernel) (by decide +kernel)
theorem kI_objectInit : Cond.instanceMethod objectInit ∈ gW := gw_in 102 (by decide +kernel) (by decide +kernel)
theorem kC_objectInit : Cond.code objectInit object_method_1_code 1 none ∈ gW := gw_in 103 (by decide +kernel) (by decide +kernel)
theorem kL_RX9_11 : Cond.classLink RX9 11 "WalkingBus$Sheet" ∈ gW := gw_in 104 (by decide +kernel) (by decide +kernel)
theorem kL_RX9_17 : Cond.classLink RX9 17 "WalkingBus$Reader" ∈ gW := gw_in 106 (by decide +kernel) (by decide +kernel)
theorem kA_RX4 : Cond.instantiable "WalkingBus$Reader" 3 ∈ gW := gw_in 107 (by decide +kernel) (by decide +kernel)
theorem kI_yX4_init : Cond.instanceMethod yX4_init ∈ gW := gw_in 109 (by decide +kernel) (by decide +kernel)
theorem kC_yX4_init : Cond.code yX4_init prog_6_method_1_code 1 none ∈ gW := gw_in 110 (by decide +kernel) (by decide +kernel)
theorem kM_RX4_3 : Cond.methodLink RX4 3 objectInit ∈ gW := gw_in 111 (by decide +kernel) (by decide +kernel)
theorem kF_RX4_9 : Cond.fieldLink RX4 9 "WalkingBus$Reader" "codes" "[I" ∈ gW := gw_in 112 (by decide +kernel) (by decide +kernel)
theorem kF_RX4_15 : Cond.fieldLink RX4 15 "WalkingBus$Reader" "count" "I" ∈ gW := gw_in 113 (by decide +kernel) (by decide +kernel)
theorem kF_RX4_19 : Cond.fieldLink RX4 19 "WalkingBus$Reader" "at" "I" ∈ gW := gw_in 114 (by decide +kernel) (by decide +kernel)
theorem kR_int : Cond.arrayClass .int ∈ gW := gw_in 122 (by decide +kernel) (by decide +kernel)
theorem kL_RX9_24 : Cond.classLink RX9 24 "WalkingBus$Streets" ∈ gW := gw_in 123 (by decide +kernel) (by decide +kernel)
theorem kA_RX7 : Cond.instantiable "WalkingBus$Streets" 10 ∈ gW := gw_in 124 (by decide +kernel) (by decide +kernel)
theorem kI_yX7_init : Cond.instanceMethod yX7_init ∈ gW := gw_in 126 (by decide +kernel) (by decide +kernel)
theorem kC_yX7_init : Cond.code yX7_init prog_9_method_1_code 1 none ∈ gW := gw_in 127 (by decide +kernel) (by decide +kernel)
theorem kM_RX7_3 : Cond.methodLink RX7 3 objectInit ∈ gW := gw_in 128 (by decide +kernel) (by decide +kernel)
theorem kL_RX7_37 : Cond.classLink RX7 37 "[[I" ∈ gW := gw_in 129 (by decide +kernel) (by decide +kernel)
theorem kF_RX7_9 : Cond.fieldLink RX7 9 "WalkingBus$Streets" "corners" "I" ∈ gW := gw_in 131 (by decide +kernel) (by decide +kernel)
theorem kF_RX7_15 : Cond.fieldLink RX7 15 "WalkingBus$Streets" "roads" "I" ∈ gW := gw_in 134 (by decide +kernel) (by decide +kernel)
theorem kF_RX7_18 : Cond.fieldLink RX7 18 "WalkingBus$Streets" "school" "I" ∈ gW := gw_in 136 (by decide +kernel) (by decide +kernel)
theorem kF_RX7_21 : Cond.fieldLink RX7 21 "WalkingBus$Streets" "from" "[I" ∈ gW := gw_in 139 (by decide +kernel) (by decide +kernel)
theorem kF_RX7_25 : Cond.fieldLink RX7 25 "WalkingBus$Streets" "to" "[I" ∈ gW := gw_in 141 (by decide +kernel) (by decide +kernel)
theorem kF_RX7_28 : Cond.fieldLink RX7 28 "WalkingBus$Streets" "length" "[I" ∈ gW := gw_in 143 (by decide +kernel) (by decide +kernel)
theorem kF_RX7_31 : Cond.fieldLink RX7 31 "WalkingBus$Streets" "odds" "[I" ∈ gW := gw_in 146 (by decide +kernel) (by decide +kernel)
theorem kF_RX7_34 : Cond.fieldLink RX7 34 "WalkingBus$Streets" "shut" "[I" ∈ gW := gw_in 149 (by decide +kernel) (by decide +kernel)
theorem kF_RX7_39 : Cond.fieldLink RX7 39 "WalkingBus$Streets" "cost" "[[I" ∈ gW := gw_in 152 (by decide +kernel) (by decide +kernel)
theorem kF_RX7_42 : Cond.fieldLink RX7 42 "WalkingBus$Streets" "firstRoad" "[[I" ∈ gW := gw_in 153 (by decide +kernel) (by decide +kernel)
theorem kL_RX9_34 : Cond.classLink RX9 34 "WalkingBus$Child" ∈ gW := gw_in 176 (by decide +kernel) (by decide +kernel)
theorem kL_RX9_44 : Cond.classLink RX9 44 "WalkingBus$Line" ∈ gW := gw_in 178 (by decide +kernel) (by decide +kernel)
theorem kA_RX2 : Cond.instantiable "WalkingBus$Line" 3 ∈ gW := gw_in 179 (by decide +kernel) (by decide +kernel)
theorem kI_yX2_init : Cond.instanceMethod yX2_init ∈ gW := gw_in 181 (by decide +kernel) (by decide +kernel)
theorem kC_yX2_init : Cond.code yX2_init prog_4_method_1_code 1 none ∈ gW := gw_in 182 (by decide +kernel) (by decide +kernel)
theorem kM_RX2_3 : Cond.methodLink RX2 3 objectInit ∈ gW := gw_in 183 (by decide +kernel) (by decide +kernel)
theorem kL_RX2_9 : Cond.classLink RX2 9 "WalkingBus$Gates" ∈ gW := gw_in 184 (by decide +kernel) (by decide +kernel)
theorem kA_RX1 : Cond.instantiable "WalkingBus$Gates" 4 ∈ gW := gw_in 185 (by decide +kernel) (by decide +kernel)
theorem kI_yX1_init : Cond.instanceMethod yX1_init ∈ gW := gw_in 187 (by decide +kernel) (by decide +kernel)
theorem kC_yX1_init : Cond.code yX1_init prog_3_method_1_code 1 none ∈ gW := gw_in 188 (by decide +kernel) (by decide +kernel)
theorem kM_RX1_3 : Cond.methodLink RX1 3 objectInit ∈ gW := gw_in 189 (by decide +kernel) (by decide +kernel)
theorem kF_RX1_9 : Cond.fieldLink RX1 9 "WalkingBus$Gates" "count" "I" ∈ gW := gw_in 190 (by decide +kernel) (by decide +kernel)
theorem kF_RX1_15 : Cond.fieldLink RX1 15 "WalkingBus$Gates" "order" "[I" ∈ gW := gw_in 193 (by decide +kernel) (by decide +kernel)
theorem kF_RX1_19 : Cond.fieldLink RX1 19 "WalkingBus$Gates" "readyAt" "[I" ∈ gW := gw_in 195 (by decide +kernel) (by decide +kernel)
theorem kF_RX1_22 : Cond.fieldLink RX1 22 "WalkingBus$Gates" "pace" "[I" ∈ gW := gw_in 197 (by decide +kernel) (by decide +kernel)
theorem kL_RX2_18 : Cond.classLink RX2 18 "WalkingBus$Minutes" ∈ gW := gw_in 208 (by decide +kernel) (by decide +kernel)
theorem kA_RX3 : Cond.instantiable "WalkingBus$Minutes" 4 ∈ gW := gw_in 209 (by decide +kernel) (by decide +kernel)
theorem kI_yX3_init : Cond.instanceMethod yX3_init ∈ gW := gw_in 211 (by decide +kernel) (by decide +kernel)
theorem kC_yX3_init : Cond.code yX3_init prog_5_method_1_code 1 none ∈ gW := gw_in 212 (by decide +kernel) (by decide +kernel)
theorem kM_RX3_3 : Cond.methodLink RX3 3 objectInit ∈ gW := gw_in 213 (by decide +kernel) (by decide +kernel)
theorem kF_RX3_11 : Cond.fieldLink RX3 11 "WalkingBus$Minutes" "casesAt" "[J" ∈ gW := gw_in 214 (by decide +kernel) (by decide +kernel)
theorem kF_RX3_15 : Cond.fieldLink RX3 15 "WalkingBus$Minutes" "earliest" "I" ∈ gW := gw_in 215 (by decide +kernel) (by decide +kernel)
theorem kF_RX3_19 : Cond.fieldLink RX3 19 "WalkingBus$Minutes" "spread" "I" ∈ gW := gw_in 216 (by decide +kernel) (by decide +kernel)
theorem kF_RX3_22 : Cond.fieldLink RX3 22 "WalkingBus$Minutes" "cases" "J" ∈ gW := gw_in 217 (by decide +kernel) (by decide +kernel)
theorem kR_long : Cond.arrayClass .long ∈ gW := gw_in 229 (by decide +kernel) (by decide +kernel)
theorem kF_RX2_12 : Cond.fieldLink RX2 12 "WalkingBus$Line" "gates" "LWalkingBus$Gates;" ∈ gW := gw_in 230 (by decide +kernel) (by decide +kernel)
theorem kF_RX2_21 : Cond.fieldLink RX2 21 "WalkingBus$Line" "minutes" "LWalkingBus$Minutes;" ∈ gW := gw_in 232 (by decide +kernel) (by decide +kernel)
theorem kF_RX2_25 : Cond.fieldLink RX2 25 "WalkingBus$Line" "bestOrder" "[I" ∈ gW := gw_in 234 (by decide +kernel) (by decide +kernel)
theorem kL_RX9_51 : Cond.classLink RX9 51 "WalkingBus$Rope" ∈ gW := gw_in 243 (by decide +kernel) (by decide +kernel)
theorem kA_RX5 : Cond.instantiable "WalkingBus$Rope" 11 ∈ gW := gw_in 244 (by decide +kernel) (by decide +kernel)
theorem kI_yX5_init : Cond.instanceMethod yX5_init ∈ gW := gw_in 246 (by decide +kernel) (by decide +kernel)
theorem kC_yX5_init : Cond.code yX5_init prog_7_method_1_code 1 none ∈ gW := gw_in 247 (by decide +kernel) (by decide +kernel)
theorem kM_RX5_3 : Cond.methodLink RX5 3 objectInit ∈ gW := gw_in 248 (by decide +kernel) (by decide +kernel)
theorem kF_RX5_9 : Cond.fieldLink RX5 9 "WalkingBus$Rope" "friends" "[I" ∈ gW := gw_in 249 (by decide +kernel) (by decide +kernel)
theorem kF_RX5_15 : Cond.fieldLink RX5 15 "WalkingBus$Rope" "quarrels" "[I" ∈ gW := gw_in 250 (by decide +kernel) (by decide +kernel)
theorem kF_RX5_18 : Cond.fieldLink RX5 18 "WalkingBus$Rope" "loopOf" "[I" ∈ gW := gw_in 251 (by decide +kernel) (by decide +kernel)
theorem kF_RX5_21 : Cond.fieldLink RX5 21 "WalkingBus$Rope" "bestLoops" "[I" ∈ gW := gw_in 252 (by decide +kernel) (by decide +kernel)
theorem kF_RX5_24 : Cond.fieldLink RX5 24 "WalkingBus$Rope" "isCounting" "Z" ∈ gW := gw_in 254 (by decide +kernel) (by decide +kernel)
theorem kF_RX5_28 : Cond.fieldLink RX5 28 "WalkingBus$Rope" "loops" "I" ∈ gW := gw_in 255 (by decide +kernel) (by decide +kernel)
theorem kF_RX5_32 : Cond.fieldLink RX5 32 "WalkingBus$Rope" "emptyLoop" "I" ∈ gW := gw_in 257 (by decide +kernel) (by decide +kernel)
theorem kF_RX5_35 : Cond.fieldLink RX5 35 "WalkingBus$Rope" "oldEnough" "I" ∈ gW := gw_in 258 (by decide +kernel) (by decide +kernel)
theorem kF_RX5_38 : Cond.fieldLink RX5 38 "WalkingBus$Rope" "withFriends" "I" ∈ gW := gw_in 259 (by decide +kernel) (by decide +kernel)
theorem kF_RX5_41 : Cond.fieldLink RX5 41 "WalkingBus$Rope" "found" "I" ∈ gW := gw_in 260 (by decide +kernel) (by decide +kernel)
theorem kF_RX5_44 : Cond.fieldLink RX5 44 "WalkingBus$Rope" "mostFriends" "I" ∈ gW := gw_in 262 (by decide +kernel) (by decide +kernel)
theorem kL_RX9_68 : Cond.classLink RX9 68 "WalkingBus$Week" ∈ gW := gw_in 287 (by decide +kernel) (by decide +kernel)
theorem kA_RX8 : Cond.instantiable "WalkingBus$Week" 6 ∈ gW := gw_in 288 (by decide +kernel) (by decide +kernel)
theorem kI_yX8_init : Cond.instanceMethod yX8_init ∈ gW := gw_in 290 (by decide +kernel) (by decide +kernel)
theorem kC_yX8_init : Cond.code yX8_init prog_10_method_1_code 1 none ∈ gW := gw_in 291 (by decide +kernel) (by decide +kernel)
theorem kM_RX8_3 : Cond.methodLink RX8 3 objectInit ∈ gW := gw_in 292 (by decide +kernel) (by decide +kernel)
theorem kF_RX8_9 : Cond.fieldLink RX8 9 "WalkingBus$Week" "able" "[I" ∈ gW := gw_in 293 (by decide +kernel) (by decide +kernel)
theorem kF_RX8_15 : Cond.fieldLink RX8 15 "WalkingBus$Week" "daysOf" "[I" ∈ gW := gw_in 294 (by decide +kernel) (by decide +kernel)
theorem kF_RX8_18 : Cond.fieldLink RX8 18 "WalkingBus$Week" "sets" "[I" ∈ gW := gw_in 295 (by decide +kernel) (by decide +kernel)
theorem kF_RX8_21 : Cond.fieldLink RX8 21 "WalkingBus$Week" "need" "I" ∈ gW := gw_in 297 (by decide +kernel) (by decide +kernel)
theorem kF_RX8_25 : Cond.fieldLink RX8 25 "WalkingBus$Week" "most" "I" ∈ gW := gw_in 298 (by decide +kernel) (by decide +kernel)
theorem kF_RX8_28 : Cond.fieldLink RX8 28 "WalkingBus$Week" "mostDays" "I" ∈ gW := gw_in 299 (by decide +kernel) (by decide +kernel)
theorem kA_RX6 : Cond.instantiable "WalkingBus$Sheet" 4 ∈ gW := gw_in 314 (by decide +kernel) (by decide +kernel)
theorem kI_yX6_init : Cond.instanceMethod yX6_init ∈ gW := gw_in 316 (by decide +kernel) (by decide +kernel)
theorem kC_yX6_init : Cond.code yX6_init prog_8_method_1_code 1 none ∈ gW := gw_in 317 (by decide +kernel) (by decide +kernel)
theorem kM_RX6_3 : Cond.methodLink RX6 3 objectInit ∈ gW := gw_in 318 (by decide +kernel) (by decide +kernel)
theorem kF_RX6_9 : Cond.fieldLink RX6 9 "WalkingBus$Sheet" "isThere" "Z" ∈ gW := gw_in 319 (by decide +kernel) (by decide +kernel)
theorem kF_RX6_15 : Cond.fieldLink RX6 15 "WalkingBus$Sheet" "sort" "I" ∈ gW := gw_in 321 (by decide +kernel) (by decide +kernel)
theorem kF_RX6_19 : Cond.fieldLink RX6 19 "WalkingBus$Sheet" "count" "I" ∈ gW := gw_in 323 (by decide +kernel) (by decide +kernel)
theorem kF_RX6_22 : Cond.fieldLink RX6 22 "WalkingBus$Sheet" "cells" "[I" ∈ gW := gw_in 324 (by decide +kernel) (by decide +kernel)
theorem kA_RX0 : Cond.instantiable "WalkingBus$Child" 6 ∈ gW := gw_in 335 (by decide +kernel) (by decide +kernel)
theorem kI_yX0_init : Cond.instanceMethod yX0_init ∈ gW := gw_in 337 (by decide +kernel) (by decide +kernel)
theorem kC_yX0_init : Cond.code yX0_init prog_2_method_1_code 1 none ∈ gW := gw_in 338 (by decide +kernel) (by decide +kernel)
theorem kM_RX0_3 : Cond.methodLink RX0 3 objectInit ∈ gW := gw_in 339 (by decide +kernel) (by decide +kernel)
theorem kF_RX0_9 : Cond.fieldLink RX0 9 "WalkingBus$Child" "kind" "I" ∈ gW := gw_in 340 (by decide +kernel) (by decide +kernel)
theorem kF_RX0_15 : Cond.fieldLink RX0 15 "WalkingBus$Child" "corner" "I" ∈ gW := gw_in 342 (by decide +kernel) (by decide +kernel)
theorem kF_RX0_18 : Cond.fieldLink RX0 18 "WalkingBus$Child" "age" "I" ∈ gW := gw_in 345 (by decide +kernel) (by decide +kernel)
theorem kF_RX0_21 : Cond.fieldLink RX0 21 "WalkingBus$Child" "readyAt" "I" ∈ gW := gw_in 348 (by decide +kernel) (by decide +kernel)
theorem kF_RX0_24 : Cond.fieldLink RX0 24 "WalkingBus$Child" "friends" "I" ∈ gW := gw_in 351 (by decide +kernel) (by decide +kernel)
theorem kF_RX0_27 : Cond.fieldLink RX0 27 "WalkingBus$Child" "quarrels" "I" ∈ gW := gw_in 354 (by decide +kernel) (by decide +kernel)
theorem kF_RX9_13 : Cond.fieldLink RX9 13 "WalkingBus" "sheets" "[LWalkingBus$Sheet;" ∈ gW := gw_in 370 (by decide +kernel) (by decide +kernel)
theorem kF_RX9_20 : Cond.fieldLink RX9 20 "WalkingBus" "reader" "LWalkingBus$Reader;" ∈ gW := gw_in 371 (by decide +kernel) (by decide +kernel)
theorem kF_RX9_27 : Cond.fieldLink RX9 27 "WalkingBus" "town" "LWalkingBus$Streets;" ∈ gW := gw_in 372 (by decide +kernel) (by decide +kernel)
theorem kF_RX9_31 : Cond.fieldLink RX9 31 "WalkingBus" "spareTown" "LWalkingBus$Streets;" ∈ gW := gw_in 373 (by decide +kernel) (by decide +kernel)
theorem kF_RX9_36 : Cond.fieldLink RX9 36 "WalkingBus" "children" "[LWalkingBus$Child;" ∈ gW := gw_in 374 (by decide +kernel) (by decide +kernel)
theorem kF_RX9_40 : Cond.fieldLink RX9 40 "WalkingBus" "childCount" "I" ∈ gW := gw_in 375 (by decide +kernel) (by decide +kernel)
theorem kF_RX9_47 : Cond.fieldLink RX9 47 "WalkingBus" "line" "LWalkingBus$Line;" ∈ gW := gw_in 376 (by decide +kernel) (by decide +kernel)
theorem kF_RX9_54 : Cond.fieldLink RX9 54 "WalkingBus" "rope" "LWalkingBus$Rope;" ∈ gW := gw_in 377 (by decide +kernel) (by decide +kernel)
theorem kF_RX9_58 : Cond.fieldLink RX9 58 "WalkingBus" "hold" "I" ∈ gW := gw_in 378 (by decide +kernel) (by decide +kernel)
theorem kF_RX9_61 : Cond.fieldLink RX9 61 "WalkingBus" "helperDays" "[I" ∈ gW := gw_in 379 (by decide +kernel) (by decide +kernel)
theorem kF_RX9_65 : Cond.fieldLink RX9 65 "WalkingBus" "helperCount" "I" ∈ gW := gw_in 380 (by decide +kernel) (by decide +kernel)
theorem kF_RX9_71 : Cond.fieldLink RX9 71 "WalkingBus" "plan" "LWalkingBus$Week;" ∈ gW := gw_in 381 (by decide +kernel) (by decide +kernel)
theorem kF_RX9_75 : Cond.fieldLink RX9 75 "WalkingBus" "traced" "I" ∈ gW := gw_in 382 (by decide +kernel) (by decide +kernel)
theorem kF_RX9_78 : Cond.fieldLink RX9 78 "WalkingBus" "lastFault" "I" ∈ gW := gw_in 383 (by decide +kernel) (by decide +kernel)
theorem kF_RX9_81 : Cond.fieldLink RX9 81 "WalkingBus" "splitSet" "I" ∈ gW := gw_in 384 (by decide +kernel) (by decide +kernel)
theorem kF_RX9_84 : Cond.fieldLink RX9 84 "WalkingBus" "splitGrown" "I" ∈ gW := gw_in 385 (by decide +kernel) (by decide +kernel)
theorem kF_RX9_87 : Cond.fieldLink RX9 87 "WalkingBus" "splitStarts" "I" ∈ gW := gw_in 386 (by decide +kernel) (by decide +kernel)
theorem kM_RL_13 : Cond.methodLink RL 13 yX9_streets ∈ gW := gw_in 422 (by decide +kernel) (by decide +kernel)
theorem kI_yX9_streets : Cond.instanceMethod yX9_streets ∈ gW := gw_in 423 (by decide +kernel) (by decide +kernel)
theorem kS_yX9_streets : Cond.selects "WalkingBus" yX9_streets yX9_streets ∈ gW := gw_in 424 (by decide +kernel) (by decide +kernel)
theorem kC_yX9_streets : Cond.code yX9_streets prog_1_method_2_code 6 (some .int) ∈ gW := gw_in 425 (by decide +kernel) (by decide +kernel)
theorem kM_RX9_92 : Cond.methodLink RX9 92 yX9_isSheet ∈ gW := gw_in 426 (by decide +kernel) (by decide +kernel)
theorem kT_yX9_isSheet : Cond.static yX9_isSheet ∈ gW := gw_in 427 (by decide +kernel) (by decide +kernel)
theorem kC_yX9_isSheet : Cond.code yX9_isSheet prog_1_method_36_code 1 (some .boolean) ∈ gW := gw_in 428 (by decide +kernel) (by decide +kernel)
theorem kM_RX9_131 : Cond.methodLink RX9 131 yX9_isWithin ∈ gW := gw_in 429 (by decide +kernel) (by decide +kernel)
theorem kT_yX9_isWithin : Cond.static yX9_isWithin ∈ gW := gw_in 430 (by decide +kernel) (by decide +kernel)
theorem kC_yX9_isWithin : Cond.code yX9_isWithin prog_1_method_35_code 3 (some .boolean) ∈ gW := gw_in 431 (by decide +kernel) (by decide +kernel)
theorem kM_RX9_96 : Cond.methodLink RX9 96 yX9_isSort ∈ gW := gw_in 432 (by decide +kernel) (by decide +kernel)
theorem kT_yX9_isSort : Cond.static yX9_isSort ∈ gW := gw_in 433 (by decide +kernel) (by decide +kernel)
theorem kC_yX9_isSort : Cond.code yX9_isSort prog_1_method_37_code 1 (some .boolean) ∈ gW := gw_in 434 (by decide +kernel) (by decide +kernel)
theorem kM_RX9_99 : Cond.methodLink RX9 99 yX6_rowFault ∈ gW := gw_in 435 (by decide +kernel) (by decide +kernel)
theorem kI_yX6_rowFault : Cond.instanceMethod yX6_rowFault ∈ gW := gw_in 436 (by decide +kernel) (by decide +kernel)
theorem kS_yX6_rowFault : Cond.selects "WalkingBus$Sheet" yX6_rowFault yX6_rowFault ∈ gW := gw_in 437 (by decide +kernel) (by decide +kernel)
theorem kC_yX6_rowFault : Cond.code yX6_rowFault prog_8_method_4_code 4 (some .int) ∈ gW := gw_in 438 (by decide +kernel) (by decide +kernel)
theorem kM_RX6_35 : Cond.methodLink RX6 35 yX6_reaches ∈ gW := gw_in 439 (by decide +kernel) (by decide +kernel)
theorem kI_yX6_reaches : Cond.instanceMethod yX6_reaches ∈ gW := gw_in 440 (by decide +kernel) (by decide +kernel)
theorem kS_yX6_reaches : Cond.selects "WalkingBus$Sheet" yX6_reaches yX6_reaches ∈ gW := gw_in 441 (by decide +kernel) (by decide +kernel)
theorem kC_yX6_reaches : Cond.code yX6_reaches prog_8_method_3_code 3 (some .boolean) ∈ gW := gw_in 442 (by decide +kernel) (by decide +kernel)
theorem kM_RX9_103 : Cond.methodLink RX9 103 yX4_read ∈ gW := gw_in 443 (by decide +kernel) (by decide +kernel)
theorem kI_yX4_read : Cond.instanceMethod yX4_read ∈ gW := gw_in 444 (by decide +kernel) (by decide +kernel)
theorem kS_yX4_read : Cond.selects "WalkingBus$Reader" yX4_read yX4_read ∈ gW := gw_in 445 (by decide +kernel) (by decide +kernel)
theorem kC_yX4_read : Cond.code yX4_read prog_6_method_2_code 6 (some .int) ∈ gW := gw_in 446 (by decide +kernel) (by decide +kernel)
theorem kM_RX4_22 : Cond.methodLink RX4 22 Lib.Math.min.name ∈ gW := gw_in 447 (by decide +kernel) (by decide +kernel)
theorem kT_Lib_Math_min : Cond.static Lib.Math.min.name ∈ gW := gw_in 448 (by decide +kernel) (by decide +kernel)
theorem kC_Lib_Math_min : Cond.code Lib.Math.min.name prog_14_method_69_code 2 (some .int) ∈ gW := gw_in 449 (by decide +kernel) (by decide +kernel)
theorem kM_RX4_28 : Cond.methodLink RX4 28 yX6_at ∈ gW := gw_in 450 (by decide +kernel) (by decide +kernel)
theorem kI_yX6_at : Cond.instanceMethod yX6_at ∈ gW := gw_in 451 (by decide +kernel) (by decide +kernel)
theorem kS_yX6_at : Cond.selects "WalkingBus$Sheet" yX6_at yX6_at ∈ gW := gw_in 452 (by decide +kernel) (by decide +kernel)
theorem kC_yX6_at : Cond.code yX6_at prog_8_method_5_code 2 (some .int) ∈ gW := gw_in 453 (by decide +kernel) (by decide +kernel)
theorem kM_RX4_33 : Cond.methodLink RX4 33 yX4_take ∈ gW := gw_in 454 (by decide +kernel) (by decide +kernel)
theorem kI_yX4_take : Cond.instanceMethod yX4_take ∈ gW := gw_in 456 (by decide +kernel) (by decide +kernel)
theorem kC_yX4_take : Cond.code yX4_take prog_6_method_6_code 2 (some .boolean) ∈ gW := gw_in 457 (by decide +kernel) (by decide +kernel)
theorem kM_RX4_37 : Cond.methodLink RX4 37 yX4_isDigit ∈ gW := gw_in 458 (by decide +kernel) (by decide +kernel)
theorem kI_yX4_isDigit : Cond.instanceMethod yX4_isDigit ∈ gW := gw_in 460 (by decide +kernel) (by decide +kernel)
theorem kC_yX4_isDigit : Cond.code yX4_isDigit prog_6_method_7_code 3 (some .boolean) ∈ gW := gw_in 461 (by decide +kernel) (by decide +kernel)
theorem kM_RX4_41 : Cond.methodLink RX4 41 yX4_takeDigit ∈ gW := gw_in 463 (by decide +kernel) (by decide +kernel)
theorem kI_yX4_takeDigit : Cond.instanceMethod yX4_takeDigit ∈ gW := gw_in 465 (by decide +kernel) (by decide +kernel)
theorem kC_yX4_takeDigit : Cond.code yX4_takeDigit prog_6_method_8_code 1 (some .int) ∈ gW := gw_in 466 (by decide +kernel) (by decide +kernel)
theorem kM_RX4_45 : Cond.methodLink RX4 45 yX7_begin ∈ gW := gw_in 467 (by decide +kernel) (by decide +kernel)
theorem kI_yX7_begin : Cond.instanceMethod yX7_begin ∈ gW := gw_in 468 (by decide +kernel) (by decide +kernel)
theorem kS_yX7_begin : Cond.selects "WalkingBus$Streets" yX7_begin yX7_begin ∈ gW := gw_in 469 (by decide +kernel) (by decide +kernel)
theorem kC_yX7_begin : Cond.code yX7_begin prog_9_method_2_code 2 none ∈ gW := gw_in 470 (by decide +kernel) (by decide +kernel)
theorem kM_RX4_51 : Cond.methodLink RX4 51 yX4_readRoads ∈ gW := gw_in 471 (by decide +kernel) (by decide +kernel)
theorem kI_yX4_readRoads : Cond.instanceMethod yX4_readRoads ∈ gW := gw_in 473 (by decide +kernel) (by decide +kernel)
theorem kC_yX4_readRoads : Cond.code yX4_readRoads prog_6_method_3_code 4 (some .int) ∈ gW := gw_in 474 (by decide +kernel) (by decide +kernel)
theorem kM_RX4_55 : Cond.methodLink RX4 55 yX4_readSchool ∈ gW := gw_in 475 (by decide +kernel) (by decide +kernel)
theorem kI_yX4_readSchool : Cond.instanceMethod yX4_readSchool ∈ gW := gw_in 477 (by decide +kernel) (by decide +kernel)
theorem kC_yX4_readSchool : Cond.code yX4_readSchool prog_6_method_5_code 2 (some .int) ∈ gW := gw_in 478 (by decide +kernel) (by decide +kernel)
theorem kM_RX4_58 : Cond.methodLink RX4 58 yX4_readRoad ∈ gW := gw_in 479 (by decide +kernel) (by decide +kernel)
theorem kI_yX4_readRoad : Cond.instanceMethod yX4_readRoad ∈ gW := gw_in 481 (by decide +kernel) (by decide +kernel)
theorem kC_yX4_readRoad : Cond.code yX4_readRoad prog_6_method_4_code 7 (some .int) ∈ gW := gw_in 482 (by decide +kernel) (by decide +kernel)
theorem kM_RX4_64 : Cond.methodLink RX4 64 yX4_takeNumber ∈ gW := gw_in 483 (by decide +kernel) (by decide +kernel)
theorem kI_yX4_takeNumber : Cond.instanceMethod yX4_takeNumber ∈ gW := gw_in 485 (by decide +kernel) (by decide +kernel)
theorem kC_yX4_takeNumber : Cond.code yX4_takeNumber prog_6_method_9_code 2 (some .int) ∈ gW := gw_in 486 (by decide +kernel) (by decide +kernel)
theorem kM_RX4_71 : Cond.methodLink RX4 71 yX7_addRoad ∈ gW := gw_in 487 (by decide +kernel) (by decide +kernel)
theorem kI_yX7_addRoad : Cond.instanceMethod yX7_addRoad ∈ gW := gw_in 488 (by decide +kernel) (by decide +kernel)
theorem kS_yX7_addRoad : Cond.selects "WalkingBus$Streets" yX7_addRoad yX7_addRoad ∈ gW := gw_in 489 (by decide +kernel) (by decide +kernel)
theorem kC_yX7_addRoad : Cond.code yX7_addRoad prog_9_method_3_code 6 none ∈ gW := gw_in 490 (by decide +kernel) (by decide +kernel)
theorem kM_RX9_107 : Cond.methodLink RX9 107 yX9_moveToSpareTown ∈ gW := gw_in 491 (by decide +kernel) (by decide +kernel)
theorem kI_yX9_moveToSpareTown : Cond.instanceMethod yX9_moveToSpareTown ∈ gW := gw_in 493 (by decide +kernel) (by decide +kernel)
theorem kC_yX9_moveToSpareTown : Cond.code yX9_moveToSpareTown prog_1_method_47_code 2 none ∈ gW := gw_in 494 (by decide +kernel) (by decide +kernel)
theorem kM_RX9_358 : Cond.methodLink RX9 358 yX7_findWays ∈ gW := gw_in 495 (by decide +kernel) (by decide +kernel)
theorem kI_yX7_findWays : Cond.instanceMethod yX7_findWays ∈ gW := gw_in 496 (by decide +kernel) (by decide +kernel)
theorem kS_yX7_findWays : Cond.selects "WalkingBus$Streets" yX7_findWays yX7_findWays ∈ gW := gw_in 497 (by decide +kernel) (by decide +kernel)
theorem kC_yX7_findWays : Cond.code yX7_findWays prog_9_method_6_code 4 none ∈ gW := gw_in 498 (by decide +kernel) (by decide +kernel)
theorem kM_RX7_49 : Cond.methodLink RX7 49 yX7_setRoadCosts ∈ gW := gw_in 499 (by decide +kernel) (by decide +kernel)
theorem kI_yX7_setRoadCosts : Cond.instanceMethod yX7_setRoadCosts ∈ gW := gw_in 501 (by decide +kernel) (by decide +kernel)
theorem kC_yX7_setRoadCosts : Cond.code yX7_setRoadCosts prog_9_method_7_code 3 none ∈ gW := gw_in 502 (by decide +kernel) (by decide +kernel)
theorem kK_RX7_61 : Cond.constant RX7 61 (1048576) ∈ gW := gw_in 503 (by decide +kernel) (by decide +kernel)
theorem kM_RX7_62 : Cond.methodLink RX7 62 yX7_roadCost ∈ gW := gw_in 504 (by decide +kernel) (by decide +kernel)
theorem kI_yX7_roadCost : Cond.instanceMethod yX7_roadCost ∈ gW := gw_in 506 (by decide +kernel) (by decide +kernel)
theorem kC_yX7_roadCost : Cond.code yX7_roadCost prog_9_method_8_code 2 (some .int) ∈ gW := gw_in 507 (by decide +kernel) (by decide +kernel)
theorem kM_RX7_45 : Cond.methodLink RX7 45 yX7_isCrossing ∈ gW := gw_in 508 (by decide +kernel) (by decide +kernel)
theorem kI_yX7_isCrossing : Cond.instanceMethod yX7_isCrossing ∈ gW := gw_in 509 (by decide +kernel) (by decide +kernel)
theorem kS_yX7_isCrossing : Cond.selects "WalkingBus$Streets" yX7_isCrossing yX7_isCrossing ∈ gW := gw_in 510 (by decide +kernel) (by decide +kernel)
theorem kC_yX7_isCrossing : Cond.code yX7_isCrossing prog_9_method_5_code 2 (some .boolean) ∈ gW := gw_in 511 (by decide +kernel) (by decide +kernel)
theorem kM_RX7_52 : Cond.methodLink RX7 52 Lib.Math.min.name ∈ gW := gw_in 512 (by decide +kernel) (by decide +kernel)
theorem kM_RX7_58 : Cond.methodLink RX7 58 yX7_firstRoadOfWay ∈ gW := gw_in 513 (by decide +kernel) (by decide +kernel)
theorem kI_yX7_firstRoadOfWay : Cond.instanceMethod yX7_firstRoadOfWay ∈ gW := gw_in 515 (by decide +kernel) (by decide +kernel)
theorem kC_yX7_firstRoadOfWay : Cond.code yX7_firstRoadOfWay prog_9_method_9_code 4 (some .int) ∈ gW := gw_in 516 (by decide +kernel) (by decide +kernel)
theorem kM_RX7_66 : Cond.methodLink RX7 66 yX7_hasWay ∈ gW := gw_in 517 (by decide +kernel) (by decide +kernel)
theorem kI_yX7_hasWay : Cond.instanceMethod yX7_hasWay ∈ gW := gw_in 518 (by decide +kernel) (by decide +kernel)
theorem kS_yX7_hasWay : Cond.selects "WalkingBus$Streets" yX7_hasWay yX7_hasWay ∈ gW := gw_in 519 (by decide +kernel) (by decide +kernel)
theorem kC_yX7_hasWay : Cond.code yX7_hasWay prog_9_method_11_code 3 (some .boolean) ∈ gW := gw_in 520 (by decide +kernel) (by decide +kernel)
theorem kM_RX7_70 : Cond.methodLink RX7 70 yX7_otherEnd ∈ gW := gw_in 521 (by decide +kernel) (by decide +kernel)
theorem kI_yX7_otherEnd : Cond.instanceMethod yX7_otherEnd ∈ gW := gw_in 522 (by decide +kernel) (by decide +kernel)
theorem kS_yX7_otherEnd : Cond.selects "WalkingBus$Streets" yX7_otherEnd yX7_otherEnd ∈ gW := gw_in 523 (by decide +kernel) (by decide +kernel)
theorem kC_yX7_otherEnd : Cond.code yX7_otherEnd prog_9_method_10_code 3 (some .int) ∈ gW := gw_in 524 (by decide +kernel) (by decide +kernel)
theorem kM_RL_18 : Cond.methodLink RL 18 yX9_ofRoad ∈ gW := gw_in 525 (by decide +kernel) (by decide +kernel)
theorem kI_yX9_ofRoad : Cond.instanceMethod yX9_ofRoad ∈ gW := gw_in 526 (by decide +kernel) (by decide +kernel)
theorem kS_yX9_ofRoad : Cond.selects "WalkingBus" yX9_ofRoad yX9_ofRoad ∈ gW := gw_in 527 (by decide +kernel) (by decide +kernel)
theorem kC_yX9_ofRoad : Cond.code yX9_ofRoad prog_1_method_3_code 3 (some .int) ∈ gW := gw_in 528 (by decide +kernel) (by decide +kernel)
theorem kM_RL_23 : Cond.methodLink RL 23 yX9_way ∈ gW := gw_in 529 (by decide +kernel) (by decide +kernel)
theorem kI_yX9_way : Cond.instanceMethod yX9_way ∈ gW := gw_in 530 (by decide +kernel) (by decide +kernel)
theorem kS_yX9_way : Cond.selects "WalkingBus" yX9_way yX9_way ∈ gW := gw_in 531 (by decide +kernel) (by decide +kernel)
theorem kC_yX9_way : Cond.code yX9_way prog_1_method_4_code 4 (some .int) ∈ gW := gw_in 532 (by decide +kernel) (by decide +kernel)
theorem kM_RX9_128 : Cond.methodLink RX9 128 yX9_isCorner ∈ gW := gw_in 533 (by decide +kernel) (by decide +kernel)
theorem kI_yX9_isCorner : Cond.instanceMethod yX9_isCorner ∈ gW := gw_in 535 (by decide +kernel) (by decide +kernel)
theorem kC_yX9_isCorner : Cond.code yX9_isCorner prog_1_method_41_code 2 (some .boolean) ∈ gW := gw_in 536 (by decide +kernel) (by decide +kernel)
theorem kM_RX9_135 : Cond.methodLink RX9 135 yX7_hasWay ∈ gW := gw_in 537 (by decide +kernel) (by decide +kernel)
theorem kM_RX9_139 : Cond.methodLink RX9 139 yX7_lengthOfWay ∈ gW := gw_in 538 (by decide +kernel) (by decide +kernel)
theorem kI_yX7_lengthOfWay : Cond.instanceMethod yX7_lengthOfWay ∈ gW := gw_in 539 (by decide +kernel) (by decide +kernel)
theorem kS_yX7_lengthOfWay : Cond.selects "WalkingBus$Streets" yX7_lengthOfWay yX7_lengthOfWay ∈ gW := gw_in 540 (by decide +kernel) (by decide +kernel)
theorem kC_yX7_lengthOfWay : Cond.code yX7_lengthOfWay prog_9_method_12_code 3 (some .int) ∈ gW := gw_in 541 (by decide +kernel) (by decide +kernel)
theorem kM_RX9_143 : Cond.methodLink RX9 143 yX7_crossingsOfWay ∈ gW := gw_in 542 (by decide +kernel) (by decide +kernel)
theorem kI_yX7_crossingsOfWay : Cond.instanceMethod yX7_crossingsOfWay ∈ gW := gw_in 543 (by decide +kernel) (by decide +kernel)
theorem kS_yX7_crossingsOfWay : Cond.selects "WalkingBus$Streets" yX7_crossingsOfWay yX7_crossingsOfWay ∈ gW := gw_in 544 (by decide +kernel) (by decide +kernel)
theorem kC_yX7_crossingsOfWay : Cond.code yX7_crossingsOfWay prog_9_method_13_code 3 (some .int) ∈ gW := gw_in 545 (by decide +kernel) (by decide +kernel)
theorem kM_RX9_146 : Cond.methodLink RX9 146 yX7_roadsOfWay ∈ gW := gw_in 546 (by decide +kernel) (by decide +kernel)
theorem kI_yX7_roadsOfWay : Cond.instanceMethod yX7_roadsOfWay ∈ gW := gw_in 547 (by decide +kernel) (by decide +kernel)
theorem kS_yX7_roadsOfWay : Cond.selects "WalkingBus$Streets" yX7_roadsOfWay yX7_roadsOfWay ∈ gW := gw_in 548 (by decide +kernel) (by decide +kernel)
theorem kC_yX7_roadsOfWay : Cond.code yX7_roadsOfWay prog_9_method_14_code 6 (some .int) ∈ gW := gw_in 549 (by decide +kernel) (by decide +kernel)
theorem kM_RL_28 : Cond.methodLink RL 28 yX9_along ∈ gW := gw_in 550 (by decide +kernel) (by decide +kernel)
theorem kI_yX9_along : Cond.instanceMethod yX9_along ∈ gW := gw_in 551 (by decide +kernel) (by decide +kernel)
theorem kS_yX9_along : Cond.selects "WalkingBus" yX9_along yX9_along ∈ gW := gw_in 552 (by decide +kernel) (by decide +kernel)
theorem kC_yX9_along : Cond.code yX9_along prog_1_method_5_code 4 (some .int) ∈ gW := gw_in 553 (by decide +kernel) (by decide +kernel)
theorem kM_RX9_149 : Cond.methodLink RX9 149 yX7_roadOfWay ∈ gW := gw_in 554 (by decide +kernel) (by decide +kernel)
theorem kI_yX7_roadOfWay : Cond.instanceMethod yX7_roadOfWay ∈ gW := gw_in 555 (by decide +kernel) (by decide +kernel)
theorem kS_yX7_roadOfWay : Cond.selects "WalkingBus$Streets" yX7_roadOfWay yX7_roadOfWay ∈ gW := gw_in 556 (by decide +kernel) (by decide +kernel)
theorem kC_yX7_roadOfWay : Cond.code yX7_roadOfWay prog_9_method_15_code 6 (some .int) ∈ gW := gw_in 557 (by decide +kernel) (by decide +kernel)
theorem kM_RL_32 : Cond.methodLink RL 32 yX9_child ∈ gW := gw_in 558 (by decide +kernel) (by decide +kernel)
theorem kI_yX9_child : Cond.instanceMethod yX9_child ∈ gW := gw_in 559 (by decide +kernel) (by decide +kernel)
theorem kS_yX9_child : Cond.selects "WalkingBus" yX9_child yX9_child ∈ gW := gw_in 560 (by decide +kernel) (by decide +kernel)
theorem kC_yX9_child : Cond.code yX9_child prog_1_method_6_code 5 (some .int) ∈ gW := gw_in 561 (by decide +kernel) (by decide +kernel)
theorem kM_RX9_152 : Cond.methodLink RX9 152 yX9_isKind ∈ gW := gw_in 562 (by decide +kernel) (by decide +kernel)
theorem kT_yX9_isKind : Cond.static yX9_isKind ∈ gW := gw_in 563 (by decide +kernel) (by decide +kernel)
theorem kC_yX9_isKind : Cond.code yX9_isKind prog_1_method_38_code 1 (some .boolean) ∈ gW := gw_in 564 (by decide +kernel) (by decide +kernel)
theorem kM_RX9_155 : Cond.methodLink RX9 155 yX9_isAge ∈ gW := gw_in 565 (by decide +kernel) (by decide +kernel)
theorem kT_yX9_isAge : Cond.static yX9_isAge ∈ gW := gw_in 566 (by decide +kernel) (by decide +kernel)
theorem kC_yX9_isAge : Cond.code yX9_isAge prog_1_method_39_code 1 (some .boolean) ∈ gW := gw_in 567 (by decide +kernel) (by decide +kernel)
theorem kM_RX9_158 : Cond.methodLink RX9 158 yX0_become ∈ gW := gw_in 568 (by decide +kernel) (by decide +kernel)
theorem kI_yX0_become : Cond.instanceMethod yX0_become ∈ gW := gw_in 569 (by decide +kernel) (by decide +kernel)
theorem kS_yX0_become : Cond.selects "WalkingBus$Child" yX0_become yX0_become ∈ gW := gw_in 570 (by decide +kernel) (by decide +kernel)
theorem kC_yX0_become : Cond.code yX0_become prog_2_method_2_code 5 none ∈ gW := gw_in 571 (by decide +kernel) (by decide +kernel)
theorem kM_RL_36 : Cond.methodLink RL 36 yX9_ofChild ∈ gW := gw_in 572 (by decide +kernel) (by decide +kernel)
theorem kI_yX9_ofChild : Cond.instanceMethod yX9_ofChild ∈ gW := gw_in 573 (by decide +kernel) (by decide +kernel)
theorem kS_yX9_ofChild : Cond.selects "WalkingBus" yX9_ofChild yX9_ofChild ∈ gW := gw_in 574 (by decide +kernel) (by decide +kernel)
theorem kC_yX9_ofChild : Cond.code yX9_ofChild prog_1_method_7_code 4 (some .int) ∈ gW := gw_in 575 (by decide +kernel) (by decide +kernel)
theorem kM_RX9_162 : Cond.methodLink RX9 162 yX9_isChild ∈ gW := gw_in 576 (by decide +kernel) (by decide +kernel)
theorem kI_yX9_isChild : Cond.instanceMethod yX9_isChild ∈ gW := gw_in 578 (by decide +kernel) (by decide +kernel)
theorem kC_yX9_isChild : Cond.code yX9_isChild prog_1_method_42_code 2 (some .boolean) ∈ gW := gw_in 579 (by decide +kernel) (by decide +kernel)
theorem kM_RX9_177 : Cond.methodLink RX9 177 yX0_pace ∈ gW := gw_in 580 (by decide +kernel) (by decide +kernel)
theorem kI_yX0_pace : Cond.instanceMethod yX0_pace ∈ gW := gw_in 581 (by decide +kernel) (by decide +kernel)
theorem kS_yX0_pace : Cond.selects "WalkingBus$Child" yX0_pace yX0_pace ∈ gW := gw_in 582 (by decide +kernel) (by decide +kernel)
theorem kC_yX0_pace : Cond.code yX0_pace prog_2_method_3_code 2 (some .int) ∈ gW := gw_in 583 (by decide +kernel) (by decide +kernel)
theorem kM_RX9_181 : Cond.methodLink RX9 181 yX0_heads ∈ gW := gw_in 584 (by decide +kernel) (by decide +kernel)
theorem kI_yX0_heads : Cond.instanceMethod yX0_heads ∈ gW := gw_in 585 (by decide +kernel) (by decide +kernel)
theorem kS_yX0_heads : Cond.selects "WalkingBus$Child" yX0_heads yX0_heads ∈ gW := gw_in 586 (by decide +kernel) (by decide +kernel)
theorem kC_yX0_heads : Cond.code yX0_heads prog_2_method_4_code 1 (some .int) ∈ gW := gw_in 587 (by decide +kernel) (by decide +kernel)
theorem kM_RL_40 : Cond.methodLink RL 40 yX9_ready ∈ gW := gw_in 588 (by decide +kernel) (by decide +kernel)
theorem kI_yX9_ready : Cond.instanceMethod yX9_ready ∈ gW := gw_in 589 (by decide +kernel) (by decide +kernel)
theorem kS_yX9_ready : Cond.selects "WalkingBus" yX9_ready yX9_ready ∈ gW := gw_in 590 (by decide +kernel) (by decide +kernel)
theorem kC_yX9_ready : Cond.code yX9_ready prog_1_method_8_code 4 (some .int) ∈ gW := gw_in 591 (by decide +kernel) (by decide +kernel)
theorem kM_RL_44 : Cond.methodLink RL 44 yX9_tie ∈ gW := gw_in 592 (by decide +kernel) (by decide +kernel)
theorem kI_yX9_tie : Cond.instanceMethod yX9_tie ∈ gW := gw_in 593 (by decide +kernel) (by decide +kernel)
theorem kS_yX9_tie : Cond.selects "WalkingBus" yX9_tie yX9_tie ∈ gW := gw_in 594 (by decide +kernel) (by decide +kernel)
theorem kC_yX9_tie : Cond.code yX9_tie prog_1_method_9_code 5 (some .int) ∈ gW := gw_in 595 (by decide +kernel) (by decide +kernel)
theorem kM_RX9_190 : Cond.methodLink RX9 190 yX0_bondWith ∈ gW := gw_in 596 (by decide +kernel) (by decide +kernel)
theorem kI_yX0_bondWith : Cond.instanceMethod yX0_bondWith ∈ gW := gw_in 597 (by decide +kernel) (by decide +kernel)
theorem kS_yX0_bondWith : Cond.selects "WalkingBus$Child" yX0_bondWith yX0_bondWith ∈ gW := gw_in 598 (by decide +kernel) (by decide +kernel)
theorem kC_yX0_bondWith : Cond.code yX0_bondWith prog_2_method_5_code 2 (some .int) ∈ gW := gw_in 599 (by decide +kernel) (by decide +kernel)
theorem kM_RX9_194 : Cond.methodLink RX9 194 yX0_bind ∈ gW := gw_in 600 (by decide +kernel) (by decide +kernel)
theorem kI_yX0_bind : Cond.instanceMethod yX0_bind ∈ gW := gw_in 601 (by decide +kernel) (by decide +kernel)
theorem kS_yX0_bind : Cond.selects "WalkingBus$Child" yX0_bind yX0_bind ∈ gW := gw_in 602 (by decide +kernel) (by decide +kernel)
theorem kC_yX0_bind : Cond.code yX0_bind prog_2_method_6_code 4 none ∈ gW := gw_in 603 (by decide +kernel) (by decide +kernel)
theorem kM_RL_48 : Cond.methodLink RL 48 yX9_late ∈ gW := gw_in 604 (by decide +kernel) (by decide +kernel)
theorem kI_yX9_late : Cond.instanceMethod yX9_late ∈ gW := gw_in 605 (by decide +kernel) (by decide +kernel)
theorem kS_yX9_late : Cond.selects "WalkingBus" yX9_late yX9_late ∈ gW := gw_in 606 (by decide +kernel) (by decide +kernel)
theorem kC_yX9_late : Cond.code yX9_late prog_1_method_10_code 10 (some .long) ∈ gW := gw_in 607 (by decide +kernel) (by decide +kernel)
theorem kK_RX9_198 : Cond.constantLong RX9 198 (-9223372036854775808) ∈ gW := gw_in 608 (by decide +kernel) (by decide +kernel)
theorem kM_RX9_200 : Cond.methodLink RX9 200 yX9_isSet ∈ gW := gw_in 609 (by decide +kernel) (by decide +kernel)
theorem kI_yX9_isSet : Cond.instanceMethod yX9_isSet ∈ gW := gw_in 611 (by decide +kernel) (by decide +kernel)
theorem kC_yX9_isSet : Cond.code yX9_isSet prog_1_method_43_code 2 (some .boolean) ∈ gW := gw_in 612 (by decide +kernel) (by decide +kernel)
theorem kM_RX9_203 : Cond.methodLink RX9 203 yX9_isMinute ∈ gW := gw_in 613 (by decide +kernel) (by decide +kernel)
theorem kT_yX9_isMinute : Cond.static yX9_isMinute ∈ gW := gw_in 614 (by decide +kernel) (by decide +kernel)
theorem kC_yX9_isMinute : Cond.code yX9_isMinute prog_1_method_40_code 1 (some .boolean) ∈ gW := gw_in 615 (by decide +kernel) (by decide +kernel)
theorem kM_RX9_206 : Cond.methodLink RX9 206 yX9_hasWalked ∈ gW := gw_in 616 (by decide +kernel) (by decide +kernel)
theorem kI_yX9_hasWalked : Cond.instanceMethod yX9_hasWalked ∈ gW := gw_in 618 (by decide +kernel) (by decide +kernel)
theorem kC_yX9_hasWalked : Cond.code yX9_hasWalked prog_1_method_48_code 7 (some .boolean) ∈ gW := gw_in 619 (by decide +kernel) (by decide +kernel)
theorem kM_RX9_361 : Cond.methodLink RX9 361 yX1_gather ∈ gW := gw_in 620 (by decide +kernel) (by decide +kernel)
theorem kI_yX1_gather : Cond.instanceMethod yX1_gather ∈ gW := gw_in 621 (by decide +kernel) (by decide +kernel)
theorem kS_yX1_gather : Cond.selects "WalkingBus$Gates" yX1_gather yX1_gather ∈ gW := gw_in 622 (by decide +kernel) (by decide +kernel)
theorem kC_yX1_gather : Cond.code yX1_gather prog_3_method_2_code 5 none ∈ gW := gw_in 623 (by decide +kernel) (by decide +kernel)
theorem kM_RX1_32 : Cond.methodLink RX1 32 Lib.Math.max.name ∈ gW := gw_in 624 (by decide +kernel) (by decide +kernel)
theorem kT_Lib_Math_max : Cond.static Lib.Math.max.name ∈ gW := gw_in 625 (by decide +kernel) (by decide +kernel)
theorem kC_Lib_Math_max : Cond.code Lib.Math.max.name prog_14_method_65_code 2 (some .int) ∈ gW := gw_in 626 (by decide +kernel) (by decide +kernel)
theorem kM_RX1_38 : Cond.methodLink RX1 38 yX0_pace ∈ gW := gw_in 627 (by decide +kernel) (by decide +kernel)
theorem kM_RX1_41 : Cond.methodLink RX1 41 yX1_setFirstOrder ∈ gW := gw_in 628 (by decide +kernel) (by decide +kernel)
theorem kI_yX1_setFirstOrder : Cond.instanceMethod yX1_setFirstOrder ∈ gW := gw_in 629 (by decide +kernel) (by decide +kernel)
theorem kS_yX1_setFirstOrder : Cond.selects "WalkingBus$Gates" yX1_setFirstOrder yX1_setFirstOrder ∈ gW := gw_in 630 (by decide +kernel) (by decide +kernel)
theorem kC_yX1_setFirstOrder : Cond.code yX1_setFirstOrder prog_3_method_3_code 2 none ∈ gW := gw_in 631 (by decide +kernel) (by decide +kernel)
theorem kM_RX1_44 : Cond.methodLink RX1 44 yX1_isGate ∈ gW := gw_in 632 (by decide +kernel) (by decide +kernel)
theorem kI_yX1_isGate : Cond.instanceMethod yX1_isGate ∈ gW := gw_in 634 (by decide +kernel) (by decide +kernel)
theorem kC_yX1_isGate : Cond.code yX1_isGate prog_3_method_4_code 2 (some .boolean) ∈ gW := gw_in 635 (by decide +kernel) (by decide +kernel)
theorem kM_RX9_365 : Cond.methodLink RX9 365 yX1_orderBy ∈ gW := gw_in 636 (by decide +kernel) (by decide +kernel)
theorem kI_yX1_orderBy : Cond.instanceMethod yX1_orderBy ∈ gW := gw_in 637 (by decide +kernel) (by decide +kernel)
theorem kS_yX1_orderBy : Cond.selects "WalkingBus$Gates" yX1_orderBy yX1_orderBy ∈ gW := gw_in 638 (by decide +kernel) (by decide +kernel)
theorem kC_yX1_orderBy : Cond.code yX1_orderBy prog_3_method_5_code 7 (some .boolean) ∈ gW := gw_in 639 (by decide +kernel) (by decide +kernel)
theorem kM_RX1_48 : Cond.methodLink RX1 48 yX6_at ∈ gW := gw_in 640 (by decide +kernel) (by decide +kernel)
theorem kM_RX9_369 : Cond.methodLink RX9 369 yX2_isWalkable ∈ gW := gw_in 641 (by decide +kernel) (by decide +kernel)
theorem kI_yX2_isWalkable : Cond.instanceMethod yX2_isWalkable ∈ gW := gw_in 642 (by decide +kernel) (by decide +kernel)
theorem kS_yX2_isWalkable : Cond.selects "WalkingBus$Line" yX2_isWalkable yX2_isWalkable ∈ gW := gw_in 643 (by decide +kernel) (by decide +kernel)
theorem kC_yX2_isWalkable : Cond.code yX2_isWalkable prog_4_method_2_code 7 (some .boolean) ∈ gW := gw_in 644 (by decide +kernel) (by decide +kernel)
theorem kM_RX2_33 : Cond.methodLink RX2 33 yX2_stop ∈ gW := gw_in 645 (by decide +kernel) (by decide +kernel)
theorem kI_yX2_stop : Cond.instanceMethod yX2_stop ∈ gW := gw_in 647 (by decide +kernel) (by decide +kernel)
theorem kC_yX2_stop : Cond.code yX2_stop prog_4_method_3_code 3 (some .int) ∈ gW := gw_in 648 (by decide +kernel) (by decide +kernel)
theorem kM_RX2_37 : Cond.methodLink RX2 37 yX7_hasWay ∈ gW := gw_in 649 (by decide +kernel) (by decide +kernel)
theorem kM_RX2_43 : Cond.methodLink RX2 43 yX7_crossingsOfWay ∈ gW := gw_in 650 (by decide +kernel) (by decide +kernel)
theorem kM_RX9_373 : Cond.methodLink RX9 373 yX2_walk ∈ gW := gw_in 651 (by decide +kernel) (by decide +kernel)
theorem kI_yX2_walk : Cond.instanceMethod yX2_walk ∈ gW := gw_in 652 (by decide +kernel) (by decide +kernel)
theorem kS_yX2_walk : Cond.selects "WalkingBus$Line" yX2_walk yX2_walk ∈ gW := gw_in 653 (by decide +kernel) (by decide +kernel)
theorem kC_yX2_walk : Cond.code yX2_walk prog_4_method_4_code 8 none ∈ gW := gw_in 654 (by decide +kernel) (by decide +kernel)
theorem kM_RX2_53 : Cond.methodLink RX2 53 yX3_begin ∈ gW := gw_in 655 (by decide +kernel) (by decide +kernel)
theorem kI_yX3_begin : Cond.instanceMethod yX3_begin ∈ gW := gw_in 656 (by decide +kernel) (by decide +kernel)
theorem kS_yX3_begin : Cond.selects "WalkingBus$Minutes" yX3_begin yX3_begin ∈ gW := gw_in 657 (by decide +kernel) (by decide +kernel)
theorem kC_yX3_begin : Cond.code yX3_begin prog_5_method_2_code 3 none ∈ gW := gw_in 658 (by decide +kernel) (by decide +kernel)
theorem kM_RX2_57 : Cond.methodLink RX2 57 yX2_walkWay ∈ gW := gw_in 659 (by decide +kernel) (by decide +kernel)
theorem kI_yX2_walkWay : Cond.instanceMethod yX2_walkWay ∈ gW := gw_in 661 (by decide +kernel) (by decide +kernel)
theorem kC_yX2_walkWay : Cond.code yX2_walkWay prog_4_method_5_code 8 none ∈ gW := gw_in 662 (by decide +kernel) (by decide +kernel)
theorem kM_RX2_82 : Cond.methodLink RX2 82 yX3_pass ∈ gW := gw_in 663 (by decide +kernel) (by decide +kernel)
theorem kI_yX3_pass : Cond.instanceMethod yX3_pass ∈ gW := gw_in 664 (by decide +kernel) (by decide +kernel)
theorem kS_yX3_pass : Cond.selects "WalkingBus$Minutes" yX3_pass yX3_pass ∈ gW := gw_in 665 (by decide +kernel) (by decide +kernel)
theorem kC_yX3_pass : Cond.code yX3_pass prog_5_method_3_code 2 none ∈ gW := gw_in 666 (by decide +kernel) (by decide +kernel)
theorem kM_RX2_85 : Cond.methodLink RX2 85 yX7_isCrossing ∈ gW := gw_in 667 (by decide +kernel) (by decide +kernel)
theorem kM_RX2_95 : Cond.methodLink RX2 95 yX3_cross ∈ gW := gw_in 668 (by decide +kernel) (by decide +kernel)
theorem kI_yX3_cross : Cond.instanceMethod yX3_cross ∈ gW := gw_in 669 (by decide +kernel) (by decide +kernel)
theorem kS_yX3_cross : Cond.selects "WalkingBus$Minutes" yX3_cross yX3_cross ∈ gW := gw_in 670 (by decide +kernel) (by decide +kernel)
theorem kC_yX3_cross : Cond.code yX3_cross prog_5_method_4_code 6 none ∈ gW := gw_in 671 (by decide +kernel) (by decide +kernel)
theorem kK_RX3_26 : Cond.constantLong RX3 26 (10) ∈ gW := gw_in 672 (by decide +kernel) (by decide +kernel)
theorem kM_RX2_99 : Cond.methodLink RX2 99 yX7_otherEnd ∈ gW := gw_in 673 (by decide +kernel) (by decide +kernel)
theorem kM_RX2_64 : Cond.methodLink RX2 64 yX3_waitUntil ∈ gW := gw_in 674 (by decide +kernel) (by decide +kernel)
theorem kI_yX3_waitUntil : Cond.instanceMethod yX3_waitUntil ∈ gW := gw_in 675 (by decide +kernel) (by decide +kernel)
theorem kS_yX3_waitUntil : Cond.selects "WalkingBus$Minutes" yX3_waitUntil yX3_waitUntil ∈ gW := gw_in 676 (by decide +kernel) (by decide +kernel)
theorem kC_yX3_waitUntil : Cond.code yX3_waitUntil prog_5_method_5_code 6 none ∈ gW := gw_in 677 (by decide +kernel) (by decide +kernel)
theorem kM_RX3_28 : Cond.methodLink RX3 28 Lib.Math.max.name ∈ gW := gw_in 678 (by decide +kernel) (by decide +kernel)
theorem kM_RX2_70 : Cond.methodLink RX2 70 Lib.Math.max.name ∈ gW := gw_in 679 (by decide +kernel) (by decide +kernel)
theorem kM_RX9_214 : Cond.methodLink RX9 214 yX3_casesBehind ∈ gW := gw_in 680 (by decide +kernel) (by decide +kernel)
theorem kI_yX3_casesBehind : Cond.instanceMethod yX3_casesBehind ∈ gW := gw_in 681 (by decide +kernel) (by decide +kernel)
theorem kS_yX3_casesBehind : Cond.selects "WalkingBus$Minutes" yX3_casesBehind yX3_casesBehind ∈ gW := gw_in 682 (by decide +kernel) (by decide +kernel)
theorem kC_yX3_casesBehind : Cond.code yX3_casesBehind prog_5_method_6_code 5 (some .long) ∈ gW := gw_in 683 (by decide +kernel) (by decide +kernel)
theorem kM_RX9_224 : Cond.methodLink RX9 224 yX9_partOfShare ∈ gW := gw_in 684 (by decide +kernel) (by decide +kernel)
theorem kT_yX9_partOfShare : Cond.static yX9_partOfShare ∈ gW := gw_in 685 (by decide +kernel) (by decide +kernel)
theorem kC_yX9_partOfShare : Cond.code yX9_partOfShare prog_1_method_52_code 7 (some .long) ∈ gW := gw_in 686 (by decide +kernel) (by decide +kernel)
theorem kM_RX9_380 : Cond.methodLink RX9 380 yX9_commonDivisor ∈ gW := gw_in 687 (by decide +kernel) (by decide +kernel)
theorem kT_yX9_commonDivisor : Cond.static yX9_commonDivisor ∈ gW := gw_in 688 (by decide +kernel) (by decide +kernel)
theorem kC_yX9_commonDivisor : Cond.code yX9_commonDivisor prog_1_method_53_code 11 (some .long) ∈ gW := gw_in 689 (by decide +kernel) (by decide +kernel)
theorem kM_RL_53 : Cond.methodLink RL 53 yX9_mean ∈ gW := gw_in 690 (by decide +kernel) (by decide +kernel)
theorem kI_yX9_mean : Cond.instanceMethod yX9_mean ∈ gW := gw_in 691 (by decide +kernel) (by decide +kernel)
theorem kS_yX9_mean : Cond.selects "WalkingBus" yX9_mean yX9_mean ∈ gW := gw_in 692 (by decide +kernel) (by decide +kernel)
theorem kC_yX9_mean : Cond.code yX9_mean prog_1_method_11_code 9 (some .long) ∈ gW := gw_in 693 (by decide +kernel) (by decide +kernel)
theorem kM_RX9_228 : Cond.methodLink RX9 228 yX3_sumOverCases ∈ gW := gw_in 694 (by decide +kernel) (by decide +kernel)
theorem kI_yX3_sumOverCases : Cond.instanceMethod yX3_sumOverCases ∈ gW := gw_in 695 (by decide +kernel) (by decide +kernel)
theorem kS_yX3_sumOverCases : Cond.selects "WalkingBus$Minutes" yX3_sumOverCases yX3_sumOverCases ∈ gW := gw_in 696 (by decide +kernel) (by decide +kernel)
theorem kC_yX3_sumOverCases : Cond.code yX3_sumOverCases prog_5_method_7_code 4 (some .long) ∈ gW := gw_in 697 (by decide +kernel) (by decide +kernel)
theorem kM_RL_58 : Cond.methodLink RL 58 yX9_start ∈ gW := gw_in 698 (by decide +kernel) (by decide +kernel)
theorem kI_yX9_start : Cond.instanceMethod yX9_start ∈ gW := gw_in 699 (by decide +kernel) (by decide +kernel)
theorem kS_yX9_start : Cond.selects "WalkingBus" yX9_start yX9_start ∈ gW := gw_in 700 (by decide +kernel) (by decide +kernel)
theorem kC_yX9_start : Cond.code yX9_start prog_1_method_12_code 6 (some .int) ∈ gW := gw_in 701 (by decide +kernel) (by decide +kernel)
theorem kM_RX9_232 : Cond.methodLink RX9 232 yX9_startRefusal ∈ gW := gw_in 702 (by decide +kernel) (by decide +kernel)
theorem kI_yX9_startRefusal : Cond.instanceMethod yX9_startRefusal ∈ gW := gw_in 704 (by decide +kernel) (by decide +kernel)
theorem kC_yX9_startRefusal : Cond.code yX9_startRefusal prog_1_method_49_code 5 (some .int) ∈ gW := gw_in 705 (by decide +kernel) (by decide +kernel)
theorem kM_RX9_377 : Cond.methodLink RX9 377 yX2_hasStarts ∈ gW := gw_in 706 (by decide +kernel) (by decide +kernel)
theorem kI_yX2_hasStarts : Cond.instanceMethod yX2_hasStarts ∈ gW := gw_in 707 (by decide +kernel) (by decide +kernel)
theorem kS_yX2_hasStarts : Cond.selects "WalkingBus$Line" yX2_hasStarts yX2_hasStarts ∈ gW := gw_in 708 (by decide +kernel) (by decide +kernel)
theorem kC_yX2_hasStarts : Cond.code yX2_hasStarts prog_4_method_6_code 4 (some .boolean) ∈ gW := gw_in 709 (by decide +kernel) (by decide +kernel)
theorem kM_RX2_102 : Cond.methodLink RX2 102 yX1_setFirstOrder ∈ gW := gw_in 710 (by decide +kernel) (by decide +kernel)
theorem kM_RX2_105 : Cond.methodLink RX2 105 yX2_isWalkable ∈ gW := gw_in 711 (by decide +kernel) (by decide +kernel)
theorem kM_RX2_109 : Cond.methodLink RX2 109 yX1_toNextOrder ∈ gW := gw_in 712 (by decide +kernel) (by decide +kernel)
theorem kI_yX1_toNextOrder : Cond.instanceMethod yX1_toNextOrder ∈ gW := gw_in 713 (by decide +kernel) (by decide +kernel)
theorem kS_yX1_toNextOrder : Cond.selects "WalkingBus$Gates" yX1_toNextOrder yX1_toNextOrder ∈ gW := gw_in 714 (by decide +kernel) (by decide +kernel)
theorem kC_yX1_toNextOrder : Cond.code yX1_toNextOrder prog_3_method_6_code 4 (some .boolean) ∈ gW := gw_in 715 (by decide +kernel) (by decide +kernel)
theorem kM_RX1_54 : Cond.methodLink RX1 54 yX1_swap ∈ gW := gw_in 716 (by decide +kernel) (by decide +kernel)
theorem kI_yX1_swap : Cond.instanceMethod yX1_swap ∈ gW := gw_in 718 (by decide +kernel) (by decide +kernel)
theorem kC_yX1_swap : Cond.code yX1_swap prog_3_method_7_code 4 none ∈ gW := gw_in 719 (by decide +kernel) (by decide +kernel)
theorem kM_RX9_236 : Cond.methodLink RX9 236 yX2_findStart ∈ gW := gw_in 720 (by decide +kernel) (by decide +kernel)
theorem kI_yX2_findStart : Cond.instanceMethod yX2_findStart ∈ gW := gw_in 721 (by decide +kernel) (by decide +kernel)
theorem kS_yX2_findStart : Cond.selects "WalkingBus$Line" yX2_findStart yX2_findStart ∈ gW := gw_in 722 (by decide +kernel) (by decide +kernel)
theorem kC_yX2_findStart : Cond.code yX2_findStart prog_4_method_7_code 8 (some .int) ∈ gW := gw_in 723 (by decide +kernel) (by decide +kernel)
theorem kM_RX2_113 : Cond.methodLink RX2 113 yX2_hasStarts ∈ gW := gw_in 724 (by decide +kernel) (by decide +kernel)
theorem kM_RX2_116 : Cond.methodLink RX2 116 yX2_latestStart ∈ gW := gw_in 725 (by decide +kernel) (by decide +kernel)
theorem kI_yX2_latestStart : Cond.instanceMethod yX2_latestStart ∈ gW := gw_in 727 (by decide +kernel) (by decide +kernel)
theorem kC_yX2_latestStart : Cond.code yX2_latestStart prog_4_method_9_code 10 (some .int) ∈ gW := gw_in 728 (by decide +kernel) (by decide +kernel)
theorem kM_RX2_123 : Cond.methodLink RX2 123 yX2_walk ∈ gW := gw_in 729 (by decide +kernel) (by decide +kernel)
theorem kM_RX2_127 : Cond.methodLink RX2 127 yX3_casesBehind ∈ gW := gw_in 730 (by decide +kernel) (by decide +kernel)
theorem kK_RX2_131 : Cond.constantLong RX2 131 (100) ∈ gW := gw_in 731 (by decide +kernel) (by decide +kernel)
theorem kM_RX2_120 : Cond.methodLink RX2 120 yX2_keepOrder ∈ gW := gw_in 732 (by decide +kernel) (by decide +kernel)
theorem kI_yX2_keepOrder : Cond.instanceMethod yX2_keepOrder ∈ gW := gw_in 734 (by decide +kernel) (by decide +kernel)
theorem kC_yX2_keepOrder : Cond.code yX2_keepOrder prog_4_method_8_code 2 none ∈ gW := gw_in 735 (by decide +kernel) (by decide +kernel)
theorem kM_RL_62 : Cond.methodLink RL 62 yX9_gate ∈ gW := gw_in 736 (by decide +kernel) (by decide +kernel)
theorem kI_yX9_gate : Cond.instanceMethod yX9_gate ∈ gW := gw_in 737 (by decide +kernel) (by decide +kernel)
theorem kS_yX9_gate : Cond.selects "WalkingBus" yX9_gate yX9_gate ∈ gW := gw_in 738 (by decide +kernel) (by decide +kernel)
theorem kC_yX9_gate : Cond.code yX9_gate prog_1_method_13_code 7 (some .int) ∈ gW := gw_in 739 (by decide +kernel) (by decide +kernel)
theorem kM_RL_67 : Cond.methodLink RL 67 yX9_holds ∈ gW := gw_in 740 (by decide +kernel) (by decide +kernel)
theorem kI_yX9_holds : Cond.instanceMethod yX9_holds ∈ gW := gw_in 741 (by decide +kernel) (by decide +kernel)
theorem kS_yX9_holds : Cond.selects "WalkingBus" yX9_holds yX9_holds ∈ gW := gw_in 742 (by decide +kernel) (by decide +kernel)
theorem kC_yX9_holds : Cond.code yX9_holds prog_1_method_14_code 3 (some .int) ∈ gW := gw_in 743 (by decide +kernel) (by decide +kernel)
theorem kM_RL_72 : Cond.methodLink RL 72 yX9_grown ∈ gW := gw_in 744 (by decide +kernel) (by decide +kernel)
theorem kI_yX9_grown : Cond.instanceMethod yX9_grown ∈ gW := gw_in 745 (by decide +kernel) (by decide +kernel)
theorem kS_yX9_grown : Cond.selects "WalkingBus" yX9_grown yX9_grown ∈ gW := gw_in 746 (by decide +kernel) (by decide +kernel)
theorem kC_yX9_grown : Cond.code yX9_grown prog_1_method_15_code 2 (some .int) ∈ gW := gw_in 747 (by decide +kernel) (by decide +kernel)
theorem kM_RX9_252 : Cond.methodLink RX9 252 yX9_grownFor ∈ gW := gw_in 748 (by decide +kernel) (by decide +kernel)
theorem kI_yX9_grownFor : Cond.instanceMethod yX9_grownFor ∈ gW := gw_in 750 (by decide +kernel) (by decide +kernel)
theorem kC_yX9_grownFor : Cond.code yX9_grownFor prog_1_method_50_code 4 (some .int) ∈ gW := gw_in 751 (by decide +kernel) (by decide +kernel)
theorem kM_RL_76 : Cond.methodLink RL 76 yX9_split ∈ gW := gw_in 752 (by decide +kernel) (by decide +kernel)
theorem kI_yX9_split : Cond.instanceMethod yX9_split ∈ gW := gw_in 753 (by decide +kernel) (by decide +kernel)
theorem kS_yX9_split : Cond.selects "WalkingBus" yX9_split yX9_split ∈ gW := gw_in 754 (by decide +kernel) (by decide +kernel)
theorem kC_yX9_split : Cond.code yX9_split prog_1_method_16_code 7 (some .int) ∈ gW := gw_in 755 (by decide +kernel) (by decide +kernel)
theorem kM_RX9_255 : Cond.methodLink RX9 255 yJ6_bitCount_0f7a4 ∈ gW := gw_in 756 (by decide +kernel) (by decide +kernel)
theorem kT_yJ6_bitCount_0f7a4 : Cond.static yJ6_bitCount_0f7a4 ∈ gW := gw_in 757 (by decide +kernel) (by decide +kernel)
theorem kC_yJ6_bitCount_0f7a4 : Cond.code yJ6_bitCount_0f7a4 prog_13_method_49_code 1 (some .int) ∈ gW := gw_in 758 (by decide +kernel) (by decide +kernel)
theorem kK_RJ6_265 : Cond.constant RJ6 265 (1431655765) ∈ gW := gw_in 759 (by decide +kernel) (by decide +kernel)
theorem kK_RJ6_266 : Cond.constant RJ6 266 (858993459) ∈ gW := gw_in 760 (by decide +kernel) (by decide +kernel)
theorem kK_RJ6_267 : Cond.constant RJ6 267 (252645135) ∈ gW := gw_in 761 (by decide +kernel) (by decide +kernel)
theorem kM_RX9_260 : Cond.methodLink RX9 260 yX9_findSplit ∈ gW := gw_in 762 (by decide +kernel) (by decide +kernel)
theorem kI_yX9_findSplit : Cond.instanceMethod yX9_findSplit ∈ gW := gw_in 764 (by decide +kernel) (by decide +kernel)
theorem kC_yX9_findSplit : Cond.code yX9_findSplit prog_1_method_51_code 11 (some .boolean) ∈ gW := gw_in 765 (by decide +kernel) (by decide +kernel)
theorem kM_RL_80 : Cond.methodLink RL 80 yX9_ways ∈ gW := gw_in 766 (by decide +kernel) (by decide +kernel)
theorem kI_yX9_ways : Cond.instanceMethod yX9_ways ∈ gW := gw_in 767 (by decide +kernel) (by decide +kernel)
theorem kS_yX9_ways : Cond.selects "WalkingBus" yX9_ways yX9_ways ∈ gW := gw_in 768 (by decide +kernel) (by decide +kernel)
theorem kC_yX9_ways : Cond.code yX9_ways prog_1_method_17_code 3 (some .long) ∈ gW := gw_in 769 (by decide +kernel) (by decide +kernel)
theorem kM_RX9_264 : Cond.methodLink RX9 264 yX9_isRopeFor ∈ gW := gw_in 770 (by decide +kernel) (by decide +kernel)
theorem kI_yX9_isRopeFor : Cond.instanceMethod yX9_isRopeFor ∈ gW := gw_in 772 (by decide +kernel) (by decide +kernel)
theorem kC_yX9_isRopeFor : Cond.code yX9_isRopeFor prog_1_method_44_code 3 (some .boolean) ∈ gW := gw_in 773 (by decide +kernel) (by decide +kernel)
theorem kM_RX9_267 : Cond.methodLink RX9 267 yX5_search ∈ gW := gw_in 774 (by decide +kernel) (by decide +kernel)
theorem kI_yX5_search : Cond.instanceMethod yX5_search ∈ gW := gw_in 775 (by decide +kernel) (by decide +kernel)
theorem kS_yX5_search : Cond.selects "WalkingBus$Rope" yX5_search yX5_search ∈ gW := gw_in 776 (by decide +kernel) (by decide +kernel)
theorem kC_yX5_search : Cond.code yX5_search prog_7_method_2_code 6 none ∈ gW := gw_in 777 (by decide +kernel) (by decide +kernel)
theorem kM_RX5_56 : Cond.methodLink RX5 56 yJ6_bitCount_0f7a4 ∈ gW := gw_in 778 (by decide +kernel) (by decide +kernel)
theorem kM_RX5_62 : Cond.methodLink RX5 62 Lib.Math.min.name ∈ gW := gw_in 779 (by decide +kernel) (by decide +kernel)
theorem kM_RX5_68 : Cond.methodLink RX5 68 yX5_fill ∈ gW := gw_in 780 (by decide +kernel) (by decide +kernel)
theorem kT_yX5_fill : Cond.static yX5_fill ∈ gW := gw_in 781 (by decide +kernel) (by decide +kernel)
theorem kC_yX5_fill : Cond.code yX5_fill prog_7_method_3_code 6 none ∈ gW := gw_in 782 (by decide +kernel) (by decide +kernel)
theorem kM_RX5_72 : Cond.methodLink RX5 72 yX5_take ∈ gW := gw_in 783 (by decide +kernel) (by decide +kernel)
theorem kI_yX5_take : Cond.instanceMethod yX5_take ∈ gW := gw_in 785 (by decide +kernel) (by decide +kernel)
theorem kC_yX5_take : Cond.code yX5_take prog_7_method_4_code 3 none ∈ gW := gw_in 786 (by decide +kernel) (by decide +kernel)
theorem kM_RX5_76 : Cond.methodLink RX5 76 yX5_hope ∈ gW := gw_in 787 (by decide +kernel) (by decide +kernel)
theorem kI_yX5_hope : Cond.instanceMethod yX5_hope ∈ gW := gw_in 789 (by decide +kernel) (by decide +kernel)
theorem kC_yX5_hope : Cond.code yX5_hope prog_7_method_5_code 4 (some .int) ∈ gW := gw_in 790 (by decide +kernel) (by decide +kernel)
theorem kM_RX5_83 : Cond.methodLink RX5 83 yX5_isBeside ∈ gW := gw_in 791 (by decide +kernel) (by decide +kernel)
theorem kT_yX5_isBeside : Cond.static yX5_isBeside ∈ gW := gw_in 792 (by decide +kernel) (by decide +kernel)
theorem kC_yX5_isBeside : Cond.code yX5_isBeside prog_7_method_7_code 1 (some .boolean) ∈ gW := gw_in 793 (by decide +kernel) (by decide +kernel)
theorem kM_RX5_87 : Cond.methodLink RX5 87 yX5_bitAt ∈ gW := gw_in 794 (by decide +kernel) (by decide +kernel)
theorem kI_yX5_bitAt : Cond.instanceMethod yX5_bitAt ∈ gW := gw_in 796 (by decide +kernel) (by decide +kernel)
theorem kC_yX5_bitAt : Cond.code yX5_bitAt prog_7_method_8_code 2 (some .int) ∈ gW := gw_in 797 (by decide +kernel) (by decide +kernel)
theorem kM_RX5_79 : Cond.methodLink RX5 79 yX5_maySit ∈ gW := gw_in 798 (by decide +kernel) (by decide +kernel)
theorem kI_yX5_maySit : Cond.instanceMethod yX5_maySit ∈ gW := gw_in 800 (by decide +kernel) (by decide +kernel)
theorem kC_yX5_maySit : Cond.code yX5_maySit prog_7_method_6_code 4 (some .boolean) ∈ gW := gw_in 801 (by decide +kernel) (by decide +kernel)
theorem kM_RL_85 : Cond.methodLink RL 85 yX9_friendly ∈ gW := gw_in 802 (by decide +kernel) (by decide +kernel)
theorem kI_yX9_friendly : Cond.instanceMethod yX9_friendly ∈ gW := gw_in 803 (by decide +kernel) (by decide +kernel)
theorem kS_yX9_friendly : Cond.selects "WalkingBus" yX9_friendly yX9_friendly ∈ gW := gw_in 804 (by decide +kernel) (by decide +kernel)
theorem kC_yX9_friendly : Cond.code yX9_friendly prog_1_method_18_code 4 (some .int) ∈ gW := gw_in 805 (by decide +kernel) (by decide +kernel)
theorem kM_RL_89 : Cond.methodLink RL 89 yX9_loss ∈ gW := gw_in 806 (by decide +kernel) (by decide +kernel)
theorem kI_yX9_loss : Cond.instanceMethod yX9_loss ∈ gW := gw_in 807 (by decide +kernel) (by decide +kernel)
theorem kS_yX9_loss : Cond.selects "WalkingBus" yX9_loss yX9_loss ∈ gW := gw_in 808 (by decide +kernel) (by decide +kernel)
theorem kC_yX9_loss : Cond.code yX9_loss prog_1_method_19_code 6 (some .long) ∈ gW := gw_in 809 (by decide +kernel) (by decide +kernel)
theorem kM_RX9_283 : Cond.methodLink RX9 283 yX9_isWait ∈ gW := gw_in 810 (by decide +kernel) (by decide +kernel)
theorem kT_yX9_isWait : Cond.static yX9_isWait ∈ gW := gw_in 811 (by decide +kernel) (by decide +kernel)
theorem kC_yX9_isWait : Cond.code yX9_isWait prog_1_method_45_code 3 (some .boolean) ∈ gW := gw_in 812 (by decide +kernel) (by decide +kernel)
theorem kK_RX9_357 : Cond.constant RX9 357 (99999999) ∈ gW := gw_in 813 (by decide +kernel) (by decide +kernel)
theorem kM_RX9_286 : Cond.methodLink RX9 286 yX9_lossSum ∈ gW := gw_in 814 (by decide +kernel) (by decide +kernel)
theorem kT_yX9_lossSum : Cond.static yX9_lossSum ∈ gW := gw_in 815 (by decide +kernel) (by decide +kernel)
theorem kC_yX9_lossSum : Cond.code yX9_lossSum prog_1_method_55_code 9 (some .long) ∈ gW := gw_in 816 (by decide +kernel) (by decide +kernel)
theorem kM_RX9_290 : Cond.methodLink RX9 290 yX9_weightSum ∈ gW := gw_in 817 (by decide +kernel) (by decide +kernel)
theorem kT_yX9_weightSum : Cond.static yX9_weightSum ∈ gW := gw_in 818 (by decide +kernel) (by decide +kernel)
theorem kC_yX9_weightSum : Cond.code yX9_weightSum prog_1_method_54_code 5 (some .long) ∈ gW := gw_in 819 (by decide +kernel) (by decide +kernel)
theorem kM_RL_94 : Cond.methodLink RL 94 yX9_patience ∈ gW := gw_in 820 (by decide +kernel) (by decide +kernel)
theorem kI_yX9_patience : Cond.instanceMethod yX9_patience ∈ gW := gw_in 821 (by decide +kernel) (by decide +kernel)
theorem kS_yX9_patience : Cond.selects "WalkingBus" yX9_patience yX9_patience ∈ gW := gw_in 822 (by decide +kernel) (by decide +kernel)
theorem kC_yX9_patience : Cond.code yX9_patience prog_1_method_20_code 10 (some .int) ∈ gW := gw_in 823 (by decide +kernel) (by decide +kernel)
theorem kM_RL_98 : Cond.methodLink RL 98 yX9_helper ∈ gW := gw_in 824 (by decide +kernel) (by decide +kernel)
theorem kI_yX9_helper : Cond.instanceMethod yX9_helper ∈ gW := gw_in 825 (by decide +kernel) (by decide +kernel)
theorem kS_yX9_helper : Cond.selects "WalkingBus" yX9_helper yX9_helper ∈ gW := gw_in 826 (by decide +kernel) (by decide +kernel)
theorem kC_yX9_helper : Cond.code yX9_helper prog_1_method_21_code 2 (some .int) ∈ gW := gw_in 827 (by decide +kernel) (by decide +kernel)
theorem kM_RL_102 : Cond.methodLink RL 102 yX9_days ∈ gW := gw_in 828 (by decide +kernel) (by decide +kernel)
theorem kI_yX9_days : Cond.instanceMethod yX9_days ∈ gW := gw_in 829 (by decide +kernel) (by decide +kernel)
theorem kS_yX9_days : Cond.selects "WalkingBus" yX9_days yX9_days ∈ gW := gw_in 830 (by decide +kernel) (by decide +kernel)
theorem kC_yX9_days : Cond.code yX9_days prog_1_method_22_code 4 (some .int) ∈ gW := gw_in 831 (by decide +kernel) (by decide +kernel)
theorem kM_RL_106 : Cond.methodLink RL 106 yX9_week ∈ gW := gw_in 832 (by decide +kernel) (by decide +kernel)
theorem kI_yX9_week : Cond.instanceMethod yX9_week ∈ gW := gw_in 833 (by decide +kernel) (by decide +kernel)
theorem kS_yX9_week : Cond.selects "WalkingBus" yX9_week yX9_week ∈ gW := gw_in 834 (by decide +kernel) (by decide +kernel)
theorem kC_yX9_week : Cond.code yX9_week prog_1_method_23_code 3 (some .int) ∈ gW := gw_in 835 (by decide +kernel) (by decide +kernel)
theorem kM_RX9_293 : Cond.methodLink RX9 293 yX8_make ∈ gW := gw_in 836 (by decide +kernel) (by decide +kernel)
theorem kI_yX8_make : Cond.instanceMethod yX8_make ∈ gW := gw_in 837 (by decide +kernel) (by decide +kernel)
theorem kS_yX8_make : Cond.selects "WalkingBus$Week" yX8_make yX8_make ∈ gW := gw_in 838 (by decide +kernel) (by decide +kernel)
theorem kC_yX8_make : Cond.code yX8_make prog_10_method_2_code 5 none ∈ gW := gw_in 839 (by decide +kernel) (by decide +kernel)
theorem kM_RX8_31 : Cond.methodLink RX8 31 yX8_isEnough ∈ gW := gw_in 840 (by decide +kernel) (by decide +kernel)
theorem kI_yX8_isEnough : Cond.instanceMethod yX8_isEnough ∈ gW := gw_in 842 (by decide +kernel) (by decide +kernel)
theorem kC_yX8_isEnough : Cond.code yX8_isEnough prog_10_method_3_code 6 (some .boolean) ∈ gW := gw_in 843 (by decide +kernel) (by decide +kernel)
theorem kM_RX8_39 : Cond.methodLink RX8 39 yJ6_bitCount_0f7a4 ∈ gW := gw_in 844 (by decide +kernel) (by decide +kernel)
theorem kM_RX8_35 : Cond.methodLink RX8 35 yX8_fill ∈ gW := gw_in 845 (by decide +kernel) (by decide +kernel)
theorem kT_yX8_fill : Cond.static yX8_fill ∈ gW := gw_in 846 (by decide +kernel) (by decide +kernel)
theorem kC_yX8_fill : Cond.code yX8_fill prog_10_method_4_code 3 (some .boolean) ∈ gW := gw_in 847 (by decide +kernel) (by decide +kernel)
theorem kM_RX8_45 : Cond.methodLink RX8 45 yX8_mayHelp ∈ gW := gw_in 848 (by decide +kernel) (by decide +kernel)
theorem kI_yX8_mayHelp : Cond.instanceMethod yX8_mayHelp ∈ gW := gw_in 850 (by decide +kernel) (by decide +kernel)
theorem kC_yX8_mayHelp : Cond.code yX8_mayHelp prog_10_method_5_code 4 (some .boolean) ∈ gW := gw_in 851 (by decide +kernel) (by decide +kernel)
theorem kM_RX8_49 : Cond.methodLink RX8 49 yX8_addDays ∈ gW := gw_in 852 (by decide +kernel) (by decide +kernel)
theorem kI_yX8_addDays : Cond.instanceMethod yX8_addDays ∈ gW := gw_in 854 (by decide +kernel) (by decide +kernel)
theorem kC_yX8_addDays : Cond.code yX8_addDays prog_10_method_6_code 4 none ∈ gW := gw_in 855 (by decide +kernel) (by decide +kernel)
theorem kM_RL_110 : Cond.methodLink RL 110 yX9_sheet ∈ gW := gw_in 856 (by decide +kernel) (by decide +kernel)
theorem kI_yX9_sheet : Cond.instanceMethod yX9_sheet ∈ gW := gw_in 857 (by decide +kernel) (by decide +kernel)
theorem kS_yX9_sheet : Cond.selects "WalkingBus" yX9_sheet yX9_sheet ∈ gW := gw_in 858 (by decide +kernel) (by decide +kernel)
theorem kC_yX9_sheet : Cond.code yX9_sheet prog_1_method_24_code 4 (some .int) ∈ gW := gw_in 859 (by decide +kernel) (by decide +kernel)
theorem kM_RX9_303 : Cond.methodLink RX9 303 yX9_fail ∈ gW := gw_in 860 (by decide +kernel) (by decide +kernel)
theorem kI_yX9_fail : Cond.instanceMethod yX9_fail ∈ gW := gw_in 862 (by decide +kernel) (by decide +kernel)
theorem kC_yX9_fail : Cond.code yX9_fail prog_1_method_46_code 2 (some .int) ∈ gW := gw_in 863 (by decide +kernel) (by decide +kernel)
theorem kM_RX9_306 : Cond.methodLink RX9 306 yX6_begin ∈ gW := gw_in 864 (by decide +kernel) (by decide +kernel)
theorem kI_yX6_begin : Cond.instanceMethod yX6_begin ∈ gW := gw_in 865 (by decide +kernel) (by decide +kernel)
theorem kS_yX6_begin : Cond.selects "WalkingBus$Sheet" yX6_begin yX6_begin ∈ gW := gw_in 866 (by decide +kernel) (by decide +kernel)
theorem kC_yX6_begin : Cond.code yX6_begin prog_8_method_2_code 4 none ∈ gW := gw_in 867 (by decide +kernel) (by decide +kernel)
theorem kM_RX6_26 : Cond.methodLink RX6 26 Lib.Math.min.name ∈ gW := gw_in 868 (by decide +kernel) (by decide +kernel)
theorem kM_RX6_32 : Cond.methodLink RX6 32 Lib.Math.max.name ∈ gW := gw_in 869 (by decide +kernel) (by decide +kernel)
theorem kM_RL_114 : Cond.methodLink RL 114 yX9_lose ∈ gW := gw_in 870 (by decide +kernel) (by decide +kernel)
theorem kI_yX9_lose : Cond.instanceMethod yX9_lose ∈ gW := gw_in 871 (by decide +kernel) (by decide +kernel)
theorem kS_yX9_lose : Cond.selects "WalkingBus" yX9_lose yX9_lose ∈ gW := gw_in 872 (by decide +kernel) (by decide +kernel)
theorem kC_yX9_lose : Cond.code yX9_lose prog_1_method_25_code 3 (some .int) ∈ gW := gw_in 873 (by decide +kernel) (by decide +kernel)
theorem kM_RL_118 : Cond.methodLink RL 118 yX9_put ∈ gW := gw_in 874 (by decide +kernel) (by decide +kernel)
theorem kI_yX9_put : Cond.instanceMethod yX9_put ∈ gW := gw_in 875 (by decide +kernel) (by decide +kernel)
theorem kS_yX9_put : Cond.selects "WalkingBus" yX9_put yX9_put ∈ gW := gw_in 876 (by decide +kernel) (by decide +kernel)
theorem kC_yX9_put : Cond.code yX9_put prog_1_method_26_code 4 (some .int) ∈ gW := gw_in 877 (by decide +kernel) (by decide +kernel)
theorem kM_RX9_313 : Cond.methodLink RX9 313 yX6_reaches ∈ gW := gw_in 878 (by decide +kernel) (by decide +kernel)
theorem kM_RX9_316 : Cond.methodLink RX9 316 yX6_change ∈ gW := gw_in 879 (by decide +kernel) (by decide +kernel)
theorem kI_yX6_change : Cond.instanceMethod yX6_change ∈ gW := gw_in 880 (by decide +kernel) (by decide +kernel)
theorem kS_yX6_change : Cond.selects "WalkingBus$Sheet" yX6_change yX6_change ∈ gW := gw_in 881 (by decide +kernel) (by decide +kernel)
theorem kC_yX6_change : Cond.code yX6_change prog_8_method_6_code 3 none ∈ gW := gw_in 882 (by decide +kernel) (by decide +kernel)
theorem kM_RL_122 : Cond.methodLink RL 122 yX9_cell ∈ gW := gw_in 883 (by decide +kernel) (by decide +kernel)
theorem kI_yX9_cell : Cond.instanceMethod yX9_cell ∈ gW := gw_in 884 (by decide +kernel) (by decide +kernel)
theorem kS_yX9_cell : Cond.selects "WalkingBus" yX9_cell yX9_cell ∈ gW := gw_in 885 (by decide +kernel) (by decide +kernel)
theorem kC_yX9_cell : Cond.code yX9_cell prog_1_method_27_code 4 (some .long) ∈ gW := gw_in 886 (by decide +kernel) (by decide +kernel)
theorem kM_RX9_319 : Cond.methodLink RX9 319 yX6_at ∈ gW := gw_in 887 (by decide +kernel) (by decide +kernel)
theorem kM_RL_127 : Cond.methodLink RL 127 yX9_copy ∈ gW := gw_in 888 (by decide +kernel) (by decide +kernel)
theorem kI_yX9_copy : Cond.instanceMethod yX9_copy ∈ gW := gw_in 889 (by decide +kernel) (by decide +kernel)
theorem kS_yX9_copy : Cond.selects "WalkingBus" yX9_copy yX9_copy ∈ gW := gw_in 890 (by decide +kernel) (by decide +kernel)
theorem kC_yX9_copy : Cond.code yX9_copy prog_1_method_28_code 8 (some .int) ∈ gW := gw_in 891 (by decide +kernel) (by decide +kernel)
theorem kM_RX9_328 : Cond.methodLink RX9 328 arraycopyName ∈ gW := gw_in 892 (by decide +kernel) (by decide +kernel)
theorem kT_arraycopyName : Cond.static arraycopyName ∈ gW := gw_in 893 (by decide +kernel) (by decide +kernel)
theorem kV_native : Cond.native arraycopyName ∈ gW := gw_in 894 (by decide +kernel) (by decide +kernel)
theorem kM_RL_131 : Cond.methodLink RL 131 yX9_tell ∈ gW := gw_in 895 (by decide +kernel) (by decide +kernel)
theorem kI_yX9_tell : Cond.instanceMethod yX9_tell ∈ gW := gw_in 896 (by decide +kernel) (by decide +kernel)
theorem kS_yX9_tell : Cond.selects "WalkingBus" yX9_tell yX9_tell ∈ gW := gw_in 897 (by decide +kernel) (by decide +kernel)
theorem kC_yX9_tell : Cond.code yX9_tell prog_1_method_29_code 3 (some .int) ∈ gW := gw_in 898 (by decide +kernel) (by decide +kernel)
theorem kM_RX9_334 : Cond.methodLink RX9 334 yX9_tellHeld ∈ gW := gw_in 899 (by decide +kernel) (by decide +kernel)
theorem kI_yX9_tellHeld : Cond.instanceMethod yX9_tellHeld ∈ gW := gw_in 901 (by decide +kernel) (by decide +kernel)
theorem kC_yX9_tellHeld : Cond.code yX9_tellHeld prog_1_method_59_code 3 (some .int) ∈ gW := gw_in 902 (by decide +kernel) (by decide +kernel)
theorem kM_RX9_344 : Cond.methodLink RX9 344 yX9_leaveTrace ∈ gW := gw_in 903 (by decide +kernel) (by decide +kernel)
theorem kI_yX9_leaveTrace : Cond.instanceMethod yX9_leaveTrace ∈ gW := gw_in 905 (by decide +kernel) (by decide +kernel)
theorem kC_yX9_leaveTrace : Cond.code yX9_leaveTrace prog_1_method_56_code 2 none ∈ gW := gw_in 906 (by decide +kernel) (by decide +kernel)
theorem kM_RX9_338 : Cond.methodLink RX9 338 yX9_tellSlow ∈ gW := gw_in 907 (by decide +kernel) (by decide +kernel)
theorem kI_yX9_tellSlow : Cond.instanceMethod yX9_tellSlow ∈ gW := gw_in 909 (by decide +kernel) (by decide +kernel)
theorem kC_yX9_tellSlow : Cond.code yX9_tellSlow prog_1_method_58_code 2 (some .int) ∈ gW := gw_in 910 (by decide +kernel) (by decide +kernel)
theorem kM_RX9_341 : Cond.methodLink RX9 341 yX9_tellChild ∈ gW := gw_in 911 (by decide +kernel) (by decide +kernel)
theorem kI_yX9_tellChild : Cond.instanceMethod yX9_tellChild ∈ gW := gw_in 913 (by decide +kernel) (by decide +kernel)
theorem kC_yX9_tellChild : Cond.code yX9_tellChild prog_1_method_57_code 2 (some .int) ∈ gW := gw_in 914 (by decide +kernel) (by decide +kernel)
theorem kM_RL_135 : Cond.methodLink RL 135 yX9_tag ∈ gW := gw_in 915 (by decide +kernel) (by decide +kernel)
theorem kI_yX9_tag : Cond.instanceMethod yX9_tag ∈ gW := gw_in 916 (by decide +kernel) (by decide +kernel)
theorem kS_yX9_tag : Cond.selects "WalkingBus" yX9_tag yX9_tag ∈ gW := gw_in 917 (by decide +kernel) (by decide +kernel)
theorem kC_yX9_tag : Cond.code yX9_tag prog_1_method_30_code 2 (some .int) ∈ gW := gw_in 918 (by decide +kernel) (by decide +kernel)
theorem kM_RL_139 : Cond.methodLink RL 139 yX9_as ∈ gW := gw_in 919 (by decide +kernel) (by decide +kernel)
theorem kI_yX9_as : Cond.instanceMethod yX9_as ∈ gW := gw_in 920 (by decide +kernel) (by decide +kernel)
theorem kS_yX9_as : Cond.selects "WalkingBus" yX9_as yX9_as ∈ gW := gw_in 921 (by decide +kernel) (by decide +kernel)
theorem kC_yX9_as : Cond.code yX9_as prog_1_method_31_code 3 (some .int) ∈ gW := gw_in 922 (by decide +kernel) (by decide +kernel)
theorem kM_RL_143 : Cond.methodLink RL 143 yX9_trace ∈ gW := gw_in 923 (by decide +kernel) (by decide +kernel)
theorem kI_yX9_trace : Cond.instanceMethod yX9_trace ∈ gW := gw_in 924 (by decide +kernel) (by decide +kernel)
theorem kS_yX9_trace : Cond.selects "WalkingBus" yX9_trace yX9_trace ∈ gW := gw_in 925 (by decide +kernel) (by decide +kernel)
theorem kC_yX9_trace : Cond.code yX9_trace prog_1_method_32_code 1 (some .int) ∈ gW := gw_in 926 (by decide +kernel) (by decide +kernel)
theorem kM_RL_148 : Cond.methodLink RL 148 yX9_fault ∈ gW := gw_in 927 (by decide +kernel) (by decide +kernel)
theorem kI_yX9_fault : Cond.instanceMethod yX9_fault ∈ gW := gw_in 928 (by decide +kernel) (by decide +kernel)
theorem kS_yX9_fault : Cond.selects "WalkingBus" yX9_fault yX9_fault ∈ gW := gw_in 929 (by decide +kernel) (by decide +kernel)
theorem kC_yX9_fault : Cond.code yX9_fault prog_1_method_33_code 1 (some .int) ∈ gW := gw_in 930 (by decide +kernel) (by decide +kernel)
theorem kM_RL_152 : Cond.methodLink RL 152 yX9_many ∈ gW := gw_in 931 (by decide +kernel) (by decide +kernel)
theorem kI_yX9_many : Cond.instanceMethod yX9_many ∈ gW := gw_in 932 (by decide +kernel) (by decide +kernel)
theorem kS_yX9_many : Cond.selects "WalkingBus" yX9_many yX9_many ∈ gW := gw_in 933 (by decide +kernel) (by decide +kernel)
theorem kC_yX9_many : Cond.code yX9_many prog_1_method_34_code 2 (some .int) ∈ gW := gw_in 934 (by decide +kernel) (by decide +kernel)
theorem kM_RX9_351 : Cond.methodLink RX9 351 yX7_crossings ∈ gW := gw_in 935 (by decide +kernel) (by decide +kernel)
theorem kI_yX7_crossings : Cond.instanceMethod yX7_crossings ∈ gW := gw_in 936 (by decide +kernel) (by decide +kernel)
theorem kS_yX7_crossings : Cond.selects "WalkingBus$Streets" yX7_crossings yX7_crossings ∈ gW := gw_in 937 (by decide +kernel) (by decide +kernel)
theorem kC_yX7_crossings : Cond.code yX7_crossings prog_9_method_4_code 3 (some .int) ∈ gW := gw_in 938 (by decide +kernel) (by decide +kernel)
theorem kM_RX9_354 : Cond.methodLink RX9 354 yX9_pairs ∈ gW := gw_in 939 (by decide +kernel) (by decide +kernel)
theorem kI_yX9_pairs : Cond.instanceMethod yX9_pairs ∈ gW := gw_in 941 (by decide +kernel) (by decide +kernel)
theorem kC_yX9_pairs : Cond.code yX9_pairs prog_1_method_60_code 4 (some .int) ∈ gW := gw_in 942 (by decide +kernel) (by decide +kernel)
theorem kL_RL_10 : Cond.classLink RL 10 "WalkingBusModel" ∈ gW := gw_in 943 (by decide +kernel) (by decide +kernel)
theorem kA_RX10 : Cond.instantiable "WalkingBusModel" 42 ∈ gW := gw_in 944 (by decide +kernel) (by decide +kernel)
theorem kM_RL_12 : Cond.methodLink RL 12 yX10_init ∈ gW := gw_in 945 (by decide +kernel) (by decide +kernel)
theorem kI_yX10_init : Cond.instanceMethod yX10_init ∈ gW := gw_in 946 (by decide +kernel) (by decide +kernel)
theorem kC_yX10_init : Cond.code yX10_init prog_12_method_1_code 1 none ∈ gW := gw_in 947 (by decide +kernel) (by decide +kernel)
theorem kM_RX10_1 : Cond.methodLink RX10 1 objectInit ∈ gW := gw_in 948 (by decide +kernel) (by decide +kernel)
theorem kF_RX10_87 : Cond.fieldLink RX10 87 "WalkingBusModel" "fault" "I" ∈ gW := gw_in 949 (by decide +kernel) (by decide +kernel)
theorem kF_RX10_310 : Cond.fieldLink RX10 310 "WalkingBusModel" "trace" "I" ∈ gW := gw_in 950 (by decide +kernel) (by decide +kernel)
theorem kF_RX10_9 : Cond.fieldLink RX10 9 "WalkingBusModel" "sorts" "[I" ∈ gW := gw_in 951 (by decide +kernel) (by decide +kernel)
theorem kF_RX10_13 : Cond.fieldLink RX10 13 "WalkingBusModel" "sheetLong" "[I" ∈ gW := gw_in 952 (by decide +kernel) (by decide +kernel)
theorem kF_RX10_16 : Cond.fieldLink RX10 16 "WalkingBusModel" "cells" "[I" ∈ gW := gw_in 953 (by decide +kernel) (by decide +kernel)
theorem kF_RX10_96 : Cond.fieldLink RX10 96 "WalkingBusModel" "corners" "I" ∈ gW := gw_in 954 (by decide +kernel) (by decide +kernel)
theorem kF_RX10_124 : Cond.fieldLink RX10 124 "WalkingBusModel" "roads" "I" ∈ gW := gw_in 955 (by decide +kernel) (by decide +kernel)
theorem kF_RX10_130 : Cond.fieldLink RX10 130 "WalkingBusModel" "school" "I" ∈ gW := gw_in 956 (by decide +kernel) (by decide +kernel)
theorem kF_RX10_19 : Cond.fieldLink RX10 19 "WalkingBusModel" "roadA" "[I" ∈ gW := gw_in 957 (by decide +kernel) (by decide +kernel)
theorem kF_RX10_22 : Cond.fieldLink RX10 22 "WalkingBusModel" "roadB" "[I" ∈ gW := gw_in 958 (by decide +kernel) (by decide +kernel)
theorem kF_RX10_25 : Cond.fieldLink RX10 25 "WalkingBusModel" "roadLong" "[I" ∈ gW := gw_in 959 (by decide +kernel) (by decide +kernel)
theorem kF_RX10_28 : Cond.fieldLink RX10 28 "WalkingBusModel" "roadOdds" "[I" ∈ gW := gw_in 960 (by decide +kernel) (by decide +kernel)
theorem kF_RX10_31 : Cond.fieldLink RX10 31 "WalkingBusModel" "roadShut" "[I" ∈ gW := gw_in 961 (by decide +kernel) (by decide +kernel)
theorem kF_RX10_34 : Cond.fieldLink RX10 34 "WalkingBusModel" "far" "[I" ∈ gW := gw_in 962 (by decide +kernel) (by decide +kernel)
theorem kF_RX10_118 : Cond.fieldLink RX10 118 "WalkingBusModel" "readCorners" "I" ∈ gW := gw_in 963 (by decide +kernel) (by decide +kernel)
theorem kF_RX10_121 : Cond.fieldLink RX10 121 "WalkingBusModel" "readRoads" "I" ∈ gW := gw_in 964 (by decide +kernel) (by decide +kernel)
theorem kF_RX10_127 : Cond.fieldLink RX10 127 "WalkingBusModel" "readSchool" "I" ∈ gW := gw_in 965 (by decide +kernel) (by decide +kernel)
theorem kF_RX10_37 : Cond.fieldLink RX10 37 "WalkingBusModel" "read" "[I" ∈ gW := gw_in 966 (by decide +kernel) (by decide +kernel)
theorem kF_RX10_142 : Cond.fieldLink RX10 142 "WalkingBusModel" "at" "I" ∈ gW := gw_in 967 (by decide +kernel) (by decide +kernel)
theorem kF_RX10_133 : Cond.fieldLink RX10 133 "WalkingBusModel" "children" "I" ∈ gW := gw_in 968 (by decide +kernel) (by decide +kernel)
theorem kF_RX10_40 : Cond.fieldLink RX10 40 "WalkingBusModel" "childKind" "[I" ∈ gW := gw_in 969 (by decide +kernel) (by decide +kernel)
theorem kF_RX10_43 : Cond.fieldLink RX10 43 "WalkingBusModel" "childCorner" "[I" ∈ gW := gw_in 970 (by decide +kernel) (by decide +kernel)
theorem kF_RX10_46 : Cond.fieldLink RX10 46 "WalkingBusModel" "childAge" "[I" ∈ gW := gw_in 971 (by decide +kernel) (by decide +kernel)
theorem kF_RX10_49 : Cond.fieldLink RX10 49 "WalkingBusModel" "childReady" "[I" ∈ gW := gw_in 972 (by decide +kernel) (by decide +kernel)
theorem kF_RX10_52 : Cond.fieldLink RX10 52 "WalkingBusModel" "ties" "[I" ∈ gW := gw_in 973 (by decide +kernel) (by decide +kernel)
theorem kF_RX10_55 : Cond.fieldLink RX10 55 "WalkingBusModel" "chance" "[J" ∈ gW := gw_in 974 (by decide +kernel) (by decide +kernel)
theorem kF_RX10_59 : Cond.fieldLink RX10 59 "WalkingBusModel" "gates" "[I" ∈ gW := gw_in 975 (by decide +kernel) (by decide +kernel)
theorem kF_RX10_181 : Cond.fieldLink RX10 181 "WalkingBusModel" "gateCount" "I" ∈ gW := gw_in 976 (by decide +kernel) (by decide +kernel)
theorem kF_RX10_184 : Cond.fieldLink RX10 184 "WalkingBusModel" "most" "I" ∈ gW := gw_in 977 (by decide +kernel) (by decide +kernel)
theorem kF_RX10_247 : Cond.fieldLink RX10 247 "WalkingBusModel" "bestStart" "I" ∈ gW := gw_in 978 (by decide +kernel) (by decide +kernel)
theorem kF_RX10_62 : Cond.fieldLink RX10 62 "WalkingBusModel" "bestGates" "[I" ∈ gW := gw_in 979 (by decide +kernel) (by decide +kernel)
theorem kF_RX10_65 : Cond.fieldLink RX10 65 "WalkingBusModel" "setGates" "[I" ∈ gW := gw_in 980 (by decide +kernel) (by decide +kernel)
theorem kF_RX10_68 : Cond.fieldLink RX10 68 "WalkingBusModel" "holding" "I" ∈ gW := gw_in 981 (by decide +kernel) (by decide +kernel)
theorem kF_RX10_72 : Cond.fieldLink RX10 72 "WalkingBusModel" "loop" "[I" ∈ gW := gw_in 982 (by decide +kernel) (by decide +kernel)
theorem kF_RX10_75 : Cond.fieldLink RX10 75 "WalkingBusModel" "bestLoop" "[I" ∈ gW := gw_in 983 (by decide +kernel) (by decide +kernel)
theorem kF_RX10_272 : Cond.fieldLink RX10 272 "WalkingBusModel" "bestRows" "I" ∈ gW := gw_in 984 (by decide +kernel) (by decide +kernel)
theorem kF_RX10_268 : Cond.fieldLink RX10 268 "WalkingBusModel" "ropes" "J" ∈ gW := gw_in 985 (by decide +kernel) (by decide +kernel)
theorem kF_RX10_295 : Cond.fieldLink RX10 295 "WalkingBusModel" "helpers" "I" ∈ gW := gw_in 986 (by decide +kernel) (by decide +kernel)
theorem kF_RX10_78 : Cond.fieldLink RX10 78 "WalkingBusModel" "helperDays" "[I" ∈ gW := gw_in 987 (by decide +kernel) (by decide +kernel)
theorem kF_RX10_81 : Cond.fieldLink RX10 81 "WalkingBusModel" "weekSet" "[I" ∈ gW := gw_in 988 (by decide +kernel) (by decide +kernel)
theorem kF_RX10_84 : Cond.fieldLink RX10 84 "WalkingBusModel" "bestWeek" "[I" ∈ gW := gw_in 989 (by decide +kernel) (by decide +kernel)
theorem kF_RX10_298 : Cond.fieldLink RX10 298 "WalkingBusModel" "bestMost" "I" ∈ gW := gw_in 990 (by decide +kernel) (by decide +kernel)
theorem kM_RL_17 : Cond.methodLink RL 17 yX10_streets ∈ gW := gw_in 1076 (by decide +kernel) (by decide +kernel)
theorem kI_yX10_streets : Cond.instanceMethod yX10_streets ∈ gW := gw_in 1077 (by decide +kernel) (by decide +kernel)
theorem kS_yX10_streets : Cond.selects "WalkingBusModel" yX10_streets yX10_streets ∈ gW := gw_in 1078 (by decide +kernel) (by decide +kernel)
theorem kC_yX10_streets : Cond.code yX10_streets prog_12_method_12_code 8 (some .int) ∈ gW := gw_in 1079 (by decide +kernel) (by decide +kernel)
theorem kM_RX10_99 : Cond.methodLink RX10 99 yX10_isSheet ∈ gW := gw_in 1080 (by decide +kernel) (by decide +kernel)
theorem kT_yX10_isSheet : Cond.static yX10_isSheet ∈ gW := gw_in 1081 (by decide +kernel) (by decide +kernel)
theorem kC_yX10_isSheet : Cond.code yX10_isSheet prog_12_method_8_code 1 (some .boolean) ∈ gW := gw_in 1082 (by decide +kernel) (by decide +kernel)
theorem kM_RX10_92 : Cond.methodLink RX10 92 yX10_within ∈ gW := gw_in 1083 (by decide +kernel) (by decide +kernel)
theorem kT_yX10_within : Cond.static yX10_within ∈ gW := gw_in 1084 (by decide +kernel) (by decide +kernel)
theorem kC_yX10_within : Cond.code yX10_within prog_12_method_5_code 3 (some .boolean) ∈ gW := gw_in 1085 (by decide +kernel) (by decide +kernel)
theorem kM_RX10_103 : Cond.methodLink RX10 103 yX10_isSort ∈ gW := gw_in 1086 (by decide +kernel) (by decide +kernel)
theorem kT_yX10_isSort : Cond.static yX10_isSort ∈ gW := gw_in 1087 (by decide +kernel) (by decide +kernel)
theorem kC_yX10_isSort : Cond.code yX10_isSort prog_12_method_9_code 1 (some .boolean) ∈ gW := gw_in 1088 (by decide +kernel) (by decide +kernel)
theorem kM_RX10_106 : Cond.methodLink RX10 106 yX10_against ∈ gW := gw_in 1089 (by decide +kernel) (by decide +kernel)
theorem kI_yX10_against : Cond.instanceMethod yX10_against ∈ gW := gw_in 1091 (by decide +kernel) (by decide +kernel)
theorem kC_yX10_against : Cond.code yX10_against prog_12_method_10_code 5 (some .int) ∈ gW := gw_in 1092 (by decide +kernel) (by decide +kernel)
theorem kM_RX10_110 : Cond.methodLink RX10 110 yX10_fails ∈ gW := gw_in 1093 (by decide +kernel) (by decide +kernel)
theorem kI_yX10_fails : Cond.instanceMethod yX10_fails ∈ gW := gw_in 1095 (by decide +kernel) (by decide +kernel)
theorem kC_yX10_fails : Cond.code yX10_fails prog_12_method_3_code 2 (some .int) ∈ gW := gw_in 1096 (by decide +kernel) (by decide +kernel)
theorem kM_RX10_114 : Cond.methodLink RX10 114 yX10_readStreets ∈ gW := gw_in 1097 (by decide +kernel) (by decide +kernel)
theorem kI_yX10_readStreets : Cond.instanceMethod yX10_readStreets ∈ gW := gw_in 1099 (by decide +kernel) (by decide +kernel)
theorem kC_yX10_readStreets : Cond.code yX10_readStreets prog_12_method_14_code 4 (some .int) ∈ gW := gw_in 1100 (by decide +kernel) (by decide +kernel)
theorem kM_RX10_139 : Cond.methodLink RX10 139 yX10_digitAt ∈ gW := gw_in 1101 (by decide +kernel) (by decide +kernel)
theorem kI_yX10_digitAt : Cond.instanceMethod yX10_digitAt ∈ gW := gw_in 1103 (by decide +kernel) (by decide +kernel)
theorem kC_yX10_digitAt : Cond.code yX10_digitAt prog_12_method_13_code 3 (some .int) ∈ gW := gw_in 1104 (by decide +kernel) (by decide +kernel)
theorem kM_RX10_145 : Cond.methodLink RX10 145 yX10_readRoad ∈ gW := gw_in 1105 (by decide +kernel) (by decide +kernel)
theorem kI_yX10_readRoad : Cond.instanceMethod yX10_readRoad ∈ gW := gw_in 1107 (by decide +kernel) (by decide +kernel)
theorem kC_yX10_readRoad : Cond.code yX10_readRoad prog_12_method_16_code 5 (some .boolean) ∈ gW := gw_in 1108 (by decide +kernel) (by decide +kernel)
theorem kM_RX10_148 : Cond.methodLink RX10 148 yX10_takes ∈ gW := gw_in 1109 (by decide +kernel) (by decide +kernel)
theorem kI_yX10_takes : Cond.instanceMethod yX10_takes ∈ gW := gw_in 1111 (by decide +kernel) (by decide +kernel)
theorem kC_yX10_takes : Cond.code yX10_takes prog_12_method_15_code 6 (some .boolean) ∈ gW := gw_in 1112 (by decide +kernel) (by decide +kernel)
theorem kM_RX10_136 : Cond.methodLink RX10 136 yX10_layFar ∈ gW := gw_in 1113 (by decide +kernel) (by decide +kernel)
theorem kI_yX10_layFar : Cond.instanceMethod yX10_layFar ∈ gW := gw_in 1115 (by decide +kernel) (by decide +kernel)
theorem kC_yX10_layFar : Cond.code yX10_layFar prog_12_method_18_code 6 none ∈ gW := gw_in 1116 (by decide +kernel) (by decide +kernel)
theorem kK_RX10_152 : Cond.constant RX10 152 (1000000) ∈ gW := gw_in 1117 (by decide +kernel) (by decide +kernel)
theorem kM_RX10_153 : Cond.methodLink RX10 153 yX10_costOf ∈ gW := gw_in 1118 (by decide +kernel) (by decide +kernel)
theorem kI_yX10_costOf : Cond.instanceMethod yX10_costOf ∈ gW := gw_in 1120 (by decide +kernel) (by decide +kernel)
theorem kC_yX10_costOf : Cond.code yX10_costOf prog_12_method_17_code 2 (some .int) ∈ gW := gw_in 1121 (by decide +kernel) (by decide +kernel)
theorem kM_RL_22 : Cond.methodLink RL 22 yX10_ofRoad ∈ gW := gw_in 1122 (by decide +kernel) (by decide +kernel)
theorem kI_yX10_ofRoad : Cond.instanceMethod yX10_ofRoad ∈ gW := gw_in 1123 (by decide +kernel) (by decide +kernel)
theorem kS_yX10_ofRoad : Cond.selects "WalkingBusModel" yX10_ofRoad yX10_ofRoad ∈ gW := gw_in 1124 (by decide +kernel) (by decide +kernel)
theorem kC_yX10_ofRoad : Cond.code yX10_ofRoad prog_12_method_19_code 3 (some .int) ∈ gW := gw_in 1125 (by decide +kernel) (by decide +kernel)
theorem kM_RL_27 : Cond.methodLink RL 27 yX10_way ∈ gW := gw_in 1126 (by decide +kernel) (by decide +kernel)
theorem kI_yX10_way : Cond.instanceMethod yX10_way ∈ gW := gw_in 1127 (by decide +kernel) (by decide +kernel)
theorem kS_yX10_way : Cond.selects "WalkingBusModel" yX10_way yX10_way ∈ gW := gw_in 1128 (by decide +kernel) (by decide +kernel)
theorem kC_yX10_way : Cond.code yX10_way prog_12_method_23_code 4 (some .int) ∈ gW := gw_in 1129 (by decide +kernel) (by decide +kernel)
theorem kM_RX10_159 : Cond.methodLink RX10 159 yX10_isCorner ∈ gW := gw_in 1130 (by decide +kernel) (by decide +kernel)
theorem kI_yX10_isCorner : Cond.instanceMethod yX10_isCorner ∈ gW := gw_in 1132 (by decide +kernel) (by decide +kernel)
theorem kC_yX10_isCorner : Cond.code yX10_isCorner prog_12_method_11_code 2 (some .boolean) ∈ gW := gw_in 1133 (by decide +kernel) (by decide +kernel)
theorem kM_RX10_162 : Cond.methodLink RX10 162 yX10_isWay ∈ gW := gw_in 1134 (by decide +kernel) (by decide +kernel)
theorem kI_yX10_isWay : Cond.instanceMethod yX10_isWay ∈ gW := gw_in 1136 (by decide +kernel) (by decide +kernel)
theorem kC_yX10_isWay : Cond.code yX10_isWay prog_12_method_21_code 3 (some .boolean) ∈ gW := gw_in 1137 (by decide +kernel) (by decide +kernel)
theorem kM_RX10_166 : Cond.methodLink RX10 166 yX10_roadsOf ∈ gW := gw_in 1138 (by decide +kernel) (by decide +kernel)
theorem kI_yX10_roadsOf : Cond.instanceMethod yX10_roadsOf ∈ gW := gw_in 1140 (by decide +kernel) (by decide +kernel)
theorem kC_yX10_roadsOf : Cond.code yX10_roadsOf prog_12_method_22_code 6 (some .int) ∈ gW := gw_in 1141 (by decide +kernel) (by decide +kernel)
theorem kM_RX10_156 : Cond.methodLink RX10 156 yX10_nextRoad ∈ gW := gw_in 1142 (by decide +kernel) (by decide +kernel)
theorem kI_yX10_nextRoad : Cond.instanceMethod yX10_nextRoad ∈ gW := gw_in 1144 (by decide +kernel) (by decide +kernel)
theorem kC_yX10_nextRoad : Cond.code yX10_nextRoad prog_12_method_20_code 5 (some .int) ∈ gW := gw_in 1145 (by decide +kernel) (by decide +kernel)
theorem kM_RL_31 : Cond.methodLink RL 31 yX10_along ∈ gW := gw_in 1146 (by decide +kernel) (by decide +kernel)
theorem kI_yX10_along : Cond.instanceMethod yX10_along ∈ gW := gw_in 1147 (by decide +kernel) (by decide +kernel)
theorem kS_yX10_along : Cond.selects "WalkingBusModel" yX10_along yX10_along ∈ gW := gw_in 1148 (by decide +kernel) (by decide +kernel)
theorem kC_yX10_along : Cond.code yX10_along prog_12_method_24_code 7 (some .int) ∈ gW := gw_in 1149 (by decide +kernel) (by decide +kernel)
theorem kM_RL_35 : Cond.methodLink RL 35 yX10_child ∈ gW := gw_in 1150 (by decide +kernel) (by decide +kernel)
theorem kI_yX10_child : Cond.instanceMethod yX10_child ∈ gW := gw_in 1151 (by decide +kernel) (by decide +kernel)
theorem kS_yX10_child : Cond.selects "WalkingBusModel" yX10_child yX10_child ∈ gW := gw_in 1152 (by decide +kernel) (by decide +kernel)
theorem kC_yX10_child : Cond.code yX10_child prog_12_method_26_code 6 (some .int) ∈ gW := gw_in 1153 (by decide +kernel) (by decide +kernel)
theorem kM_RL_39 : Cond.methodLink RL 39 yX10_ofChild ∈ gW := gw_in 1154 (by decide +kernel) (by decide +kernel)
theorem kI_yX10_ofChild : Cond.instanceMethod yX10_ofChild ∈ gW := gw_in 1155 (by decide +kernel) (by decide +kernel)
theorem kS_yX10_ofChild : Cond.selects "WalkingBusModel" yX10_ofChild yX10_ofChild ∈ gW := gw_in 1156 (by decide +kernel) (by decide +kernel)
theorem kC_yX10_ofChild : Cond.code yX10_ofChild prog_12_method_29_code 3 (some .int) ∈ gW := gw_in 1157 (by decide +kernel) (by decide +kernel)
theorem kM_RX10_169 : Cond.methodLink RX10 169 yX10_isChild ∈ gW := gw_in 1158 (by decide +kernel) (by decide +kernel)
theorem kI_yX10_isChild : Cond.instanceMethod yX10_isChild ∈ gW := gw_in 1160 (by decide +kernel) (by decide +kernel)
theorem kC_yX10_isChild : Cond.code yX10_isChild prog_12_method_25_code 2 (some .boolean) ∈ gW := gw_in 1161 (by decide +kernel) (by decide +kernel)
theorem kM_RX10_172 : Cond.methodLink RX10 172 yX10_paceOf ∈ gW := gw_in 1162 (by decide +kernel) (by decide +kernel)
theorem kI_yX10_paceOf : Cond.instanceMethod yX10_paceOf ∈ gW := gw_in 1164 (by decide +kernel) (by decide +kernel)
theorem kC_yX10_paceOf : Cond.code yX10_paceOf prog_12_method_27_code 4 (some .int) ∈ gW := gw_in 1165 (by decide +kernel) (by decide +kernel)
theorem kM_RX10_175 : Cond.methodLink RX10 175 yX10_tiedTo ∈ gW := gw_in 1166 (by decide +kernel) (by decide +kernel)
theorem kI_yX10_tiedTo : Cond.instanceMethod yX10_tiedTo ∈ gW := gw_in 1168 (by decide +kernel) (by decide +kernel)
theorem kC_yX10_tiedTo : Cond.code yX10_tiedTo prog_12_method_28_code 5 (some .int) ∈ gW := gw_in 1169 (by decide +kernel) (by decide +kernel)
theorem kM_RL_43 : Cond.methodLink RL 43 yX10_ready ∈ gW := gw_in 1170 (by decide +kernel) (by decide +kernel)
theorem kI_yX10_ready : Cond.instanceMethod yX10_ready ∈ gW := gw_in 1171 (by decide +kernel) (by decide +kernel)
theorem kS_yX10_ready : Cond.selects "WalkingBusModel" yX10_ready yX10_ready ∈ gW := gw_in 1172 (by decide +kernel) (by decide +kernel)
theorem kC_yX10_ready : Cond.code yX10_ready prog_12_method_30_code 4 (some .int) ∈ gW := gw_in 1173 (by decide +kernel) (by decide +kernel)
theorem kM_RL_47 : Cond.methodLink RL 47 yX10_tie ∈ gW := gw_in 1174 (by decide +kernel) (by decide +kernel)
theorem kI_yX10_tie : Cond.instanceMethod yX10_tie ∈ gW := gw_in 1175 (by decide +kernel) (by decide +kernel)
theorem kS_yX10_tie : Cond.selects "WalkingBusModel" yX10_tie yX10_tie ∈ gW := gw_in 1176 (by decide +kernel) (by decide +kernel)
theorem kC_yX10_tie : Cond.code yX10_tie prog_12_method_31_code 5 (some .int) ∈ gW := gw_in 1177 (by decide +kernel) (by decide +kernel)
theorem kM_RL_52 : Cond.methodLink RL 52 yX10_late ∈ gW := gw_in 1178 (by decide +kernel) (by decide +kernel)
theorem kI_yX10_late : Cond.instanceMethod yX10_late ∈ gW := gw_in 1179 (by decide +kernel) (by decide +kernel)
theorem kS_yX10_late : Cond.selects "WalkingBusModel" yX10_late yX10_late ∈ gW := gw_in 1180 (by decide +kernel) (by decide +kernel)
theorem kC_yX10_late : Cond.code yX10_late prog_12_method_44_code 11 (some .long) ∈ gW := gw_in 1181 (by decide +kernel) (by decide +kernel)
theorem kK_RX10_90 : Cond.constantLong RX10 90 (-9223372036854775808) ∈ gW := gw_in 1182 (by decide +kernel) (by decide +kernel)
theorem kM_RX10_217 : Cond.methodLink RX10 217 yX10_isSet ∈ gW := gw_in 1183 (by decide +kernel) (by decide +kernel)
theorem kI_yX10_isSet : Cond.instanceMethod yX10_isSet ∈ gW := gw_in 1185 (by decide +kernel) (by decide +kernel)
theorem kC_yX10_isSet : Cond.code yX10_isSet prog_12_method_32_code 2 (some .boolean) ∈ gW := gw_in 1186 (by decide +kernel) (by decide +kernel)
theorem kM_RX10_220 : Cond.methodLink RX10 220 yX10_whyNotLine ∈ gW := gw_in 1187 (by decide +kernel) (by decide +kernel)
theorem kI_yX10_whyNotLine : Cond.instanceMethod yX10_whyNotLine ∈ gW := gw_in 1189 (by decide +kernel) (by decide +kernel)
theorem kC_yX10_whyNotLine : Cond.code yX10_whyNotLine prog_12_method_43_code 12 (some .int) ∈ gW := gw_in 1190 (by decide +kernel) (by decide +kernel)
theorem kM_RX10_208 : Cond.methodLink RX10 208 yX10_cornersOf ∈ gW := gw_in 1191 (by decide +kernel) (by decide +kernel)
theorem kI_yX10_cornersOf : Cond.instanceMethod yX10_cornersOf ∈ gW := gw_in 1193 (by decide +kernel) (by decide +kernel)
theorem kC_yX10_cornersOf : Cond.code yX10_cornersOf prog_12_method_33_code 4 (some .int) ∈ gW := gw_in 1194 (by decide +kernel) (by decide +kernel)
theorem kM_RX10_178 : Cond.methodLink RX10 178 yX10_has ∈ gW := gw_in 1195 (by decide +kernel) (by decide +kernel)
theorem kT_yX10_has : Cond.static yX10_has ∈ gW := gw_in 1196 (by decide +kernel) (by decide +kernel)
theorem kC_yX10_has : Cond.code yX10_has prog_12_method_6_code 2 (some .boolean) ∈ gW := gw_in 1197 (by decide +kernel) (by decide +kernel)
theorem kM_RX10_211 : Cond.methodLink RX10 211 yX10_bitsOf ∈ gW := gw_in 1198 (by decide +kernel) (by decide +kernel)
theorem kT_yX10_bitsOf : Cond.static yX10_bitsOf ∈ gW := gw_in 1199 (by decide +kernel) (by decide +kernel)
theorem kC_yX10_bitsOf : Cond.code yX10_bitsOf prog_12_method_7_code 3 (some .int) ∈ gW := gw_in 1200 (by decide +kernel) (by decide +kernel)
theorem kM_RX10_214 : Cond.methodLink RX10 214 yX10_crossingsOf ∈ gW := gw_in 1201 (by decide +kernel) (by decide +kernel)
theorem kI_yX10_crossingsOf : Cond.instanceMethod yX10_crossingsOf ∈ gW := gw_in 1203 (by decide +kernel) (by decide +kernel)
theorem kC_yX10_crossingsOf : Cond.code yX10_crossingsOf prog_12_method_34_code 6 (some .int) ∈ gW := gw_in 1204 (by decide +kernel) (by decide +kernel)
theorem kM_RX10_224 : Cond.methodLink RX10 224 yX10_lost ∈ gW := gw_in 1205 (by decide +kernel) (by decide +kernel)
theorem kI_yX10_lost : Cond.instanceMethod yX10_lost ∈ gW := gw_in 1207 (by decide +kernel) (by decide +kernel)
theorem kC_yX10_lost : Cond.code yX10_lost prog_12_method_4_code 2 (some .long) ∈ gW := gw_in 1208 (by decide +kernel) (by decide +kernel)
theorem kM_RX10_228 : Cond.methodLink RX10 228 yX10_goLine ∈ gW := gw_in 1209 (by decide +kernel) (by decide +kernel)
theorem kI_yX10_goLine : Cond.instanceMethod yX10_goLine ∈ gW := gw_in 1211 (by decide +kernel) (by decide +kernel)
theorem kC_yX10_goLine : Cond.code yX10_goLine prog_12_method_39_code 10 none ∈ gW := gw_in 1212 (by decide +kernel) (by decide +kernel)
theorem kM_RX10_197 : Cond.methodLink RX10 197 yX10_goWay ∈ gW := gw_in 1213 (by decide +kernel) (by decide +kernel)
theorem kI_yX10_goWay : Cond.instanceMethod yX10_goWay ∈ gW := gw_in 1215 (by decide +kernel) (by decide +kernel)
theorem kC_yX10_goWay : Cond.code yX10_goWay prog_12_method_38_code 6 none ∈ gW := gw_in 1216 (by decide +kernel) (by decide +kernel)
theorem kM_RX10_189 : Cond.methodLink RX10 189 yX10_moveOn ∈ gW := gw_in 1217 (by decide +kernel) (by decide +kernel)
theorem kI_yX10_moveOn : Cond.instanceMethod yX10_moveOn ∈ gW := gw_in 1219 (by decide +kernel) (by decide +kernel)
theorem kC_yX10_moveOn : Cond.code yX10_moveOn prog_12_method_35_code 5 none ∈ gW := gw_in 1220 (by decide +kernel) (by decide +kernel)
theorem kM_RX10_193 : Cond.methodLink RX10 193 yX10_cross ∈ gW := gw_in 1221 (by decide +kernel) (by decide +kernel)
theorem kI_yX10_cross : Cond.instanceMethod yX10_cross ∈ gW := gw_in 1223 (by decide +kernel) (by decide +kernel)
theorem kC_yX10_cross : Cond.code yX10_cross prog_12_method_36_code 6 none ∈ gW := gw_in 1224 (by decide +kernel) (by decide +kernel)
theorem kK_RX10_187 : Cond.constantLong RX10 187 (10) ∈ gW := gw_in 1225 (by decide +kernel) (by decide +kernel)
theorem kM_RX10_201 : Cond.methodLink RX10 201 yX10_waitTill ∈ gW := gw_in 1226 (by decide +kernel) (by decide +kernel)
theorem kI_yX10_waitTill : Cond.instanceMethod yX10_waitTill ∈ gW := gw_in 1228 (by decide +kernel) (by decide +kernel)
theorem kC_yX10_waitTill : Cond.code yX10_waitTill prog_12_method_37_code 4 none ∈ gW := gw_in 1229 (by decide +kernel) (by decide +kernel)
theorem kM_RX10_232 : Cond.methodLink RX10 232 yX10_tens ∈ gW := gw_in 1230 (by decide +kernel) (by decide +kernel)
theorem kT_yX10_tens : Cond.static yX10_tens ∈ gW := gw_in 1231 (by decide +kernel) (by decide +kernel)
theorem kC_yX10_tens : Cond.code yX10_tens prog_12_method_40_code 4 (some .long) ∈ gW := gw_in 1232 (by decide +kernel) (by decide +kernel)
theorem kM_RX10_235 : Cond.methodLink RX10 235 yX10_part ∈ gW := gw_in 1233 (by decide +kernel) (by decide +kernel)
theorem kT_yX10_part : Cond.static yX10_part ∈ gW := gw_in 1234 (by decide +kernel) (by decide +kernel)
theorem kC_yX10_part : Cond.code yX10_part prog_12_method_42_code 7 (some .long) ∈ gW := gw_in 1235 (by decide +kernel) (by decide +kernel)
theorem kM_RX10_204 : Cond.methodLink RX10 204 yX10_common ∈ gW := gw_in 1236 (by decide +kernel) (by decide +kernel)
theorem kT_yX10_common : Cond.static yX10_common ∈ gW := gw_in 1237 (by decide +kernel) (by decide +kernel)
theorem kC_yX10_common : Cond.code yX10_common prog_12_method_41_code 10 (some .long) ∈ gW := gw_in 1238 (by decide +kernel) (by decide +kernel)
theorem kM_RL_57 : Cond.methodLink RL 57 yX10_mean ∈ gW := gw_in 1239 (by decide +kernel) (by decide +kernel)
theorem kI_yX10_mean : Cond.instanceMethod yX10_mean ∈ gW := gw_in 1240 (by decide +kernel) (by decide +kernel)
theorem kS_yX10_mean : Cond.selects "WalkingBusModel" yX10_mean yX10_mean ∈ gW := gw_in 1241 (by decide +kernel) (by decide +kernel)
theorem kC_yX10_mean : Cond.code yX10_mean prog_12_method_45_code 13 (some .long) ∈ gW := gw_in 1242 (by decide +kernel) (by decide +kernel)
theorem kM_RL_61 : Cond.methodLink RL 61 yX10_start ∈ gW := gw_in 1243 (by decide +kernel) (by decide +kernel)
theorem kI_yX10_start : Cond.instanceMethod yX10_start ∈ gW := gw_in 1244 (by decide +kernel) (by decide +kernel)
theorem kS_yX10_start : Cond.selects "WalkingBusModel" yX10_start yX10_start ∈ gW := gw_in 1245 (by decide +kernel) (by decide +kernel)
theorem kC_yX10_start : Cond.code yX10_start prog_12_method_52_code 5 (some .int) ∈ gW := gw_in 1246 (by decide +kernel) (by decide +kernel)
theorem kM_RX10_253 : Cond.methodLink RX10 253 yX10_isAsked ∈ gW := gw_in 1247 (by decide +kernel) (by decide +kernel)
theorem kI_yX10_isAsked : Cond.instanceMethod yX10_isAsked ∈ gW := gw_in 1249 (by decide +kernel) (by decide +kernel)
theorem kC_yX10_isAsked : Cond.code yX10_isAsked prog_12_method_51_code 4 (some .boolean) ∈ gW := gw_in 1250 (by decide +kernel) (by decide +kernel)
theorem kM_RX10_256 : Cond.methodLink RX10 256 yX10_mayStart ∈ gW := gw_in 1251 (by decide +kernel) (by decide +kernel)
theorem kI_yX10_mayStart : Cond.instanceMethod yX10_mayStart ∈ gW := gw_in 1253 (by decide +kernel) (by decide +kernel)
theorem kC_yX10_mayStart : Cond.code yX10_mayStart prog_12_method_49_code 7 (some .boolean) ∈ gW := gw_in 1254 (by decide +kernel) (by decide +kernel)
theorem kM_RX10_241 : Cond.methodLink RX10 241 yX10_laySetGates ∈ gW := gw_in 1255 (by decide +kernel) (by decide +kernel)
theorem kI_yX10_laySetGates : Cond.instanceMethod yX10_laySetGates ∈ gW := gw_in 1257 (by decide +kernel) (by decide +kernel)
theorem kC_yX10_laySetGates : Cond.code yX10_laySetGates prog_12_method_48_code 6 (some .int) ∈ gW := gw_in 1258 (by decide +kernel) (by decide +kernel)
theorem kM_RX10_244 : Cond.methodLink RX10 244 yX10_layOrder ∈ gW := gw_in 1259 (by decide +kernel) (by decide +kernel)
theorem kI_yX10_layOrder : Cond.instanceMethod yX10_layOrder ∈ gW := gw_in 1261 (by decide +kernel) (by decide +kernel)
theorem kC_yX10_layOrder : Cond.code yX10_layOrder prog_12_method_47_code 6 (some .boolean) ∈ gW := gw_in 1262 (by decide +kernel) (by decide +kernel)
theorem kM_RX10_259 : Cond.methodLink RX10 259 yX10_findStart ∈ gW := gw_in 1263 (by decide +kernel) (by decide +kernel)
theorem kI_yX10_findStart : Cond.instanceMethod yX10_findStart ∈ gW := gw_in 1265 (by decide +kernel) (by decide +kernel)
theorem kC_yX10_findStart : Cond.code yX10_findStart prog_12_method_50_code 9 none ∈ gW := gw_in 1266 (by decide +kernel) (by decide +kernel)
theorem kM_RX10_250 : Cond.methodLink RX10 250 yX10_startBy ∈ gW := gw_in 1267 (by decide +kernel) (by decide +kernel)
theorem kI_yX10_startBy : Cond.instanceMethod yX10_startBy ∈ gW := gw_in 1269 (by decide +kernel) (by decide +kernel)
theorem kC_yX10_startBy : Cond.code yX10_startBy prog_12_method_46_code 10 (some .int) ∈ gW := gw_in 1270 (by decide +kernel) (by decide +kernel)
theorem kK_RX10_239 : Cond.constantLong RX10 239 (100) ∈ gW := gw_in 1271 (by decide +kernel) (by decide +kernel)
theorem kM_RL_66 : Cond.methodLink RL 66 yX10_gate ∈ gW := gw_in 1272 (by decide +kernel) (by decide +kernel)
theorem kI_yX10_gate : Cond.instanceMethod yX10_gate ∈ gW := gw_in 1273 (by decide +kernel) (by decide +kernel)
theorem kS_yX10_gate : Cond.selects "WalkingBusModel" yX10_gate yX10_gate ∈ gW := gw_in 1274 (by decide +kernel) (by decide +kernel)
theorem kC_yX10_gate : Cond.code yX10_gate prog_12_method_53_code 6 (some .int) ∈ gW := gw_in 1275 (by decide +kernel) (by decide +kernel)
theorem kM_RL_71 : Cond.methodLink RL 71 yX10_holds ∈ gW := gw_in 1276 (by decide +kernel) (by decide +kernel)
theorem kI_yX10_holds : Cond.instanceMethod yX10_holds ∈ gW := gw_in 1277 (by decide +kernel) (by decide +kernel)
theorem kS_yX10_holds : Cond.selects "WalkingBusModel" yX10_holds yX10_holds ∈ gW := gw_in 1278 (by decide +kernel) (by decide +kernel)
theorem kC_yX10_holds : Cond.code yX10_holds prog_12_method_54_code 3 (some .int) ∈ gW := gw_in 1279 (by decide +kernel) (by decide +kernel)
theorem kM_RL_75 : Cond.methodLink RL 75 yX10_grown ∈ gW := gw_in 1280 (by decide +kernel) (by decide +kernel)
theorem kI_yX10_grown : Cond.instanceMethod yX10_grown ∈ gW := gw_in 1281 (by decide +kernel) (by decide +kernel)
theorem kS_yX10_grown : Cond.selects "WalkingBusModel" yX10_grown yX10_grown ∈ gW := gw_in 1282 (by decide +kernel) (by decide +kernel)
theorem kC_yX10_grown : Cond.code yX10_grown prog_12_method_56_code 2 (some .int) ∈ gW := gw_in 1283 (by decide +kernel) (by decide +kernel)
theorem kM_RX10_262 : Cond.methodLink RX10 262 yX10_grownOf ∈ gW := gw_in 1284 (by decide +kernel) (by decide +kernel)
theorem kI_yX10_grownOf : Cond.instanceMethod yX10_grownOf ∈ gW := gw_in 1286 (by decide +kernel) (by decide +kernel)
theorem kC_yX10_grownOf : Cond.code yX10_grownOf prog_12_method_55_code 4 (some .int) ∈ gW := gw_in 1287 (by decide +kernel) (by decide +kernel)
theorem kM_RL_79 : Cond.methodLink RL 79 yX10_split ∈ gW := gw_in 1288 (by decide +kernel) (by decide +kernel)
theorem kI_yX10_split : Cond.instanceMethod yX10_split ∈ gW := gw_in 1289 (by decide +kernel) (by decide +kernel)
theorem kS_yX10_split : Cond.selects "WalkingBusModel" yX10_split yX10_split ∈ gW := gw_in 1290 (by decide +kernel) (by decide +kernel)
theorem kC_yX10_split : Cond.code yX10_split prog_12_method_58_code 15 (some .int) ∈ gW := gw_in 1291 (by decide +kernel) (by decide +kernel)
theorem kM_RX10_265 : Cond.methodLink RX10 265 yX10_startOf ∈ gW := gw_in 1292 (by decide +kernel) (by decide +kernel)
theorem kI_yX10_startOf : Cond.instanceMethod yX10_startOf ∈ gW := gw_in 1294 (by decide +kernel) (by decide +kernel)
theorem kC_yX10_startOf : Cond.code yX10_startOf prog_12_method_57_code 5 (some .int) ∈ gW := gw_in 1295 (by decide +kernel) (by decide +kernel)
theorem kM_RL_84 : Cond.methodLink RL 84 yX10_ways ∈ gW := gw_in 1296 (by decide +kernel) (by decide +kernel)
theorem kI_yX10_ways : Cond.instanceMethod yX10_ways ∈ gW := gw_in 1297 (by decide +kernel) (by decide +kernel)
theorem kS_yX10_ways : Cond.selects "WalkingBusModel" yX10_ways yX10_ways ∈ gW := gw_in 1298 (by decide +kernel) (by decide +kernel)
theorem kC_yX10_ways : Cond.code yX10_ways prog_12_method_63_code 3 (some .long) ∈ gW := gw_in 1299 (by decide +kernel) (by decide +kernel)
theorem kM_RX10_282 : Cond.methodLink RX10 282 yX10_isRope ∈ gW := gw_in 1300 (by decide +kernel) (by decide +kernel)
theorem kI_yX10_isRope : Cond.instanceMethod yX10_isRope ∈ gW := gw_in 1302 (by decide +kernel) (by decide +kernel)
theorem kC_yX10_isRope : Cond.code yX10_isRope prog_12_method_62_code 3 (some .boolean) ∈ gW := gw_in 1303 (by decide +kernel) (by decide +kernel)
theorem kM_RX10_285 : Cond.methodLink RX10 285 yX10_layRopes ∈ gW := gw_in 1304 (by decide +kernel) (by decide +kernel)
theorem kI_yX10_layRopes : Cond.instanceMethod yX10_layRopes ∈ gW := gw_in 1306 (by decide +kernel) (by decide +kernel)
theorem kC_yX10_layRopes : Cond.code yX10_layRopes prog_12_method_61_code 12 none ∈ gW := gw_in 1307 (by decide +kernel) (by decide +kernel)
theorem kM_RX10_275 : Cond.methodLink RX10 275 yX10_mayBe ∈ gW := gw_in 1308 (by decide +kernel) (by decide +kernel)
theorem kI_yX10_mayBe : Cond.instanceMethod yX10_mayBe ∈ gW := gw_in 1310 (by decide +kernel) (by decide +kernel)
theorem kC_yX10_mayBe : Cond.code yX10_mayBe prog_12_method_59_code 5 (some .boolean) ∈ gW := gw_in 1311 (by decide +kernel) (by decide +kernel)
theorem kM_RX10_279 : Cond.methodLink RX10 279 yX10_friendRows ∈ gW := gw_in 1312 (by decide +kernel) (by decide +kernel)
theorem kI_yX10_friendRows : Cond.instanceMethod yX10_friendRows ∈ gW := gw_in 1314 (by decide +kernel) (by decide +kernel)
theorem kC_yX10_friendRows : Cond.code yX10_friendRows prog_12_method_60_code 4 (some .int) ∈ gW := gw_in 1315 (by decide +kernel) (by decide +kernel)
theorem kM_RL_88 : Cond.methodLink RL 88 yX10_friendly ∈ gW := gw_in 1316 (by decide +kernel) (by decide +kernel)
theorem kI_yX10_friendly : Cond.instanceMethod yX10_friendly ∈ gW := gw_in 1317 (by decide +kernel) (by decide +kernel)
theorem kS_yX10_friendly : Cond.selects "WalkingBusModel" yX10_friendly yX10_friendly ∈ gW := gw_in 1318 (by decide +kernel) (by decide +kernel)
theorem kC_yX10_friendly : Cond.code yX10_friendly prog_12_method_64_code 4 (some .int) ∈ gW := gw_in 1319 (by decide +kernel) (by decide +kernel)
theorem kM_RL_93 : Cond.methodLink RL 93 yX10_loss ∈ gW := gw_in 1320 (by decide +kernel) (by decide +kernel)
theorem kI_yX10_loss : Cond.instanceMethod yX10_loss ∈ gW := gw_in 1321 (by decide +kernel) (by decide +kernel)
theorem kS_yX10_loss : Cond.selects "WalkingBusModel" yX10_loss yX10_loss ∈ gW := gw_in 1322 (by decide +kernel) (by decide +kernel)
theorem kC_yX10_loss : Cond.code yX10_loss prog_12_method_67_code 8 (some .long) ∈ gW := gw_in 1323 (by decide +kernel) (by decide +kernel)
theorem kM_RX10_289 : Cond.methodLink RX10 289 yX10_isLate ∈ gW := gw_in 1324 (by decide +kernel) (by decide +kernel)
theorem kT_yX10_isLate : Cond.static yX10_isLate ∈ gW := gw_in 1325 (by decide +kernel) (by decide +kernel)
theorem kC_yX10_isLate : Cond.code yX10_isLate prog_12_method_65_code 3 (some .boolean) ∈ gW := gw_in 1326 (by decide +kernel) (by decide +kernel)
theorem kK_RX10_288 : Cond.constant RX10 288 (99999999) ∈ gW := gw_in 1327 (by decide +kernel) (by decide +kernel)
theorem kM_RX10_292 : Cond.methodLink RX10 292 yX10_lossOf ∈ gW := gw_in 1328 (by decide +kernel) (by decide +kernel)
theorem kT_yX10_lossOf : Cond.static yX10_lossOf ∈ gW := gw_in 1329 (by decide +kernel) (by decide +kernel)
theorem kC_yX10_lossOf : Cond.code yX10_lossOf prog_12_method_66_code 7 (some .int) ∈ gW := gw_in 1330 (by decide +kernel) (by decide +kernel)
theorem kM_RL_97 : Cond.methodLink RL 97 yX10_patience ∈ gW := gw_in 1331 (by decide +kernel) (by decide +kernel)
theorem kI_yX10_patience : Cond.instanceMethod yX10_patience ∈ gW := gw_in 1332 (by decide +kernel) (by decide +kernel)
theorem kS_yX10_patience : Cond.selects "WalkingBusModel" yX10_patience yX10_patience ∈ gW := gw_in 1333 (by decide +kernel) (by decide +kernel)
theorem kC_yX10_patience : Cond.code yX10_patience prog_12_method_68_code 6 (some .int) ∈ gW := gw_in 1334 (by decide +kernel) (by decide +kernel)
theorem kM_RL_101 : Cond.methodLink RL 101 yX10_helper ∈ gW := gw_in 1335 (by decide +kernel) (by decide +kernel)
theorem kI_yX10_helper : Cond.instanceMethod yX10_helper ∈ gW := gw_in 1336 (by decide +kernel) (by decide +kernel)
theorem kS_yX10_helper : Cond.selects "WalkingBusModel" yX10_helper yX10_helper ∈ gW := gw_in 1337 (by decide +kernel) (by decide +kernel)
theorem kC_yX10_helper : Cond.code yX10_helper prog_12_method_69_code 2 (some .int) ∈ gW := gw_in 1338 (by decide +kernel) (by decide +kernel)
theorem kM_RL_105 : Cond.methodLink RL 105 yX10_days ∈ gW := gw_in 1339 (by decide +kernel) (by decide +kernel)
theorem kI_yX10_days : Cond.instanceMethod yX10_days ∈ gW := gw_in 1340 (by decide +kernel) (by decide +kernel)
theorem kS_yX10_days : Cond.selects "WalkingBusModel" yX10_days yX10_days ∈ gW := gw_in 1341 (by decide +kernel) (by decide +kernel)
theorem kC_yX10_days : Cond.code yX10_days prog_12_method_70_code 4 (some .int) ∈ gW := gw_in 1342 (by decide +kernel) (by decide +kernel)
theorem kM_RL_109 : Cond.methodLink RL 109 yX10_week ∈ gW := gw_in 1343 (by decide +kernel) (by decide +kernel)
theorem kI_yX10_week : Cond.instanceMethod yX10_week ∈ gW := gw_in 1344 (by decide +kernel) (by decide +kernel)
theorem kS_yX10_week : Cond.selects "WalkingBusModel" yX10_week yX10_week ∈ gW := gw_in 1345 (by decide +kernel) (by decide +kernel)
theorem kC_yX10_week : Cond.code yX10_week prog_12_method_74_code 3 (some .int) ∈ gW := gw_in 1346 (by decide +kernel) (by decide +kernel)
theorem kM_RX10_307 : Cond.methodLink RX10 307 yX10_layWeek ∈ gW := gw_in 1347 (by decide +kernel) (by decide +kernel)
theorem kI_yX10_layWeek : Cond.instanceMethod yX10_layWeek ∈ gW := gw_in 1349 (by decide +kernel) (by decide +kernel)
theorem kC_yX10_layWeek : Cond.code yX10_layWeek prog_12_method_73_code 6 none ∈ gW := gw_in 1350 (by decide +kernel) (by decide +kernel)
theorem kM_RX10_301 : Cond.methodLink RX10 301 yX10_mayHelp ∈ gW := gw_in 1351 (by decide +kernel) (by decide +kernel)
theorem kI_yX10_mayHelp : Cond.instanceMethod yX10_mayHelp ∈ gW := gw_in 1353 (by decide +kernel) (by decide +kernel)
theorem kC_yX10_mayHelp : Cond.code yX10_mayHelp prog_12_method_71_code 5 (some .boolean) ∈ gW := gw_in 1354 (by decide +kernel) (by decide +kernel)
theorem kM_RX10_304 : Cond.methodLink RX10 304 yX10_mostDays ∈ gW := gw_in 1355 (by decide +kernel) (by decide +kernel)
theorem kI_yX10_mostDays : Cond.instanceMethod yX10_mostDays ∈ gW := gw_in 1357 (by decide +kernel) (by decide +kernel)
theorem kC_yX10_mostDays : Cond.code yX10_mostDays prog_12_method_72_code 6 (some .int) ∈ gW := gw_in 1358 (by decide +kernel) (by decide +kernel)
theorem kM_RL_113 : Cond.methodLink RL 113 yX10_sheet ∈ gW := gw_in 1359 (by decide +kernel) (by decide +kernel)
theorem kI_yX10_sheet : Cond.instanceMethod yX10_sheet ∈ gW := gw_in 1360 (by decide +kernel) (by decide +kernel)
theorem kS_yX10_sheet : Cond.selects "WalkingBusModel" yX10_sheet yX10_sheet ∈ gW := gw_in 1361 (by decide +kernel) (by decide +kernel)
theorem kC_yX10_sheet : Cond.code yX10_sheet prog_12_method_75_code 5 (some .int) ∈ gW := gw_in 1362 (by decide +kernel) (by decide +kernel)
theorem kM_RL_117 : Cond.methodLink RL 117 yX10_lose ∈ gW := gw_in 1363 (by decide +kernel) (by decide +kernel)
theorem kI_yX10_lose : Cond.instanceMethod yX10_lose ∈ gW := gw_in 1364 (by decide +kernel) (by decide +kernel)
theorem kS_yX10_lose : Cond.selects "WalkingBusModel" yX10_lose yX10_lose ∈ gW := gw_in 1365 (by decide +kernel) (by decide +kernel)
theorem kC_yX10_lose : Cond.code yX10_lose prog_12_method_76_code 3 (some .int) ∈ gW := gw_in 1366 (by decide +kernel) (by decide +kernel)
theorem kM_RL_121 : Cond.methodLink RL 121 yX10_put ∈ gW := gw_in 1367 (by decide +kernel) (by decide +kernel)
theorem kI_yX10_put : Cond.instanceMethod yX10_put ∈ gW := gw_in 1368 (by decide +kernel) (by decide +kernel)
theorem kS_yX10_put : Cond.selects "WalkingBusModel" yX10_put yX10_put ∈ gW := gw_in 1369 (by decide +kernel) (by decide +kernel)
theorem kC_yX10_put : Cond.code yX10_put prog_12_method_77_code 4 (some .int) ∈ gW := gw_in 1370 (by decide +kernel) (by decide +kernel)
theorem kM_RL_126 : Cond.methodLink RL 126 yX10_cell ∈ gW := gw_in 1371 (by decide +kernel) (by decide +kernel)
theorem kI_yX10_cell : Cond.instanceMethod yX10_cell ∈ gW := gw_in 1372 (by decide +kernel) (by decide +kernel)
theorem kS_yX10_cell : Cond.selects "WalkingBusModel" yX10_cell yX10_cell ∈ gW := gw_in 1373 (by decide +kernel) (by decide +kernel)
theorem kC_yX10_cell : Cond.code yX10_cell prog_12_method_78_code 4 (some .long) ∈ gW := gw_in 1374 (by decide +kernel) (by decide +kernel)
theorem kM_RL_130 : Cond.methodLink RL 130 yX10_copy ∈ gW := gw_in 1375 (by decide +kernel) (by decide +kernel)
theorem kI_yX10_copy : Cond.instanceMethod yX10_copy ∈ gW := gw_in 1376 (by decide +kernel) (by decide +kernel)
theorem kS_yX10_copy : Cond.selects "WalkingBusModel" yX10_copy yX10_copy ∈ gW := gw_in 1377 (by decide +kernel) (by decide +kernel)
theorem kC_yX10_copy : Cond.code yX10_copy prog_12_method_79_code 10 (some .int) ∈ gW := gw_in 1378 (by decide +kernel) (by decide +kernel)
theorem kM_RL_134 : Cond.methodLink RL 134 yX10_tell ∈ gW := gw_in 1379 (by decide +kernel) (by decide +kernel)
theorem kI_yX10_tell : Cond.instanceMethod yX10_tell ∈ gW := gw_in 1380 (by decide +kernel) (by decide +kernel)
theorem kS_yX10_tell : Cond.selects "WalkingBusModel" yX10_tell yX10_tell ∈ gW := gw_in 1381 (by decide +kernel) (by decide +kernel)
theorem kC_yX10_tell : Cond.code yX10_tell prog_12_method_81_code 3 (some .int) ∈ gW := gw_in 1382 (by decide +kernel) (by decide +kernel)
theorem kM_RX10_313 : Cond.methodLink RX10 313 yX10_begins ∈ gW := gw_in 1383 (by decide +kernel) (by decide +kernel)
theorem kI_yX10_begins : Cond.instanceMethod yX10_begins ∈ gW := gw_in 1385 (by decide +kernel) (by decide +kernel)
theorem kC_yX10_begins : Cond.code yX10_begins prog_12_method_80_code 2 none ∈ gW := gw_in 1386 (by decide +kernel) (by decide +kernel)
theorem kM_RL_138 : Cond.methodLink RL 138 yX10_tag ∈ gW := gw_in 1387 (by decide +kernel) (by decide +kernel)
theorem kI_yX10_tag : Cond.instanceMethod yX10_tag ∈ gW := gw_in 1388 (by decide +kernel) (by decide +kernel)
theorem kS_yX10_tag : Cond.selects "WalkingBusModel" yX10_tag yX10_tag ∈ gW := gw_in 1389 (by decide +kernel) (by decide +kernel)
theorem kC_yX10_tag : Cond.code yX10_tag prog_12_method_82_code 2 (some .int) ∈ gW := gw_in 1390 (by decide +kernel) (by decide +kernel)
theorem kM_RL_142 : Cond.methodLink RL 142 yX10_as ∈ gW := gw_in 1391 (by decide +kernel) (by decide +kernel)
theorem kI_yX10_as : Cond.instanceMethod yX10_as ∈ gW := gw_in 1392 (by decide +kernel) (by decide +kernel)
theorem kS_yX10_as : Cond.selects "WalkingBusModel" yX10_as yX10_as ∈ gW := gw_in 1393 (by decide +kernel) (by decide +kernel)
theorem kC_yX10_as : Cond.code yX10_as prog_12_method_83_code 3 (some .int) ∈ gW := gw_in 1394 (by decide +kernel) (by decide +kernel)
theorem kM_RL_147 : Cond.methodLink RL 147 yX10_trace ∈ gW := gw_in 1395 (by decide +kernel) (by decide +kernel)
theorem kI_yX10_trace : Cond.instanceMethod yX10_trace ∈ gW := gw_in 1396 (by decide +kernel) (by decide +kernel)
theorem kS_yX10_trace : Cond.selects "WalkingBusModel" yX10_trace yX10_trace ∈ gW := gw_in 1397 (by decide +kernel) (by decide +kernel)
theorem kC_yX10_trace : Cond.code yX10_trace prog_12_method_84_code 1 (some .int) ∈ gW := gw_in 1398 (by decide +kernel) (by decide +kernel)
theorem kM_RL_151 : Cond.methodLink RL 151 yX10_fault ∈ gW := gw_in 1399 (by decide +kernel) (by decide +kernel)
theorem kI_yX10_fault : Cond.instanceMethod yX10_fault ∈ gW := gw_in 1400 (by decide +kernel) (by decide +kernel)
theorem kS_yX10_fault : Cond.selects "WalkingBusModel" yX10_fault yX10_fault ∈ gW := gw_in 1401 (by decide +kernel) (by decide +kernel)
theorem kC_yX10_fault : Cond.code yX10_fault prog_12_method_85_code 1 (some .int) ∈ gW := gw_in 1402 (by decide +kernel) (by decide +kernel)
theorem kM_RL_155 : Cond.methodLink RL 155 yX10_many ∈ gW := gw_in 1403 (by decide +kernel) (by decide +kernel)
theorem kI_yX10_many : Cond.instanceMethod yX10_many ∈ gW := gw_in 1404 (by decide +kernel) (by decide +kernel)
theorem kS_yX10_many : Cond.selects "WalkingBusModel" yX10_many yX10_many ∈ gW := gw_in 1405 (by decide +kernel) (by decide +kernel)
theorem kC_yX10_many : Cond.code yX10_many prog_12_method_88_code 2 (some .int) ∈ gW := gw_in 1406 (by decide +kernel) (by decide +kernel)
theorem kM_RX10_316 : Cond.methodLink RX10 316 yX10_crossingRoads ∈ gW := gw_in 1407 (by decide +kernel) (by decide +kernel)
theorem kI_yX10_crossingRoads : Cond.instanceMethod yX10_crossingRoads ∈ gW := gw_in 1409 (by decide +kernel) (by decide +kernel)
theorem kC_yX10_crossingRoads : Cond.code yX10_crossingRoads prog_12_method_87_code 3 (some .int) ∈ gW := gw_in 1410 (by decide +kernel) (by decide +kernel)
theorem kM_RX10_320 : Cond.methodLink RX10 320 yX10_pairsOf ∈ gW := gw_in 1411 (by decide +kernel) (by decide +kernel)
theorem kI_yX10_pairsOf : Cond.instanceMethod yX10_pairsOf ∈ gW := gw_in 1413 (by decide +kernel) (by decide +kernel)
theorem kC_yX10_pairsOf : Cond.code yX10_pairsOf prog_12_method_86_code 4 (some .int) ∈ gW := gw_in 1414 (by decide +kernel) (by decide +kernel)
end
section
/-! the world by places: every object and array of the run has a place (0 .. 109, in the order of their making); what they hold is told by three functions of place and slot -/
abbrev KI : Type := Nat → Nat → Int32
abbrev KJ : Type := Nat → Nat → Int64
abbrev KR : Type := Nat → Nat → Option Nat
def shL : List (Nat × Nat) := [(9, 0), (14, 4), (4, 0), (11, 100), (7, 0), (11, 12), (11, 12), (11, 12), (11, 12), (11, 12), (15, 7), (11, 7), (11, 7), (11, 7), (11, 7), (11, 7), (11, 7), (11, 7), (15, 7), (11, 7), (11, 7), (11, 7), (11, 7), (11, 7), (11, 7), (11, 7), (7, 0), (11, 12), (11, 12), (11, 12), (11, 12), (11, 12), (15, 7), (11, 7), (11, 7), (11, 7), (11, 7), (11, 7), (11, 7), (11, 7), (15, 7), (11, 7), (11, 7), (11, 7), (11, 7), (11, 7), (11, 7), (11, 7), (13, 10), (2, 0), (1, 0), (11, 7), (11, 7), (11, 7), (3, 0), (12, 136), (11, 4), (5, 0), (11, 10), (11, 10), (11, 8), (11, 8), (11, 5), (8, 0), (11, 5), (11, 5), (11, 5), (6, 0), (11, 100), (6, 0), (11, 100), (6, 0), (11, 100), (6, 0), (11, 100), (0, 0), (0, 0), (0, 0), (0, 0), (0, 0), (0, 0), (0, 0), (0, 0), (0, 0), (0, 0), (10, 0), (11, 4), (11, 4), (11, 400), (11, 12), (11, 12), (11, 12), (11, 12), (11, 12), (11, 49), (11, 60), (11, 10), (11, 10), (11, 10), (11, 10), (11, 100), (12, 7001), (11, 7), (11, 4), (11, 7), (11, 8), (11, 8), (11, 5), (11, 5), (11, 5)]
def sh (p : Nat) : Nat × Nat := shL.getD p (99, 0)
theorem sh_0 : sh 0 = (9, 0) := rfl
theorem sh_1 : sh 1 = (14, 4) := rfl
theorem sh_2 : sh 2 = (4, 0) := rfl
theorem sh_3 : sh 3 = (11, 100) := rfl
theorem sh_4 : sh 4 = (7, 0) := rfl
theorem sh_5 : sh 5 = (11, 12) := rfl
theorem sh_6 : sh 6 = (11, 12) := rfl
theorem sh_7 : sh 7 = (11, 12) := rfl
theorem sh_8 : sh 8 = (11, 12) := rfl
theorem sh_9 : sh 9 = (11, 12) := rfl
theorem sh_10 : sh 10 = (15, 7) := rfl
theorem sh_11 : sh 11 = (11, 7) := rfl
theorem sh_12 : sh 12 = (11, 7) := rfl
theorem sh_13 : sh 13 = (11, 7) := rfl
theorem sh_14 : sh 14 = (11, 7) := rfl
theorem sh_15 : sh 15 = (11, 7) := rfl
theorem sh_16 : sh 16 = (11, 7) := rfl
theorem sh_17 : sh 17 = (11, 7) := rfl
theorem sh_18 : sh 18 = (15, 7) := rfl
theorem sh_19 : sh 19 = (11, 7) := rfl
theorem sh_20 : sh 20 = (11, 7) := rfl
theorem sh_21 : sh 21 = (11, 7) := rfl
theorem sh_22 : sh 22 = (11, 7) := rfl
theorem sh_23 : sh 23 = (11, 7) := rfl
theorem sh_24 : sh 24 = (11, 7) := rfl
theorem sh_25 : sh 25 = (11, 7) := rfl
theorem sh_26 : sh 26 = (7, 0) := rfl
theorem sh_27 : sh 27 = (11, 12) := rfl
theorem sh_28 : sh 28 = (11, 12) := rfl
theorem sh_29 : sh 29 = (11, 12) := rfl
theorem sh_30 : sh 30 = (11, 12) := rfl
theorem sh_31 : sh 31 = (11, 12) := rfl
theorem sh_32 : sh 32 = (15, 7) := rfl
theorem sh_33 : sh 33 = (11, 7) := rfl
theorem sh_34 : sh 34 = (11, 7) := rfl
theorem sh_35 : sh 35 = (11, 7) := rfl
theorem sh_36 : sh 36 = (11, 7) := rfl
theorem sh_37 : sh 37 = (11, 7) := rfl
theorem sh_38 : sh 38 = (11, 7) := rfl
theorem sh_39 : sh 39 = (11, 7) := rfl
theorem sh_40 : sh 40 = (15, 7) := rfl
theorem sh_41 : sh 41 = (11, 7) := rfl
theorem sh_42 : sh 42 = (11, 7) := rfl
theorem sh_43 : sh 43 = (11, 7) := rfl
theorem sh_44 : sh 44 = (11, 7) := rfl
theorem sh_45 : sh 45 = (11, 7) := rfl
theorem sh_46 : sh 46 = (11, 7) := rfl
theorem sh_47 : sh 47 = (11, 7) := rfl
theorem sh_48 : sh 48 = (13, 10) := rfl
theorem sh_49 : sh 49 = (2, 0) := rfl
theorem sh_50 : sh 50 = (1, 0) := rfl
theorem sh_51 : sh 51 = (11, 7) := rfl
theorem sh_52 : sh 52 = (11, 7) := rfl
theorem sh_53 : sh 53 = (11, 7) := rfl
theorem sh_54 : sh 54 = (3, 0) := rfl
theorem sh_55 : sh 55 = (12, 136) := rfl
theorem sh_56 : sh 56 = (11, 4) := rfl
theorem sh_57 : sh 57 = (5, 0) := rfl
theorem sh_58 : sh 58 = (11, 10) := rfl
theorem sh_59 : sh 59 = (11, 10) := rfl
theorem sh_60 : sh 60 = (11, 8) := rfl
theorem sh_61 : sh 61 = (11, 8) := rfl
theorem sh_62 : sh 62 = (11, 5) := rfl
theorem sh_63 : sh 63 = (8, 0) := rfl
theorem sh_64 : sh 64 = (11, 5) := rfl
theorem sh_65 : sh 65 = (11, 5) := rfl
theorem sh_66 : sh 66 = (11, 5) := rfl
theorem sh_67 : sh 67 = (6, 0) := rfl
theorem sh_68 : sh 68 = (11, 100) := rfl
theorem sh_69 : sh 69 = (6, 0) := rfl
theorem sh_70 : sh 70 = (11, 100) := rfl
theorem sh_71 : sh 71 = (6, 0) := rfl
theorem sh_72 : sh 72 = (11, 100) := rfl
theorem sh_73 : sh 73 = (6, 0) := rfl
theorem sh_74 : sh 74 = (11, 100) := rfl
theorem sh_75 : sh 75 = (0, 0) := rfl
theorem sh_76 : sh 76 = (0, 0) := rfl
theorem sh_77 : sh 77 = (0, 0) := rfl
theorem sh_78 : sh 78 = (0, 0) := rfl
theorem sh_79 : sh 79 = (0, 0) := rfl
theorem sh_80 : sh 80 = (0, 0) := rfl
theorem sh_81 : sh 81 = (0, 0) := rfl
theorem sh_82 : sh 82 = (0, 0) := rfl
theorem sh_83 : sh 83 = (0, 0) := rfl
theorem sh_84 : sh 84 = (0, 0) := rfl
theorem sh_85 : sh 85 = (10, 0) := rfl
theorem sh_86 : sh 86 = (11, 4) := rfl
theorem sh_87 : sh 87 = (11, 4) := rfl
theorem sh_88 : sh 88 = (11, 400) := rfl
theorem sh_89 : sh 89 = (11, 12) := rfl
theorem sh_90 : sh 90 = (11, 12) := rfl
theorem sh_91 : sh 91 = (11, 12) := rfl
theorem sh_92 : sh 92 = (11, 12) := rfl
theorem sh_93 : sh 93 = (11, 12) := rfl
theorem sh_94 : sh 94 = (11, 49) := rfl
theorem sh_95 : sh 95 = (11, 60) := rfl
theorem sh_96 : sh 96 = (11, 10) := rfl
theorem sh_97 : sh 97 = (11, 10) := rfl
theorem sh_98 : sh 98 = (11, 10) := rfl
theorem sh_99 : sh 99 = (11, 10) := rfl
theorem sh_100 : sh 100 = (11, 100) := rfl
theorem sh_101 : sh 101 = (12, 7001) := rfl
theorem sh_102 : sh 102 = (11, 7) := rfl
theorem sh_103 : sh 103 = (11, 4) := rfl
theorem sh_104 : sh 104 = (11, 7) := rfl
theorem sh_105 : sh 105 = (11, 8) := rfl
theorem sh_106 : sh 106 = (11, 8) := rfl
theorem sh_107 : sh 107 = (11, 5) := rfl
theorem sh_108 : sh 108 = (11, 5) := rfl
theorem sh_109 : sh 109 = (11, 5) := rfl
def fkL : List (List Nat) := [[0, 0, 0, 0, 0, 0], [0, 2, 2, 2], [2, 2, 2], [2, 0, 0, 1], [2, 0, 0], [2, 2, 2, 2, 0, 0, 0, 0, 0, 0, 0], [0, 0, 0, 2], [0, 0, 0, 2, 2, 2, 2, 2, 2, 2], [2, 2, 2, 0, 0, 0], [2, 2, 2, 2, 2, 0, 2, 2, 0, 2, 0, 2, 0, 0, 0, 0, 0], [0, 0, 2, 2, 2, 0, 0, 0, 2, 2, 2, 2, 2, 2, 0, 0, 0, 2, 0, 0, 2, 2, 2, 2, 2, 2, 2, 0, 0, 0, 2, 2, 0, 2, 2, 0, 1, 0, 2, 2, 2, 0]]
def fk (ci : Nat) : List Nat := fkL.getD ci []
def fldv (ad : Nat → Nat) (I : KI) (J : KJ) (Rf : KR) (p k t : Nat) : Value := if t = 0 then .int (I p k) else if t = 1 then .long (J p k) else va_rf ((Rf p k).map ad)
def flds (ad : Nat → Nat) (I : KI) (J : KJ) (Rf : KR) (p ci : Nat) : List Value := (List.range (fk ci).length).map (fun k => fldv ad I J Rf p k ((fk ci).getD k 0))
def cellE (cy : Nat → ClassId) (ad : Nat → Nat) (I : KI) (J : KJ) (Rf : KR) (p : Nat) : va_E :=
  if (sh p).1 < 11 then .inr ((sh p).1, flds ad I J Rf p (sh p).1) else if (sh p).1 = 11 then .inl (cy 0, (sh p).2, .inl (I p)) else if (sh p).1 = 12 then .inl (cy 1, (sh p).2, .inr (.inl (J p))) else .inl (cy ((sh p).1 - 11), (sh p).2, .inr (.inr (.inr (.inr (fun i => (Rf p i).map ad)))))
def wsO (cy : Nat → ClassId) (ad : Nat → Nat) (N : Nat) (I : KI) (J : KJ) (Rf : KR) : va_W := (List.range N).map (fun p => (ad p, cellE cy ad I J Rf p))
def tysO (cy : Nat → ClassId) : List (ClassId × FieldType) := [(cy 0, .int), (cy 1, .long), (cy 2, .object RX0), (cy 3, .object RX6), (cy 4, .array .int)]
def upI (I : KI) (p k : Nat) (v : Int32) : KI := fun q j => if q = p ∧ j = k then v else I q j
def upJ (J : KJ) (p k : Nat) (v : Int64) : KJ := fun q j => if q = p ∧ j = k then v else J q j
def upR (Rf : KR) (p k : Nat) (v : Option Nat) : KR := fun q j => if q = p ∧ j = k then v else Rf q j
theorem upI_same (I : KI) (p k : Nat) (v : Int32) : upI I p k v p k = v := if_pos ⟨rfl, rfl⟩
theorem upI_p (I : KI) {p k q j : Nat} (v : Int32) (h : q ≠ p) : upI I p k v q j = I q j := if_neg (fun e => h e.1)
theorem upI_k (I : KI) {p k q j : Nat} (v : Int32) (h : j ≠ k) : upI I p k v q j = I q j := if_neg (fun e => h e.2)
theorem upI_row (I : KI) {p k q : Nat} (v : Int32) (h : q ≠ p) : upI I p k v q = I q := funext fun j => upI_p I v h
theorem upI_at (I : KI) (p k : Nat) (v : Int32) : upI I p k v p = upd (I p) k v := by
  funext j; unfold upI upd; by_cases h : j = k <;> simp [h]
theorem upJ_same (J : KJ) (p k : Nat) (v : Int64) : upJ J p k v p k = v := if_pos ⟨rfl, rfl⟩
theorem upJ_p (J : KJ) {p k q j : Nat} (v : Int64) (h : q ≠ p) : upJ J p k v q j = J q j := if_neg (fun e => h e.1)
theorem upJ_k (J : KJ) {p k q j : Nat} (v : Int64) (h : j ≠ k) : upJ J p k v q j = J q j := if_neg (fun e => h e.2)
theorem upJ_row (J : KJ) {p k q : Nat} (v : Int64) (h : q ≠ p) : upJ J p k v q = J q := funext fun j => upJ_p J v h
theorem upJ_at (J : KJ) (p k : Nat) (v : Int64) : upJ J p k v p = vp_updL (J p) k v := by
  funext j; unfold upJ vp_updL; by_cases h : j = k <;> simp [h]
theorem upR_same (Rf : KR) (p k : Nat) (v : Option Nat) : upR Rf p k v p k = v := if_pos ⟨rfl, rfl⟩
theorem upR_p (Rf : KR) {p k q j : Nat} (v : Option Nat) (h : q ≠ p) : upR Rf p k v q j = Rf q j := if_neg (fun e => h e.1)
theorem upR_k (Rf : KR) {p k q j : Nat} (v : Option Nat) (h : j ≠ k) : upR Rf p k v q j = Rf q j := if_neg (fun e => h e.2)
theorem wsO_get {cy : Nat → ClassId} {ad : Nat → Nat} {N : Nat} {I : KI} {J : KJ} {Rf : KR} {p : Nat} (h : p < N) : (wsO cy ad N I J Rf)[p]? = some (ad p, cellE cy ad I J Rf p) := by
  unfold wsO; rw [List.getElem?_map, List.getElem?_range h]; rfl
theorem wsO_some {cy : Nat → ClassId} {ad : Nat → Nat} {N : Nat} {I : KI} {J : KJ} {Rf : KR} {p : Nat} {q : Nat × va_E} (h : (wsO cy ad N I J Rf)[p]? = some q) : p < N ∧ q = (ad p, cellE cy ad I J Rf p) := by
  by_cases hp : p < N
  · rw [wsO_get hp] at h; exact ⟨hp, (Option.some.inj h).symm⟩
  · unfold wsO at h
    rw [List.getElem?_map, List.getElem?_eq_none (by rw [List.length_range]; omega)] at h
    cases h
theorem wsO_set {cy : Nat → ClassId} {ad : Nat → Nat} {N : Nat} {I I' : KI} {J J' : KJ} {Rf Rf' : KR} {p : Nat} {e : va_E} (h : p < N) (he : cellE cy ad I' J' Rf' p = e) (ho : ∀ q, q ≠ p → cellE cy ad I' J' Rf' q = cellE cy ad I J Rf q) : (wsO cy ad N I J Rf).set p (ad p, e) = wsO cy ad N I' J' Rf' := by
  apply List.ext_getElem?
  intro q
  rw [List.getElem?_set]
  have hl : (wsO cy ad N I J Rf).length = N := by unfold wsO; simp
  by_cases hq : p = q
  · subst hq
    rw [if_pos rfl, if_pos (by rw [hl]; exact h), wsO_get h, he]
  · rw [if_neg hq]
    by_cases hqN : q < N
    · rw [wsO_get hqN, wsO_get hqN, ho q (fun z => hq z.symm)]
    · unfold wsO
      rw [List.getElem?_map, List.getElem?_map, List.getElem?_eq_none (by rw [List.length_range]; omega)]
      rfl
theorem wsO_D {cy : Nat → ClassId} {ad : Nat → Nat} {N : Nat} {I I' : KI} {J J' : KJ} {Rf Rf' : KR} {A : Nat → Prop} (h : va_D A (wsO cy ad N I J Rf)) : va_D A (wsO cy ad N I' J' Rf') := by
  refine ⟨fun i j p q hp hq e => ?_, fun k q hq => ?_⟩
  · obtain ⟨hi, rfl⟩ := wsO_some hp
    obtain ⟨hj, rfl⟩ := wsO_some hq
    exact h.1 i j _ _ (wsO_get hi) (wsO_get hj) e
  · obtain ⟨hk, rfl⟩ := wsO_some hq
    have h1 := h.2 k (ad k, cellE cy ad I J Rf k) (wsO_get hk)
    exact h1
theorem cell_obj {cy : Nat → ClassId} {ad : Nat → Nat} {I : KI} {J : KJ} {Rf : KR} {p ci n : Nat} (h : sh p = (ci, n)) (hc : ci < 11) : cellE cy ad I J Rf p = .inr (ci, flds ad I J Rf p ci) := by
  unfold cellE; rw [h]; exact if_pos hc
theorem cell_I {cy : Nat → ClassId} {ad : Nat → Nat} {I : KI} {J : KJ} {Rf : KR} {p n : Nat} (h : sh p = (11, n)) : cellE cy ad I J Rf p = .inl (cy 0, n, .inl (I p)) := by
  unfold cellE; rw [h]; rfl
theorem cell_J {cy : Nat → ClassId} {ad : Nat → Nat} {I : KI} {J : KJ} {Rf : KR} {p n : Nat} (h : sh p = (12, n)) : cellE cy ad I J Rf p = .inl (cy 1, n, .inr (.inl (J p))) := by
  unfold cellE; rw [h]; rfl
theorem cell_R {cy : Nat → ClassId} {ad : Nat → Nat} {I : KI} {J : KJ} {Rf : KR} {p ci n : Nat} (h : sh p = (ci + 13, n)) : cellE cy ad I J Rf p = .inl (cy (ci + 2), n, .inr (.inr (.inr (.inr (fun i => (Rf p i).map ad))))) := by
  unfold cellE
  rw [h]
  show (if ci + 13 < 11 then _ else if ci + 13 = 11 then _ else if ci + 13 = 12 then _ else _) = _
  rw [if_neg (by omega), if_neg (by omega), if_neg (by omega)]
  rfl
theorem flds_get {ad : Nat → Nat} {I : KI} {J : KJ} {Rf : KR} {p ci k t : Nat} (h : (fk ci)[k]? = some t) : (flds ad I J Rf p ci)[k]? = some (fldv ad I J Rf p k t) := by
  obtain ⟨hk, he⟩ := List.getElem?_eq_some_iff.mp h
  unfold flds
  rw [List.getElem?_map, List.getElem?_range hk]
  show some (fldv ad I J Rf p k ((fk ci).getD k 0)) = _
  rw [List.getD_eq_getElem?_getD, h]
  rfl
theorem flds_len {ad : Nat → Nat} {I : KI} {J : KJ} {Rf : KR} {p ci : Nat} : (flds ad I J Rf p ci).length = (fk ci).length := by unfold flds; simp
theorem flds_set {ad : Nat → Nat} {I I' : KI} {J J' : KJ} {Rf Rf' : KR} {p ci k t : Nat} {v : Value} (h : (fk ci)[k]? = some t) (hv : fldv ad I' J' Rf' p k t = v) (ho : ∀ j u, j ≠ k → fldv ad I' J' Rf' p j u = fldv ad I J Rf p j u) : (flds ad I J Rf p ci).set k v = flds ad I' J' Rf' p ci := by
  obtain ⟨hk, -⟩ := List.getElem?_eq_some_iff.mp h
  apply List.ext_getElem?
  intro j
  rw [List.getElem?_set, flds_len]
  by_cases hj : k = j
  · subst hj
    rw [if_pos rfl, if_pos hk, flds_get h, hv]
  · rw [if_neg hj]
    cases hu : (fk ci)[j]? with
    | none =>
      have h1 := List.getElem?_eq_none_iff.mp hu
      rw [List.getElem?_eq_none (by rw [flds_len]; exact h1), List.getElem?_eq_none (by rw [flds_len]; exact h1)]
    | some u => rw [flds_get hu, flds_get hu, ho j u (fun z => hj z.symm)]
theorem cellE_I {cy : Nat → ClassId} {ad : Nat → Nat} {I : KI} {J : KJ} {Rf : KR} {p k q : Nat} {v : Int32} (h : q ≠ p) : cellE cy ad (upI I p k v) J Rf q = cellE cy ad I J Rf q := by
  unfold cellE flds fldv; simp only [upI_row I v h]
theorem cellE_J {cy : Nat → ClassId} {ad : Nat → Nat} {I : KI} {J : KJ} {Rf : KR} {p k q : Nat} {v : Int64} (h : q ≠ p) : cellE cy ad I (upJ J p k v) Rf q = cellE cy ad I J Rf q := by
  unfold cellE flds fldv; simp only [upJ_row J v h]
theorem cellE_R {cy : Nat → ClassId} {ad : Nat → Nat} {I : KI} {J : KJ} {Rf : KR} {p k q : Nat} {v : Option Nat} (h : q ≠ p) : cellE cy ad I J (upR Rf p k v) q = cellE cy ad I J Rf q := by
  unfold cellE flds fldv; simp only [upR_p Rf v h]
/-! the judgement -/
def rmd (d : Nat) : Room := { frames := d, cells := 0, slots := 0, locals := 40 * d }
abbrev KX : Type := Program × Launch × Env × Room × State × MethodId × Array Value × List Frame × Method × Code × va_G × (Nat → ClassId) × (Nat → Prop) × (State → Prop) × (Nat → Nat) × Nat
abbrev xp (X : KX) : Program := X.1
abbrev xl (X : KX) : Launch := X.2.1
abbrev xe (X : KX) : Env := X.2.2.1
abbrev xRm (X : KX) : Room := X.2.2.2.1
abbrev xs (X : KX) : State := X.2.2.2.2.1
abbrev xm (X : KX) : MethodId := X.2.2.2.2.2.1
abbrev xa (X : KX) : Array Value := X.2.2.2.2.2.2.1
abbrev xbelow (X : KX) : List Frame := X.2.2.2.2.2.2.2.1
abbrev xmeth (X : KX) : Method := X.2.2.2.2.2.2.2.2.1
abbrev xc (X : KX) : Code := X.2.2.2.2.2.2.2.2.2.1
abbrev xD (X : KX) : va_G := X.2.2.2.2.2.2.2.2.2.2.1
abbrev xcy (X : KX) : Nat → ClassId := X.2.2.2.2.2.2.2.2.2.2.2.1
abbrev xA (X : KX) : Nat → Prop := X.2.2.2.2.2.2.2.2.2.2.2.2.1
abbrev xQ (X : KX) : State → Prop := X.2.2.2.2.2.2.2.2.2.2.2.2.2.1
abbrev xad (X : KX) : Nat → Nat := X.2.2.2.2.2.2.2.2.2.2.2.2.2.2.1
abbrev xnL (X : KX) : Nat := X.2.2.2.2.2.2.2.2.2.2.2.2.2.2.2
def Z (X : KX) (k n : Nat) (w : va_W) (pc : Nat) (L : List (Nat × Value)) (S : List Value) : Prop :=
  ∀ (H : Heap) (locs : List Loc) (ls : Array Slot), va_P (xD X) vwCl w H → va_D (xA X) w → va_S (xA X) (xs X).heap H locs → lv_has ls (xnL X) L →
    W (xp X) (xl X) (xe X) (xRm X) (xs X) (xm X) (xa X) (xbelow X) (xmeth X) (xc X) H locs k n (xQ X) (F0 (xm X) pc ls S)
abbrev V (X : KX) (I : KI) (J : KJ) (Rf : KR) : va_W := wsO (xcy X) (xad X) 110 I J Rf
def Cx (X : KX) (own : String) (cc : ByteArray) (d : Nat) : Prop :=
  (xp X).tables.exec = Jvm.exec ∧ (xc X).code = cc ∧ (xc X).maxLocals = xnL X ∧ (xs X).vm.findClass own = some (xm X).cls ∧ (∀ w ∈ gW, w.before (xa X) (xs X) = true) ∧ (xmeth X).locks = false ∧ (d ≤ (xRm X).frames ∧ 40 * d ≤ (xRm X).locals) ∧ (∀ q, (xs X).heap.size ≤ q → xA X q)
def Kx (X : KX) : Prop := va_K (xD X) vwCl (tysO (xcy X)) (xs X) ∧ NW (xs X)
theorem Cx.x {X : KX} {own : String} {cc : ByteArray} {d : Nat} (C : Cx X own cc d) : (xp X).tables.exec = Jvm.exec := C.1
theorem Cx.b {X : KX} {own : String} {cc : ByteArray} {d : Nat} (C : Cx X own cc d) : (xc X).code = cc := C.2.1
theorem Cx.ml {X : KX} {own : String} {cc : ByteArray} {d : Nat} (C : Cx X own cc d) : (xc X).maxLocals = xnL X := C.2.2.1
theorem Cx.own {X : KX} {own : String} {cc : ByteArray} {d : Nat} (C : Cx X own cc d) : (xs X).vm.findClass own = some (xm X).cls := C.2.2.2.1
theorem Cx.ts {X : KX} {own : String} {cc : ByteArray} {d : Nat} (C : Cx X own cc d) : ∀ w ∈ gW, w.before (xa X) (xs X) = true := C.2.2.2.2.1
theorem Cx.lk {X : KX} {own : String} {cc : ByteArray} {d : Nat} (C : Cx X own cc d) : (xmeth X).locks = false := C.2.2.2.2.2.1
theorem Cx.rm {X : KX} {own : String} {cc : ByteArray} {d : Nat} (C : Cx X own cc d) : d ≤ (xRm X).frames ∧ 40 * d ≤ (xRm X).locals := C.2.2.2.2.2.2.1
theorem Cx.hA {X : KX} {own : String} {cc : ByteArray} {d : Nat} (C : Cx X own cc d) : ∀ q, (xs X).heap.size ≤ q → xA X q := C.2.2.2.2.2.2.2
def lput (i : Nat) (v : Value) (L : List (Nat × Value)) : List (Nat × Value) := (i, v) :: L.filter (fun q => !(q.1 == i) && !(q.1 + 1 == i && q.2.category == 2))
def lput2 (i : Nat) (v : Value) (L : List (Nat × Value)) : List (Nat × Value) := (i, v) :: L.filter (fun q => !(q.1 == i) && (!(q.1 == i + 1) && !(q.1 + 1 == i && q.2.category == 2)))
theorem upd_at_I (I : KI) (p k : Nat) (v : Int32) : upd (I p) k v = upI I p k v p := (upI_at I p k v).symm
section ROWS
variable {X : KX} {own : String} {cc : ByteArray} {d k0 n0 : Nat} {w : va_W} {pc n : Nat} {L : List (Nat × Value)} {S : List Value}
theorem z_sub {L' : List (Nat × Value)} (ks : List Nat) (hl : lv_pick L ks = L') (k : Z X k0 n0 w pc L' S) : Z X k0 n0 w pc L S := fun H locs ls hP hD hS h => k H locs ls hP hD hS (lv_sub h ks hl)
theorem z_nm {α : Type} {x : α} (f : α → List Value) (k : ∀ y : α, y = x → Z X k0 n0 w pc L (f y)) : Z X k0 n0 w pc L (f x) := k x rfl
theorem z_topi {x : Int32} (k : ∀ y : Int32, y = x → Z X k0 n0 w pc L (.int y :: S)) : Z X k0 n0 w pc L (.int x :: S) := k x rfl
theorem z_topl {x : Int64} (k : ∀ y : Int64, y = x → Z X k0 n0 w pc L (.long y :: S)) : Z X k0 n0 w pc L (.long x :: S) := k x rfl
theorem z_eqi {x y : Int32} (h : x = y) (k : Z X k0 n0 w pc L (.int y :: S)) : Z X k0 n0 w pc L (.int x :: S) := h ▸ k
theorem z_eql {x y : Int64} (h : x = y) (k : Z X k0 n0 w pc L (.long y :: S)) : Z X k0 n0 w pc L (.long x :: S) := h ▸ k
theorem z_iconst (C : Cx X own cc d) {v : Int32} {i : Int} (hd : decode cc pc = .ok (.iconst i, 1)) (hn : pc + 1 = n) (hv : Int32.ofInt i = v) (k : Z X k0 n0 w n L (.int v :: S)) : Z X k0 n0 w pc L (S) := by
  subst hn; intro H locs ls hP hD hS hl; exact lv_iconst C.x C.b hd hv (k H locs ls hP hD hS hl)
theorem z_bipush (C : Cx X own cc d) {v : Int32} {i : Int} (hd : decode cc pc = .ok (.bipush i, 2)) (hn : pc + 2 = n) (hv : (Int8.ofInt i).toInt32 = v) (k : Z X k0 n0 w n L (.int v :: S)) : Z X k0 n0 w pc L (S) := by
  subst hn; intro H locs ls hP hD hS hl; exact lv_bipush C.x C.b hd hv (k H locs ls hP hD hS hl)
theorem z_sipush (C : Cx X own cc d) {v : Int32} {i : Int} (hd : decode cc pc = .ok (.sipush i, 3)) (hn : pc + 3 = n) (hv : (Int16.ofInt i).toInt32 = v) (k : Z X k0 n0 w n L (.int v :: S)) : Z X k0 n0 w pc L (S) := by
  subst hn; intro H locs ls hP hD hS hl; exact lv_sipush C.x C.b hd hv (k H locs ls hP hD hS hl)
theorem z_lconst (C : Cx X own cc d) {v : Int64} {i : Fin 2} (hd : decode cc pc = .ok (.lconst i, 1)) (hn : pc + 1 = n) (hv : Int64.ofNat (i : Nat) = v) (k : Z X k0 n0 w n L (.long v :: S)) : Z X k0 n0 w pc L (S) := by
  subst hn; intro H locs ls hP hD hS hl; exact lv_lconst C.x C.b hd hv (k H locs ls hP hD hS hl)
theorem z_ldc (C : Cx X own cc d) {v : Int32} {idx : Nat} (hd : decode cc pc = .ok (.ldc idx, 2)) (hc : Cond.constant own idx v ∈ gW) (hn : pc + 2 = n) (k : Z X k0 n0 w n L (.int v :: S)) : Z X k0 n0 w pc L S := by
  subst hn; intro H locs ls hP hD hS hl; exact lv_ldc C.x C.b C.own (C.ts _ hc) hd (k H locs ls hP hD hS hl)
theorem z_ldc2 (C : Cx X own cc d) {v : Int64} {idx : Nat} (hd : decode cc pc = .ok (.ldc2_w idx, 3)) (hc : Cond.constantLong own idx v ∈ gW) (hn : pc + 3 = n) (k : Z X k0 n0 w n L (.long v :: S)) : Z X k0 n0 w pc L S := by
  subst hn; intro H locs ls hP hD hS hl; exact lv_ldc2 C.x C.b C.own (C.ts _ hc) hd (k H locs ls hP hD hS hl)
theorem z_ldcw (C : Cx X own cc d) {v : Int32} {idx : Nat} (hd : decode cc pc = .ok (.ldc_w idx, 3)) (hc : Cond.constant own idx v ∈ gW) (hn : pc + 3 = n) (k : Z X k0 n0 w n L (.int v :: S)) : Z X k0 n0 w pc L S := by
  subst hn; intro H locs ls hP hD hS hl; exact lv_ldcw C.x C.b C.own (C.ts _ hc) hd (k H locs ls hP hD hS hl)
theorem z_iload_n (C : Cx X own cc d) {j : Fin 4} {x : Int32} (i : Nat) (hd : decode cc pc = .ok (.iload_n j, 1)) (hn : pc + 1 = n) (hk : L[i]? = some ((j : Nat), .int x)) (k : Z X k0 n0 w n L (.int x :: S)) : Z X k0 n0 w pc L S := by
  subst hn; intro H locs ls hP hD hS hl; exact lv_iload_n C.x C.b hd rfl (lv_at hl i hk) (k H locs ls hP hD hS hl)
theorem z_iload (C : Cx X own cc d) {j : Nat} {x : Int32} (i : Nat) (hd : decode cc pc = .ok (.iload j, 2)) (hn : pc + 2 = n) (hk : L[i]? = some (j, .int x)) (k : Z X k0 n0 w n L (.int x :: S)) : Z X k0 n0 w pc L S := by
  subst hn; intro H locs ls hP hD hS hl; exact lv_iload C.x C.b hd (lv_at hl i hk) (k H locs ls hP hD hS hl)
theorem z_istore_n (C : Cx X own cc d) {j : Fin 4} {x : Int32} {L' : List (Nat × Value)} (hd : decode cc pc = .ok (.istore_n j, 1)) (hn : pc + 1 = n) (hb : (j : Nat) < xnL X) (hL : lput (j : Nat) (.int x) L = L') (k : Z X k0 n0 w n L' S) : Z X k0 n0 w pc L (.int x :: S) := by
  subst hn; intro H locs ls hP hD hS hl; exact lv_istore_n C.x C.b hd rfl hl hb hL (fun ls' hl' => k H locs ls' hP hD hS hl')
theorem z_istore (C : Cx X own cc d) {j : Nat} {x : Int32} {L' : List (Nat × Value)} (hd : decode cc pc = .ok (.istore j, 2)) (hn : pc + 2 = n) (hb : j < xnL X) (hL : lput j (.int x) L = L') (k : Z X k0 n0 w n L' S) : Z X k0 n0 w pc L (.int x :: S) := by
  subst hn; intro H locs ls hP hD hS hl; exact lv_istore C.x C.b hd hl hb hL (fun ls' hl' => k H locs ls' hP hD hS hl')
theorem z_lload_n (C : Cx X own cc d) {j : Fin 4} {x : Int64} (i : Nat) (hd : decode cc pc = .ok (.lload_n j, 1)) (hn : pc + 1 = n) (hk : L[i]? = some ((j : Nat), .long x)) (k : Z X k0 n0 w n L (.long x :: S)) : Z X k0 n0 w pc L S := by
  subst hn; intro H locs ls hP hD hS hl; exact lv_lload_n C.x C.b hd rfl (lv_at hl i hk) (k H locs ls hP hD hS hl)
theorem z_lload (C : Cx X own cc d) {j : Nat} {x : Int64} (i : Nat) (hd : decode cc pc = .ok (.lload j, 2)) (hn : pc + 2 = n) (hk : L[i]? = some (j, .long x)) (k : Z X k0 n0 w n L (.long x :: S)) : Z X k0 n0 w pc L S := by
  subst hn; intro H locs ls hP hD hS hl; exact lv_lload C.x C.b hd (lv_at hl i hk) (k H locs ls hP hD hS hl)
theorem z_lstore_n (C : Cx X own cc d) {j : Fin 4} {x : Int64} {L' : List (Nat × Value)} (hd : decode cc pc = .ok (.lstore_n j, 1)) (hn : pc + 1 = n) (hb : (j : Nat) + 1 < xnL X) (hL : lput2 (j : Nat) (.long x) L = L') (k : Z X k0 n0 w n L' S) : Z X k0 n0 w pc L (.long x :: S) := by
  subst hn; intro H locs ls hP hD hS hl; exact lv_lstore_n C.x C.b hd rfl hl hb hL (fun ls' hl' => k H locs ls' hP hD hS hl')
theorem z_lstore (C : Cx X own cc d) {j : Nat} {x : Int64} {L' : List (Nat × Value)} (hd : decode cc pc = .ok (.lstore j, 2)) (hn : pc + 2 = n) (hb : j + 1 < xnL X) (hL : lput2 j (.long x) L = L') (k : Z X k0 n0 w n L' S) : Z X k0 n0 w pc L (.long x :: S) := by
  subst hn; intro H locs ls hP hD hS hl; exact lv_lstore C.x C.b hd hl hb hL (fun ls' hl' => k H locs ls' hP hD hS hl')
theorem z_aload_n (C : Cx X own cc d) {j : Fin 4} {x : Nat} (i : Nat) (hd : decode cc pc = .ok (.aload_n j, 1)) (hn : pc + 1 = n) (hk : L[i]? = some ((j : Nat), .ref x)) (k : Z X k0 n0 w n L (.ref x :: S)) : Z X k0 n0 w pc L S := by
  subst hn; intro H locs ls hP hD hS hl; exact lv_aload_n C.x C.b hd rfl (lv_at hl i hk) (k H locs ls hP hD hS hl)
theorem z_aload (C : Cx X own cc d) {j : Nat} {x : Nat} (i : Nat) (hd : decode cc pc = .ok (.aload j, 2)) (hn : pc + 2 = n) (hk : L[i]? = some (j, .ref x)) (k : Z X k0 n0 w n L (.ref x :: S)) : Z X k0 n0 w pc L S := by
  subst hn; intro H locs ls hP hD hS hl; exact lv_aload C.x C.b hd (lv_at hl i hk) (k H locs ls hP hD hS hl)
theorem z_astore_n (C : Cx X own cc d) {j : Fin 4} {x : Nat} {L' : List (Nat × Value)} (hd : decode cc pc = .ok (.astore_n j, 1)) (hn : pc + 1 = n) (hb : (j : Nat) < xnL X) (hL : lput (j : Nat) (.ref x) L = L') (k : Z X k0 n0 w n L' S) : Z X k0 n0 w pc L (.ref x :: S) := by
  subst hn; intro H locs ls hP hD hS hl; exact lv_astore_n C.x C.b hd rfl hl hb hL (fun ls' hl' => k H locs ls' hP hD hS hl')
theorem z_astore (C : Cx X own cc d) {j : Nat} {x : Nat} {L' : List (Nat × Value)} (hd : decode cc pc = .ok (.astore j, 2)) (hn : pc + 2 = n) (hb : j < xnL X) (hL : lput j (.ref x) L = L') (k : Z X k0 n0 w n L' S) : Z X k0 n0 w pc L (.ref x :: S) := by
  subst hn; intro H locs ls hP hD hS hl; exact lv_astore C.x C.b hd hl hb hL (fun ls' hl' => k H locs ls' hP hD hS hl')
theorem z_iinc (C : Cx X own cc d) {j : Nat} {b : Int} {x v : Int32} {L' : List (Nat × Value)} (i : Nat) (hd : decode cc pc = .ok (.iinc j b, 3)) (hn : pc + 3 = n) (hk : L[i]? = some (j, .int x)) (hv : x + Int32.ofInt b = v) (hb : j < xnL X) (hL : lput j (.int v) L = L') (k : Z X k0 n0 w n L' S) : Z X k0 n0 w pc L S := by
  subst hn; intro H locs ls hP hD hS hl; exact lv_iinc C.x C.b hd hl hk hv hb hL (fun ls' hl' => k H locs ls' hP hD hS hl')
theorem z_iadd (C : Cx X own cc d) {x y : Int32} (hd : decode cc pc = .ok (.iadd, 1)) (hn : pc + 1 = n) (k : Z X k0 n0 w n L (.int (x + y) :: S)) : Z X k0 n0 w pc L (.int y :: .int x :: S) := by
  subst hn; intro H locs ls hP hD hS hl; exact lv_iadd C.x C.b hd (k H locs ls hP hD hS hl)
theorem z_isub (C : Cx X own cc d) {x y : Int32} (hd : decode cc pc = .ok (.isub, 1)) (hn : pc + 1 = n) (k : Z X k0 n0 w n L (.int (x - y) :: S)) : Z X k0 n0 w pc L (.int y :: .int x :: S) := by
  subst hn; intro H locs ls hP hD hS hl; exact lv_isub C.x C.b hd (k H locs ls hP hD hS hl)
theorem z_imul (C : Cx X own cc d) {x y : Int32} (hd : decode cc pc = .ok (.imul, 1)) (hn : pc + 1 = n) (k : Z X k0 n0 w n L (.int (x * y) :: S)) : Z X k0 n0 w pc L (.int y :: .int x :: S) := by
  subst hn; intro H locs ls hP hD hS hl; exact lv_imul C.x C.b hd (k H locs ls hP hD hS hl)
theorem z_iand (C : Cx X own cc d) {x y : Int32} (hd : decode cc pc = .ok (.iand, 1)) (hn : pc + 1 = n) (k : Z X k0 n0 w n L (.int (x &&& y) :: S)) : Z X k0 n0 w pc L (.int y :: .int x :: S) := by
  subst hn; intro H locs ls hP hD hS hl; exact lv_iand C.x C.b hd (k H locs ls hP hD hS hl)
theorem z_ior (C : Cx X own cc d) {x y : Int32} (hd : decode cc pc = .ok (.ior, 1)) (hn : pc + 1 = n) (k : Z X k0 n0 w n L (.int (x ||| y) :: S)) : Z X k0 n0 w pc L (.int y :: .int x :: S) := by
  subst hn; intro H locs ls hP hD hS hl; exact lv_ior C.x C.b hd (k H locs ls hP hD hS hl)
theorem z_ixor (C : Cx X own cc d) {x y : Int32} (hd : decode cc pc = .ok (.ixor, 1)) (hn : pc + 1 = n) (k : Z X k0 n0 w n L (.int (x ^^^ y) :: S)) : Z X k0 n0 w pc L (.int y :: .int x :: S) := by
  subst hn; intro H locs ls hP hD hS hl; exact lv_ixor C.x C.b hd (k H locs ls hP hD hS hl)
theorem z_ishl (C : Cx X own cc d) {x y : Int32} (hd : decode cc pc = .ok (.ishl, 1)) (hn : pc + 1 = n) (k : Z X k0 n0 w n L (.int (x <<< (y &&& 31)) :: S)) : Z X k0 n0 w pc L (.int y :: .int x :: S) := by
  subst hn; intro H locs ls hP hD hS hl; exact lv_ishl C.x C.b hd (k H locs ls hP hD hS hl)
theorem z_ishr (C : Cx X own cc d) {x y : Int32} (hd : decode cc pc = .ok (.ishr, 1)) (hn : pc + 1 = n) (k : Z X k0 n0 w n L (.int (x >>> (y &&& 31)) :: S)) : Z X k0 n0 w pc L (.int y :: .int x :: S) := by
  subst hn; intro H locs ls hP hD hS hl; exact lv_ishr C.x C.b hd (k H locs ls hP hD hS hl)
theorem z_iushr (C : Cx X own cc d) {x y : Int32} (hd : decode cc pc = .ok (.iushr, 1)) (hn : pc + 1 = n) (k : Z X k0 n0 w n L (.int ((x.toUInt32 >>> (y.toUInt32 &&& Int32.toUInt32 31)).toInt32) :: S)) : Z X k0 n0 w pc L (.int y :: .int x :: S) := by
  subst hn; intro H locs ls hP hD hS hl; exact lv_iushr C.x C.b hd rfl (k H locs ls hP hD hS hl)
theorem z_idiv (C : Cx X own cc d) {x y : Int32} (hd : decode cc pc = .ok (.idiv, 1)) (hn : pc + 1 = n) (hne : ¬ y = 0) (k : Z X k0 n0 w n L (.int (x / y) :: S)) : Z X k0 n0 w pc L (.int y :: .int x :: S) := by
  subst hn; intro H locs ls hP hD hS hl; exact lv_idiv C.x C.b hd hne (k H locs ls hP hD hS hl)
theorem z_irem (C : Cx X own cc d) {x y : Int32} (hd : decode cc pc = .ok (.irem, 1)) (hn : pc + 1 = n) (hne : ¬ y = 0) (k : Z X k0 n0 w n L (.int (x - x / y * y) :: S)) : Z X k0 n0 w pc L (.int y :: .int x :: S) := by
  subst hn; intro H locs ls hP hD hS hl; exact lv_irem C.x C.b hd hne (k H locs ls hP hD hS hl)
theorem z_ineg (C : Cx X own cc d) {x : Int32} (hd : decode cc pc = .ok (.ineg, 1)) (hn : pc + 1 = n) (k : Z X k0 n0 w n L (.int (-x) :: S)) : Z X k0 n0 w pc L (.int x :: S) := by
  subst hn; intro H locs ls hP hD hS hl; exact lv_ineg C.x C.b hd (k H locs ls hP hD hS hl)
theorem z_i2l (C : Cx X own cc d) {x : Int32} (hd : decode cc pc = .ok (.i2l, 1)) (hn : pc + 1 = n) (k : Z X k0 n0 w n L (.long x.toInt64 :: S)) : Z X k0 n0 w pc L (.int x :: S) := by
  subst hn; intro H locs ls hP hD hS hl; exact lv_i2l C.x C.b hd rfl (k H locs ls hP hD hS hl)
theorem z_i2b (C : Cx X own cc d) {x : Int32} (hd : decode cc pc = .ok (.i2b, 1)) (hn : pc + 1 = n) (k : Z X k0 n0 w n L (.int x.toInt8.toInt32 :: S)) : Z X k0 n0 w pc L (.int x :: S) := by
  subst hn; intro H locs ls hP hD hS hl; exact lv_i2b C.x C.b hd rfl (k H locs ls hP hD hS hl)
theorem z_i2s (C : Cx X own cc d) {x : Int32} (hd : decode cc pc = .ok (.i2s, 1)) (hn : pc + 1 = n) (k : Z X k0 n0 w n L (.int x.toInt16.toInt32 :: S)) : Z X k0 n0 w pc L (.int x :: S) := by
  subst hn; intro H locs ls hP hD hS hl; exact lv_i2s C.x C.b hd rfl (k H locs ls hP hD hS hl)
theorem z_ladd (C : Cx X own cc d) {x y : Int64} (hd : decode cc pc = .ok (.ladd, 1)) (hn : pc + 1 = n) (k : Z X k0 n0 w n L (.long (x + y) :: S)) : Z X k0 n0 w pc L (.long y :: .long x :: S) := by
  subst hn; intro H locs ls hP hD hS hl; exact lv_ladd C.x C.b hd (k H locs ls hP hD hS hl)
theorem z_lsub (C : Cx X own cc d) {x y : Int64} (hd : decode cc pc = .ok (.lsub, 1)) (hn : pc + 1 = n) (k : Z X k0 n0 w n L (.long (x - y) :: S)) : Z X k0 n0 w pc L (.long y :: .long x :: S) := by
  subst hn; intro H locs ls hP hD hS hl; exact lv_lsub C.x C.b hd (k H locs ls hP hD hS hl)
theorem z_lmul (C : Cx X own cc d) {x y : Int64} (hd : decode cc pc = .ok (.lmul, 1)) (hn : pc + 1 = n) (k : Z X k0 n0 w n L (.long (x * y) :: S)) : Z X k0 n0 w pc L (.long y :: .long x :: S) := by
  subst hn; intro H locs ls hP hD hS hl; exact lv_lmul C.x C.b hd (k H locs ls hP hD hS hl)
theorem z_ldiv (C : Cx X own cc d) {x y : Int64} (hd : decode cc pc = .ok (.ldiv, 1)) (hn : pc + 1 = n) (hne : ¬ y = 0) (k : Z X k0 n0 w n L (.long (x / y) :: S)) : Z X k0 n0 w pc L (.long y :: .long x :: S) := by
  subst hn; intro H locs ls hP hD hS hl; exact lv_ldiv C.x C.b hd hne (k H locs ls hP hD hS hl)
theorem z_lrem (C : Cx X own cc d) {x y : Int64} (hd : decode cc pc = .ok (.lrem, 1)) (hn : pc + 1 = n) (hne : ¬ y = 0) (k : Z X k0 n0 w n L (.long (x - x / y * y) :: S)) : Z X k0 n0 w pc L (.long y :: .long x :: S) := by
  subst hn; intro H locs ls hP hD hS hl; exact lv_lrem C.x C.b hd hne (k H locs ls hP hD hS hl)
theorem z_dup (C : Cx X own cc d) {v : Value} (hd : decode cc pc = .ok (.dup, 1)) (hn : pc + 1 = n) (hv : v.category = 1) (k : Z X k0 n0 w n L (v :: v :: S)) : Z X k0 n0 w pc L (v :: S) := by
  subst hn; intro H locs ls hP hD hS hl; exact lv_dup C.x C.b hd hv (k H locs ls hP hD hS hl)
theorem z_icmp_eq (C : Cx X own cc d) {x y : Int32} {off : Int} {tgt : Nat} (hd : decode cc pc = .ok (.if_icmp .eq off, 3)) (ht : (pc : Int) + off = (tgt : Int)) (hn : pc + 3 = n) (kt : x = y → Z X k0 n0 w tgt L S) (kf : ¬ x = y → Z X k0 n0 w n L S) : Z X k0 n0 w pc L (.int y :: .int x :: S) := by
  subst hn; intro H locs ls hP hD hS hl; exact lv_icmp_eq C.x C.b hd ht (fun h => kt h H locs ls hP hD hS hl) (fun h => kf h H locs ls hP hD hS hl)
theorem z_if_eq (C : Cx X own cc d) {x : Int32} {off : Int} {tgt : Nat} (hd : decode cc pc = .ok (.ifCond .eq off, 3)) (ht : (pc : Int) + off = (tgt : Int)) (hn : pc + 3 = n) (kt : x = 0 → Z X k0 n0 w tgt L S) (kf : ¬ x = 0 → Z X k0 n0 w n L S) : Z X k0 n0 w pc L (.int x :: S) := by
  subst hn; intro H locs ls hP hD hS hl; exact lv_if_eq C.x C.b hd ht (fun h => kt h H locs ls hP hD hS hl) (fun h => kf h H locs ls hP hD hS hl)
theorem z_icmp_ne (C : Cx X own cc d) {x y : Int32} {off : Int} {tgt : Nat} (hd : decode cc pc = .ok (.if_icmp .ne off, 3)) (ht : (pc : Int) + off = (tgt : Int)) (hn : pc + 3 = n) (kt : ¬ x = y → Z X k0 n0 w tgt L S) (kf : x = y → Z X k0 n0 w n L S) : Z X k0 n0 w pc L (.int y :: .int x :: S) := by
  subst hn; intro H locs ls hP hD hS hl; exact lv_icmp_ne C.x C.b hd ht (fun h => kt h H locs ls hP hD hS hl) (fun h => kf h H locs ls hP hD hS hl)
theorem z_if_ne (C : Cx X own cc d) {x : Int32} {off : Int} {tgt : Nat} (hd : decode cc pc = .ok (.ifCond .ne off, 3)) (ht : (pc : Int) + off = (tgt : Int)) (hn : pc + 3 = n) (kt : ¬ x = 0 → Z X k0 n0 w tgt L S) (kf : x = 0 → Z X k0 n0 w n L S) : Z X k0 n0 w pc L (.int x :: S) := by
  subst hn; intro H locs ls hP hD hS hl; exact lv_if_ne C.x C.b hd ht (fun h => kt h H locs ls hP hD hS hl) (fun h => kf h H locs ls hP hD hS hl)
theorem z_icmp_lt (C : Cx X own cc d) {x y : Int32} {off : Int} {tgt : Nat} (hd : decode cc pc = .ok (.if_icmp .lt off, 3)) (ht : (pc : Int) + off = (tgt : Int)) (hn : pc + 3 = n) (kt : x < y → Z X k0 n0 w tgt L S) (kf : ¬ x < y → Z X k0 n0 w n L S) : Z X k0 n0 w pc L (.int y :: .int x :: S) := by
  subst hn; intro H locs ls hP hD hS hl; exact lv_icmp_lt C.x C.b hd ht (fun h => kt h H locs ls hP hD hS hl) (fun h => kf h H locs ls hP hD hS hl)
theorem z_if_lt (C : Cx X own cc d) {x : Int32} {off : Int} {tgt : Nat} (hd : decode cc pc = .ok (.ifCond .lt off, 3)) (ht : (pc : Int) + off = (tgt : Int)) (hn : pc + 3 = n) (kt : x < 0 → Z X k0 n0 w tgt L S) (kf : ¬ x < 0 → Z X k0 n0 w n L S) : Z X k0 n0 w pc L (.int x :: S) := by
  subst hn; intro H locs ls hP hD hS hl; exact lv_if_lt C.x C.b hd ht (fun h => kt h H locs ls hP hD hS hl) (fun h => kf h H locs ls hP hD hS hl)
theorem z_icmp_ge (C : Cx X own cc d) {x y : Int32} {off : Int} {tgt : Nat} (hd : decode cc pc = .ok (.if_icmp .ge off, 3)) (ht : (pc : Int) + off = (tgt : Int)) (hn : pc + 3 = n) (kt : y ≤ x → Z X k0 n0 w tgt L S) (kf : ¬ y ≤ x → Z X k0 n0 w n L S) : Z X k0 n0 w pc L (.int y :: .int x :: S) := by
  subst hn; intro H locs ls hP hD hS hl; exact lv_icmp_ge C.x C.b hd ht (fun h => kt h H locs ls hP hD hS hl) (fun h => kf h H locs ls hP hD hS hl)
theorem z_if_ge (C : Cx X own cc d) {x : Int32} {off : Int} {tgt : Nat} (hd : decode cc pc = .ok (.ifCond .ge off, 3)) (ht : (pc : Int) + off = (tgt : Int)) (hn : pc + 3 = n) (kt : 0 ≤ x → Z X k0 n0 w tgt L S) (kf : ¬ 0 ≤ x → Z X k0 n0 w n L S) : Z X k0 n0 w pc L (.int x :: S) := by
  subst hn; intro H locs ls hP hD hS hl; exact lv_if_ge C.x C.b hd ht (fun h => kt h H locs ls hP hD hS hl) (fun h => kf h H locs ls hP hD hS hl)
theorem z_icmp_gt (C : Cx X own cc d) {x y : Int32} {off : Int} {tgt : Nat} (hd : decode cc pc = .ok (.if_icmp .gt off, 3)) (ht : (pc : Int) + off = (tgt : Int)) (hn : pc + 3 = n) (kt : y < x → Z X k0 n0 w tgt L S) (kf : ¬ y < x → Z X k0 n0 w n L S) : Z X k0 n0 w pc L (.int y :: .int x :: S) := by
  subst hn; intro H locs ls hP hD hS hl; exact lv_icmp_gt C.x C.b hd ht (fun h => kt h H locs ls hP hD hS hl) (fun h => kf h H locs ls hP hD hS hl)
theorem z_if_gt (C : Cx X own cc d) {x : Int32} {off : Int} {tgt : Nat} (hd : decode cc pc = .ok (.ifCond .gt off, 3)) (ht : (pc : Int) + off = (tgt : Int)) (hn : pc + 3 = n) (kt : 0 < x → Z X k0 n0 w tgt L S) (kf : ¬ 0 < x → Z X k0 n0 w n L S) : Z X k0 n0 w pc L (.int x :: S) := by
  subst hn; intro H locs ls hP hD hS hl; exact lv_if_gt C.x C.b hd ht (fun h => kt h H locs ls hP hD hS hl) (fun h => kf h H locs ls hP hD hS hl)
theorem z_icmp_le (C : Cx X own cc d) {x y : Int32} {off : Int} {tgt : Nat} (hd : decode cc pc = .ok (.if_icmp .le off, 3)) (ht : (pc : Int) + off = (tgt : Int)) (hn : pc + 3 = n) (kt : x ≤ y → Z X k0 n0 w tgt L S) (kf : ¬ x ≤ y → Z X k0 n0 w n L S) : Z X k0 n0 w pc L (.int y :: .int x :: S) := by
  subst hn; intro H locs ls hP hD hS hl; exact lv_icmp_le C.x C.b hd ht (fun h => kt h H locs ls hP hD hS hl) (fun h => kf h H locs ls hP hD hS hl)
theorem z_if_le (C : Cx X own cc d) {x : Int32} {off : Int} {tgt : Nat} (hd : decode cc pc = .ok (.ifCond .le off, 3)) (ht : (pc : Int) + off = (tgt : Int)) (hn : pc + 3 = n) (kt : x ≤ 0 → Z X k0 n0 w tgt L S) (kf : ¬ x ≤ 0 → Z X k0 n0 w n L S) : Z X k0 n0 w pc L (.int x :: S) := by
  subst hn; intro H locs ls hP hD hS hl; exact lv_if_le C.x C.b hd ht (fun h => kt h H locs ls hP hD hS hl) (fun h => kf h H locs ls hP hD hS hl)
theorem z_lcmp (C : Cx X own cc d) {x y : Int64} (hd : decode cc pc = .ok (.lcmp, 1)) (hn : pc + 1 = n) (k : Z X k0 n0 w n L (.int (lg_cmp x y) :: S)) : Z X k0 n0 w pc L (.long y :: .long x :: S) := by
  subst hn; intro H locs ls hP hD hS hl; exact W.lcmp C.x C.b hd (k H locs ls hP hD hS hl)
theorem z_dup2 (C : Cx X own cc d) {u v : Value} (hd : decode cc pc = .ok (.dup2, 1)) (hn : pc + 1 = n) (hu : u.category = 1) (hv : v.category = 1) (k : Z X k0 n0 w n L (u :: v :: u :: v :: S)) : Z X k0 n0 w pc L (u :: v :: S) := by
  subst hn; intro H locs ls hP hD hS hl; exact lv_dup2_11 C.x C.b hd hu hv (k H locs ls hP hD hS hl)
theorem z_tableIn (C : Cx X own cc d) {dflt lo hi : Int} {offs : Array Int} {len : Nat} {x : Int32} {off : Int} (hd : decode cc pc = .ok (.tableswitch dflt lo hi offs, len)) (h1 : ¬ x.toInt < lo) (h2 : ¬ hi < x.toInt) (ho : offs[(x.toInt - lo).toNat]? = some off) (ht : (pc : Int) + off = (n : Int)) (k : Z X k0 n0 w n L S) : Z X k0 n0 w pc L (.int x :: S) := by
  intro H locs ls hP hD hS hl; exact lv_tableIn C.x C.b hd h1 h2 ho ht (k H locs ls hP hD hS hl)
theorem z_tableOut (C : Cx X own cc d) {dflt lo hi : Int} {offs : Array Int} {len : Nat} {x : Int32} (hd : decode cc pc = .ok (.tableswitch dflt lo hi offs, len)) (h : x.toInt < lo ∨ hi < x.toInt) (ht : (pc : Int) + dflt = (n : Int)) (k : Z X k0 n0 w n L S) : Z X k0 n0 w pc L (.int x :: S) := by
  intro H locs ls hP hD hS hl; exact lv_tableOut C.x C.b hd h ht (k H locs ls hP hD hS hl)
theorem z_lookup (C : Cx X own cc d) {dflt : Int} {ps : Array (Int × Int)} {len : Nat} {x : Int32} {off : Int} (hd : decode cc pc = .ok (.lookupswitch dflt ps, len)) (hp : (ps.toList.zip (ps.toList.drop 1)).all (fun (a, next) => a.1 < next.1) = true) (ho : Op.lookupswitch.offset ps.toList dflt x.toInt = off) (ht : (pc : Int) + off = (n : Int)) (k : Z X k0 n0 w n L S) : Z X k0 n0 w pc L (.int x :: S) := by
  intro H locs ls hP hD hS hl; exact lv_lookup C.x C.b hd hp ho ht (k H locs ls hP hD hS hl)
theorem z_goto (C : Cx X own cc d) {off : Int} (hd : decode cc pc = .ok (.goto off, 3)) (hn : (pc : Int) + off = (n : Int)) (k : Z X k0 n0 w n L S) : Z X k0 n0 w pc L S := by
  intro H locs ls hP hD hS hl; exact lv_goto C.x C.b hd hn (k H locs ls hP hD hS hl)
end ROWS
/-! fields -/
def kt (ty : FieldType) : Nat := match ty with | .int => 0 | .boolean => 0 | .long => 1 | _ => 2
def Fk (own : String) (idx ci k : Nat) (ty : FieldType) (fin : Bool) : Prop := ∃ (C : String) (T : u_T) (N : Nat) (ty0 : Nat → FieldType), vwCl[ci]? = some (C, T, N) ∧ k < N ∧ (∀ w ∈ u_ws C T N, w ∈ gW) ∧ (Cond.fieldLink own idx (T k).1 (T k).2.1 (T k).2.2.1 ∈ gW ∨ ∃ host, (own, idx, (T k).1, (T k).2.1, (T k).2.2.1, host) ∈ nestF) ∧ ci < 11 ∧ (T k).2.2.2 = fin ∧ (∀ j, j < N → parseFieldDescriptor (T j).2.2.1 = some (ty0 j)) ∧ (∀ a, a < N → ∀ b, b < N → a ≠ b → (T a).2.1 ≠ (T b).2.1) ∧ ty0 k = ty ∧ (fk ci)[k]? = some (kt ty)
section HEAPROWS
variable {X : KX} {own : String} {cc : ByteArray} {d k0 n0 : Nat} {pc n : Nat} {L : List (Nat × Value)} {S : List Value} {I : KI} {J : KJ} {Rf : KR}
theorem z_getf (C : Cx X own cc d) (K : Kx X) {idx ci k p nn : Nat} {ty : FieldType} {fin : Bool} (hF : Fk own idx ci k ty fin) (hd : decode cc pc = .ok (.getfield idx, 3)) (hn : pc + 3 = n) (hs : sh p = (ci, nn)) (hp : p < 110) (kk : Z X k0 n0 (V X I J Rf) n L (fldv (xad X) I J Rf p k (kt ty) :: S)) : Z X k0 n0 (V X I J Rf) pc L (.ref (xad X p) :: S) := by
  subst hn
  obtain ⟨Cn, T, N, ty0, h1, h2, h3, h4, h5, -, -, -, -, h9⟩ := hF
  intro H locs ls hP hD hS hl
  rcases h4 with h4 | ⟨host, h4⟩
  · exact va_get C.x C.b C.ts h3 C.own K.1 hP p (wsO_get hp |>.trans (by rw [cell_obj hs h5])) h1 k h2 (C.ts _ h4) (fun _ h => h) (flds_get h9) hd (kk H locs ls hP hD hS hl)
  · exact va_getN C.x C.b C.ts h3 C.own K.1 hP p (wsO_get hp |>.trans (by rw [cell_obj hs h5])) h1 k h2 (va_Nw.use rfl (K.2.1 _ h4)) (fun _ h => h) (flds_get h9) hd (kk H locs ls hP hD hS hl)
theorem z_getI (C : Cx X own cc d) (K : Kx X) {idx ci k p nn : Nat} {fin : Bool} (hF : Fk own idx ci k .int fin) (hd : decode cc pc = .ok (.getfield idx, 3)) (hn : pc + 3 = n) (hs : sh p = (ci, nn)) (hp : p < 110) (kk : Z X k0 n0 (V X I J Rf) n L (.int (I p k) :: S)) : Z X k0 n0 (V X I J Rf) pc L (.ref (xad X p) :: S) := z_getf C K hF hd hn hs hp kk
theorem z_getB (C : Cx X own cc d) (K : Kx X) {idx ci k p nn : Nat} {fin : Bool} (hF : Fk own idx ci k .boolean fin) (hd : decode cc pc = .ok (.getfield idx, 3)) (hn : pc + 3 = n) (hs : sh p = (ci, nn)) (hp : p < 110) (kk : Z X k0 n0 (V X I J Rf) n L (.int (I p k) :: S)) : Z X k0 n0 (V X I J Rf) pc L (.ref (xad X p) :: S) := z_getf C K hF hd hn hs hp kk
theorem z_getJ (C : Cx X own cc d) (K : Kx X) {idx ci k p nn : Nat} {fin : Bool} (hF : Fk own idx ci k .long fin) (hd : decode cc pc = .ok (.getfield idx, 3)) (hn : pc + 3 = n) (hs : sh p = (ci, nn)) (hp : p < 110) (kk : Z X k0 n0 (V X I J Rf) n L (.long (J p k) :: S)) : Z X k0 n0 (V X I J Rf) pc L (.ref (xad X p) :: S) := z_getf C K hF hd hn hs hp kk
theorem z_getR (C : Cx X own cc d) (K : Kx X) {idx ci k p nn q : Nat} {ty : FieldType} {fin : Bool} (hF : Fk own idx ci k ty fin) (hd : decode cc pc = .ok (.getfield idx, 3)) (hn : pc + 3 = n) (hk : kt ty = 2) (hs : sh p = (ci, nn)) (hp : p < 110) (hr : Rf p k = some q) (kk : Z X k0 n0 (V X I J Rf) n L (.ref (xad X q) :: S)) : Z X k0 n0 (V X I J Rf) pc L (.ref (xad X p) :: S) := by
  refine z_getf C K hF hd hn hs hp ?_
  have e : fldv (xad X) I J Rf p k (kt ty) = .ref (xad X q) := by
    rw [hk]; unfold fldv; rw [if_neg (by decide), if_neg (by decide), hr]; rfl
  rw [e]; exact kk
theorem z_putf (C : Cx X own cc d) (K : Kx X) {idx ci k p nn : Nat} {ty : FieldType} {v : Value} {I' : KI} {J' : KJ} {Rf' : KR} (hF : Fk own idx ci k ty false) (hd : decode cc pc = .ok (.putfield idx, 3)) (hn : pc + 3 = n) (hs : sh p = (ci, nn)) (hp : p < 110) (hv : narrow ty v = v) (hfit : fits ty v = true)
    (he : fldv (xad X) I' J' Rf' p k (kt ty) = v) (ho : ∀ j u, j ≠ k → fldv (xad X) I' J' Rf' p j u = fldv (xad X) I J Rf p j u) (hq : ∀ q, q ≠ p → cellE (xcy X) (xad X) I' J' Rf' q = cellE (xcy X) (xad X) I J Rf q)
    (kk : Z X k0 n0 (V X I' J' Rf') n L S) : Z X k0 n0 (V X I J Rf) pc L (v :: .ref (xad X p) :: S) := by
  subst hn
  obtain ⟨Cn, T, N, ty0, h1, h2, h3, h4, h5, h6, h7, h8, h8b, h9⟩ := hF
  intro H locs ls hP hD hS hl
  have hlen : k < (flds (xad X) I J Rf p ci).length := by rw [flds_len]; exact (List.getElem?_eq_some_iff.mp h9).1
  have e : (V X I J Rf).set p (xad X p, .inr (ci, (flds (xad X) I J Rf p ci).set k v)) = V X I' J' Rf' := by
    refine wsO_set hp ?_ hq
    rw [cell_obj hs h5, flds_set h9 he ho]
  rcases h4 with h4 | ⟨host, h4⟩
  · refine va_put (v := v) C.x C.b C.ts h3 ty0 h7 h8 C.own K.1 hP hD hS p (wsO_get hp |>.trans (by rw [cell_obj hs h5])) h1 k h2 (C.ts _ h4) (fun _ h => h) h6 ((h7 k h2).trans (by rw [h8b])) hv hfit hlen hd (fun H1 locs1 hP1 hD1 hS1 => ?_)
    rw [e] at hP1 hD1
    exact kk H1 locs1 ls hP1 hD1 hS1 hl
  · refine va_putN (v := v) C.x C.b C.ts h3 ty0 h7 h8 C.own K.1 hP hD hS p (wsO_get hp |>.trans (by rw [cell_obj hs h5])) h1 k h2 (va_Nw.use rfl (K.2.1 _ h4)) (fun _ h => h) h6 ((h7 k h2).trans (by rw [h8b])) hv hfit hlen hd (fun H1 locs1 hP1 hD1 hS1 => ?_)
    rw [e] at hP1 hD1
    exact kk H1 locs1 ls hP1 hD1 hS1 hl
theorem fldv_I {ad : Nat → Nat} {p k j u : Nat} {v : Int32} (h : j ≠ k) : fldv ad (upI I p k v) J Rf p j u = fldv ad I J Rf p j u := by unfold fldv; rw [upI_k I v h]
theorem fldv_J {ad : Nat → Nat} {p k j u : Nat} {v : Int64} (h : j ≠ k) : fldv ad I (upJ J p k v) Rf p j u = fldv ad I J Rf p j u := by unfold fldv; rw [upJ_k J v h]
theorem fldv_R {ad : Nat → Nat} {p k j u : Nat} {v : Option Nat} (h : j ≠ k) : fldv ad I J (upR Rf p k v) p j u = fldv ad I J Rf p j u := by unfold fldv; rw [upR_k Rf v h]
theorem z_putI (C : Cx X own cc d) (K : Kx X) {idx ci k p nn : Nat} {v : Int32} (hF : Fk own idx ci k .int false) (hd : decode cc pc = .ok (.putfield idx, 3)) (hn : pc + 3 = n) (hs : sh p = (ci, nn)) (hp : p < 110) (kk : Z X k0 n0 (V X (upI I p k v) J Rf) n L S) : Z X k0 n0 (V X I J Rf) pc L (.int v :: .ref (xad X p) :: S) :=
  z_putf C K hF hd hn hs hp rfl rfl (by show Value.int (upI I p k v p k) = _; rw [upI_same]) (fun j u h => fldv_I h) (fun q h => cellE_I h) kk
theorem z_putB (C : Cx X own cc d) (K : Kx X) {idx ci k p nn : Nat} {v : Int32} (hF : Fk own idx ci k .boolean false) (hd : decode cc pc = .ok (.putfield idx, 3)) (hn : pc + 3 = n) (hs : sh p = (ci, nn)) (hp : p < 110) (hv : v = 0 ∨ v = 1) (kk : Z X k0 n0 (V X (upI I p k v) J Rf) n L S) : Z X k0 n0 (V X I J Rf) pc L (.int v :: .ref (xad X p) :: S) :=
  z_putf C K hF hd hn hs hp (by rcases hv with rfl | rfl <;> rfl) (by rcases hv with rfl | rfl <;> rfl) (by show Value.int (upI I p k v p k) = _; rw [upI_same]) (fun j u h => fldv_I h) (fun q h => cellE_I h) kk
theorem z_putJ (C : Cx X own cc d) (K : Kx X) {idx ci k p nn : Nat} {v : Int64} (hF : Fk own idx ci k .long false) (hd : decode cc pc = .ok (.putfield idx, 3)) (hn : pc + 3 = n) (hs : sh p = (ci, nn)) (hp : p < 110) (kk : Z X k0 n0 (V X I (upJ J p k v) Rf) n L S) : Z X k0 n0 (V X I J Rf) pc L (.long v :: .ref (xad X p) :: S) :=
  z_putf C K hF hd hn hs hp rfl rfl (by show Value.long (upJ J p k v p k) = _; rw [upJ_same]) (fun j u h => fldv_J h) (fun q h => cellE_J h) kk
theorem z_putR (C : Cx X own cc d) (K : Kx X) {idx ci k p nn q : Nat} {c : String} (hF : Fk own idx ci k (.object c) false) (hd : decode cc pc = .ok (.putfield idx, 3)) (hn : pc + 3 = n) (hs : sh p = (ci, nn)) (hp : p < 110) (kk : Z X k0 n0 (V X I J (upR Rf p k (some q))) n L S) : Z X k0 n0 (V X I J Rf) pc L (.ref (xad X q) :: .ref (xad X p) :: S) :=
  z_putf C K hF hd hn hs hp rfl rfl (by show va_rf ((upR Rf p k (some q) p k).map _) = _; rw [upR_same]; rfl) (fun j u h => fldv_R h) (fun q h => cellE_R h) kk
/-! arrays -/
theorem z_iald (C : Cx X own cc d) (K : Kx X) {p nn : Nat} {i : Int32} (hd : decode cc pc = .ok (.iaload, 1)) (hn : pc + 1 = n) (hs : sh p = (11, nn)) (hp : p < 110) (hin : vp_in i nn) (kk : Z X k0 n0 (V X I J Rf) n L (.int (I p i.toNatClampNeg) :: S)) : Z X k0 n0 (V X I J Rf) pc L (.int i :: .ref (xad X p) :: S) := by
  subst hn
  intro H locs ls hP hD hS hl
  exact va_iald C.x C.b K.1 hP p 0 (wsO_get hp |>.trans (by rw [cell_I hs])) rfl hin hd (kk H locs ls hP hD hS hl)
theorem z_lald (C : Cx X own cc d) (K : Kx X) {p nn : Nat} {i : Int32} (hd : decode cc pc = .ok (.laload, 1)) (hn : pc + 1 = n) (hs : sh p = (12, nn)) (hp : p < 110) (hin : vp_in i nn) (kk : Z X k0 n0 (V X I J Rf) n L (.long (J p i.toNatClampNeg) :: S)) : Z X k0 n0 (V X I J Rf) pc L (.int i :: .ref (xad X p) :: S) := by
  subst hn
  intro H locs ls hP hD hS hl
  exact va_lald C.x C.b K.1 hP p 1 (wsO_get hp |>.trans (by rw [cell_J hs])) rfl hin hd (kk H locs ls hP hD hS hl)
theorem z_iast (C : Cx X own cc d) (K : Kx X) {p nn : Nat} {i v : Int32} (hd : decode cc pc = .ok (.iastore, 1)) (hn : pc + 1 = n) (hs : sh p = (11, nn)) (hp : p < 110) (hin : vp_in i nn) (kk : Z X k0 n0 (V X (upI I p i.toNatClampNeg v) J Rf) n L S) : Z X k0 n0 (V X I J Rf) pc L (.int v :: .int i :: .ref (xad X p) :: S) := by
  subst hn
  intro H locs ls hP hD hS hl
  refine va_iast C.x C.b K.1 hP hD hS p 0 (wsO_get hp |>.trans (by rw [cell_I hs])) rfl hin hd (fun H1 locs1 hP1 hD1 hS1 => ?_)
  have e : (V X I J Rf).set p (xad X p, .inl (xcy X 0, nn, .inl (upd (I p) i.toNatClampNeg v))) = V X (upI I p i.toNatClampNeg v) J Rf := by
    refine wsO_set hp ?_ (fun q h => cellE_I h)
    rw [cell_I hs, upI_at]
  rw [e] at hP1 hD1
  exact kk H1 locs1 ls hP1 hD1 hS1 hl
theorem z_last (C : Cx X own cc d) (K : Kx X) {p nn : Nat} {i : Int32} {v : Int64} (hd : decode cc pc = .ok (.lastore, 1)) (hn : pc + 1 = n) (hs : sh p = (12, nn)) (hp : p < 110) (hin : vp_in i nn) (kk : Z X k0 n0 (V X I (upJ J p i.toNatClampNeg v) Rf) n L S) : Z X k0 n0 (V X I J Rf) pc L (.long v :: .int i :: .ref (xad X p) :: S) := by
  subst hn
  intro H locs ls hP hD hS hl
  refine va_last C.x C.b K.1 hP hD hS p 1 (wsO_get hp |>.trans (by rw [cell_J hs])) rfl hin hd (fun H1 locs1 hP1 hD1 hS1 => ?_)
  have e : (V X I J Rf).set p (xad X p, .inl (xcy X 1, nn, .inr (.inl (vp_updL (J p) i.toNatClampNeg v)))) = V X I (upJ J p i.toNatClampNeg v) Rf := by
    refine wsO_set hp ?_ (fun q h => cellE_J h)
    rw [cell_J hs, upJ_at]
  rw [e] at hP1 hD1
  exact kk H1 locs1 ls hP1 hD1 hS1 hl
/-- an element of an array of references, its place known -/
theorem z_aald (C : Cx X own cc d) (K : Kx X) {p ci nn q : Nat} {i : Int32} (hd : decode cc pc = .ok (.aaload, 1)) (hn : pc + 1 = n) (hc : ci < 3) (hs : sh p = (ci + 13, nn)) (hp : p < 110) (hin : vp_in i nn) (hr : Rf p i.toNatClampNeg = some q) (kk : Z X k0 n0 (V X I J Rf) n L (.ref (xad X q) :: S)) : Z X k0 n0 (V X I J Rf) pc L (.int i :: .ref (xad X p) :: S) := by
  subst hn
  intro H locs ls hP hD hS hl
  have ha : (V X I J Rf)[p]? = some (xad X p, .inl (xcy X (ci + 2), nn, .inr (.inr (.inr (.inr (fun i => (Rf p i).map (xad X))))))) := wsO_get hp |>.trans (by rw [cell_R hs])
  have hlt : i.toNatClampNeg < nn := Nat.not_le.mp fun q => hin (Or.inr q)
  have hv : va_rf ((Rf p i.toNatClampNeg).map (xad X)) = .ref (xad X q) := by rw [hr]; rfl
  obtain ⟨ty, t0, ht, hty⟩ : ∃ (ty : FieldType) (t0 : Nat), (tysO (xcy X))[t0]? = some (xcy X (ci + 2), ty) ∧ ty.isReference = true := by
    rcases (show ci = 0 ∨ ci = 1 ∨ ci = 2 by omega) with rfl | rfl | rfl
    · exact ⟨_, 2, rfl, rfl⟩
    · exact ⟨_, 3, rfl, rfl⟩
    · exact ⟨_, 4, rfl, rfl⟩
  refine W.aald (v := .ref (xad X q)) (ty := ty) C.x C.b (hP p _ ha) ((K.1.2 t0 _ ht).1 nn (fun j => va_rf ((Rf p j).map (xad X)))) hty (fun q => by cases q) (by show ¬ (i < 0 ∨ (arrV _ _ _).slots.size ≤ _); rw [arrV_size]; exact hin) (by show (arrV _ _ _).slots[_]? = _; rw [arrV_read _ _ hlt, hv]) rfl rfl hd (kk H locs ls hP hD hS hl)
end HEAPROWS
/-! methods -/
def AA (ad : Nat → Nat) (sz : Nat) : Nat → Prop := fun q => (∃ p, p < 110 ∧ q = ad p) ∨ sz ≤ q
def Pk (D : va_G) (cy : Nat → ClassId) (ad : Nat → Nat) (I : KI) (J : KJ) (Rf : KR) (sz : Nat) (U : State) : Prop := U.heap.size = sz ∧ va_P D vwCl (wsO cy ad 110 I J Rf) U.heap ∧ va_K D vwCl (tysO cy) U ∧ va_D (fun _ => True) (wsO cy ad 110 I J Rf) ∧ NW U
abbrev KS : Type := KI × KJ × KR
def QB (D : va_G) (cy : Nat → ClassId) (ad : Nat → Nat) (u : KS) (t : State) : Prop := va_P D vwCl (wsO cy ad 110 u.1 u.2.1 u.2.2) t.heap
abbrev wm (y : MethodName) (b : ByteArray) (n : Nat) (ret : Option FieldType) : List Cond := Cond.code y b n ret :: gW
def Mi (d : Nat) (y : MethodName) (ws : List Cond) (av : List Value) (ad : Nat → Nat) (I : KI) (J : KJ) (Rf : KR) (Q : Int32 → KI → KJ → KR → Prop) : Prop := ∀ (l : Launch) (D : va_G) (cy : Nat → ClassId) (sz : Nat), Met l y ws (rmd d) (va_Pc av (Pk D cy ad I J Rf sz)) (va_Qi (fun r (u : KS) => Q r u.1 u.2.1 u.2.2) (QB D cy ad) (AA ad sz)) 0 0 (AA ad sz)
def Ml (d : Nat) (y : MethodName) (ws : List Cond) (av : List Value) (ad : Nat → Nat) (I : KI) (J : KJ) (Rf : KR) (Q : Int64 → KI → KJ → KR → Prop) : Prop := ∀ (l : Launch) (D : va_G) (cy : Nat → ClassId) (sz : Nat), Met l y ws (rmd d) (va_Pc av (Pk D cy ad I J Rf sz)) (va_Ql (fun r (u : KS) => Q r u.1 u.2.1 u.2.2) (QB D cy ad) (AA ad sz)) 0 0 (AA ad sz)
def Mv (d : Nat) (y : MethodName) (ws : List Cond) (av : List Value) (ad : Nat → Nat) (I : KI) (J : KJ) (Rf : KR) (Q : KI → KJ → KR → Prop) : Prop := ∀ (l : Launch) (D : va_G) (cy : Nat → ClassId) (sz : Nat), Met l y ws (rmd d) (va_Pc av (Pk D cy ad I J Rf sz)) (va_Qv (fun (u : KS) => Q u.1 u.2.1 u.2.2) (QB D cy ad) (AA ad sz)) 0 0 (AA ad sz)
def Yk (y : MethodName) (b : ByteArray) (n : Nat) (ret : Option FieldType) (np : Nat) : Prop := plainName y.cls = true ∧ Cond.code y b n ret ∈ gW ∧ Cond.initialized y.cls ∈ gW ∧ y.cls ≠ "java/lang/invoke/MethodHandle" ∧ y.cls ≠ "java/lang/invoke/VarHandle" ∧ (parseMethodDescriptor y.desc).map (fun d => d.parameters.length) = some np ∧ n ≤ 21
def Yv (y : MethodName) : Prop := Cond.instanceMethod y ∈ gW ∧ Cond.selects y.cls y y ∈ gW
def Ei (X : KX) (rt : FieldType) (Q : Int32 → KI → KJ → KR → Prop) : Prop := (xmeth X).sig.returnType = some rt ∧ xQ X = MQ (xbelow X) (va_Qi (fun r (u : KS) => Q r u.1 u.2.1 u.2.2) (QB (xD X) (xcy X) (xad X)) (xA X)) (xa X) (xs X) 0 0 (xA X)
def El (X : KX) (Q : Int64 → KI → KJ → KR → Prop) : Prop := (xmeth X).sig.returnType = some .long ∧ xQ X = MQ (xbelow X) (va_Ql (fun r (u : KS) => Q r u.1 u.2.1 u.2.2) (QB (xD X) (xcy X) (xad X)) (xA X)) (xa X) (xs X) 0 0 (xA X)
def Ev (X : KX) (Q : KI → KJ → KR → Prop) : Prop := (xmeth X).sig.returnType = none ∧ xQ X = MQ (xbelow X) (va_Qv (fun (u : KS) => Q u.1 u.2.1 u.2.2) (QB (xD X) (xcy X) (xad X)) (xA X)) (xa X) (xs X) 0 0 (xA X)
section METHODS
variable {X : KX} {own : String} {cc : ByteArray} {d k0 n0 : Nat} {pc n : Nat} {L : List (Nat × Value)} {S : List Value} {I : KI} {J : KJ} {Rf : KR}
theorem z_iret (C : Cx X own cc d) {Q : Int32 → KI → KJ → KR → Prop} (E : Ei X .int Q) {x : Int32} (hd : decode cc pc = .ok (.ireturn, 1)) (hq : Q x I J Rf) : Z X 0 0 (V X I J Rf) pc L [.int x] := by
  intro H locs ls hP hD hS hl
  rw [E.2]
  exact W.iret C.x C.b E.1 (fun t ht hW => ⟨⟨x, (I, J, Rf), rfl, hq, by unfold QB; rw [ht]; exact hP⟩, hS.F ht⟩) hS.2.2 hd C.lk
theorem z_zret (C : Cx X own cc d) {Q : Int32 → KI → KJ → KR → Prop} (E : Ei X .boolean Q) {x : Int32} (hd : decode cc pc = .ok (.ireturn, 1)) (hx : x = 0 ∨ x = 1) (hq : Q x I J Rf) : Z X 0 0 (V X I J Rf) pc L [.int x] := by
  intro H locs ls hP hD hS hl
  rw [E.2]
  exact W.zret C.x C.b E.1 (by rcases hx with rfl | rfl <;> rfl) (fun t ht hW => ⟨⟨x, (I, J, Rf), rfl, hq, by unfold QB; rw [ht]; exact hP⟩, hS.F ht⟩) hS.2.2 hd C.lk
theorem z_lret (C : Cx X own cc d) {Q : Int64 → KI → KJ → KR → Prop} (E : El X Q) {x : Int64} (hd : decode cc pc = .ok (.lreturn, 1)) (hq : Q x I J Rf) : Z X 0 0 (V X I J Rf) pc L [.long x] := by
  intro H locs ls hP hD hS hl
  rw [E.2]
  exact W.lret C.x C.b E.1 (fun t ht hW => ⟨⟨x, (I, J, Rf), rfl, hq, by unfold QB; rw [ht]; exact hP⟩, hS.F ht⟩) hS.2.2 hd C.lk
theorem z_vret (C : Cx X own cc d) {Q : KI → KJ → KR → Prop} (E : Ev X Q) (hd : decode cc pc = .ok (.return_, 1)) (hq : Q I J Rf) : Z X 0 0 (V X I J Rf) pc L [] := by
  intro H locs ls hP hD hS hl
  rw [E.2]
  exact W.vret C.x C.b E.1 (fun t ht hW => ⟨⟨(I, J, Rf), rfl, hq, by unfold QB; rw [ht]; exact hP⟩, hS.F ht⟩) hS.2.2 hd C.lk
theorem mi_of {y : MethodName} {b : ByteArray} {nl np : Nat} {rt : FieldType} {av : List Value} {ad : Nat → Nat} {Q : Int32 → KI → KJ → KR → Prop} {L : List (Nat × Value)} {I : KI} {J : KJ} {Rf : KR} (hY : Yk y b nl (some rt) np) (hown : y.cls = own) (hlen : (lg_sl av).length ≤ nl) (hL : lv_args 0 av = L) (body : ∀ X : KX, xad X = ad → xnL X = nl → Cx X own b d → Kx X → Ei X rt Q → Z X 0 0 (V X I J Rf) 0 L []) : Mi d y (wm y b nl (some rt)) av ad I J Rf Q := by
  intro l D cy sz
  subst hown
  subst hL
  refine Met.ofW (cc := b) (maxL := nl) (ret := some rt) hY.1 rfl ?_
  intro p e s m args below meth c s₁ B hml hv
  obtain ⟨rfl, hsz, hP, hK, hD0, hN⟩ := hv
  subst hsz
  have hD : va_D (AA ad s.heap.size) (wsO cy ad 110 I J Rf) := hD0.weaken (fun k q hk _ => by obtain ⟨h1, rfl⟩ := wsO_some hk; exact Or.inl ⟨k, h1, rfl⟩)
  have hts := atoms_spec (ws := wm y b nl (some rt)) B.pre
  have hl := lv_entry av (n := nl) hlen
  rw [lg_entry_eq]
  exact body (p, l, e, (headSpec (wm y b nl (some rt)) (rmd d)).room, s, m, av.toArray, below, meth, c, D, cy, AA ad s.heap.size, MQ below (va_Qi (fun r (u : KS) => Q r u.1 u.2.1 u.2.2) (QB D cy ad) (AA ad s.heap.size)) av.toArray s 0 0 (AA ad s.heap.size), ad, nl) rfl rfl ⟨B.exec, B.bytes, hml, findClass_of_methodNamed B.named, fun w hw => hts w (List.mem_cons_of_mem _ hw), B.notSynchronized, ⟨Nat.le_refl d, Nat.le_refl (40 * d)⟩, fun q h => Or.inr h⟩ ⟨hK, hN⟩ ⟨B.returns, rfl⟩ s.heap [] _ hP hD va_S.rf hl
theorem ml_of {y : MethodName} {b : ByteArray} {nl np : Nat} {av : List Value} {ad : Nat → Nat} {Q : Int64 → KI → KJ → KR → Prop} {L : List (Nat × Value)} {I : KI} {J : KJ} {Rf : KR} (hY : Yk y b nl (some .long) np) (hown : y.cls = own) (hlen : (lg_sl av).length ≤ nl) (hL : lv_args 0 av = L) (body : ∀ X : KX, xad X = ad → xnL X = nl → Cx X own b d → Kx X → El X Q → Z X 0 0 (V X I J Rf) 0 L []) : Ml d y (wm y b nl (some .long)) av ad I J Rf Q := by
  intro l D cy sz
  subst hown
  subst hL
  refine Met.ofW (cc := b) (maxL := nl) (ret := some .long) hY.1 rfl ?_
  intro p e s m args below meth c s₁ B hml hv
  obtain ⟨rfl, hsz, hP, hK, hD0, hN⟩ := hv
  subst hsz
  have hD : va_D (AA ad s.heap.size) (wsO cy ad 110 I J Rf) := hD0.weaken (fun k q hk _ => by obtain ⟨h1, rfl⟩ := wsO_some hk; exact Or.inl ⟨k, h1, rfl⟩)
  have hts := atoms_spec (ws := wm y b nl (some .long)) B.pre
  have hl := lv_entry av (n := nl) hlen
  rw [lg_entry_eq]
  exact body (p, l, e, (headSpec (wm y b nl (some .long)) (rmd d)).room, s, m, av.toArray, below, meth, c, D, cy, AA ad s.heap.size, MQ below (va_Ql (fun r (u : KS) => Q r u.1 u.2.1 u.2.2) (QB D cy ad) (AA ad s.heap.size)) av.toArray s 0 0 (AA ad s.heap.size), ad, nl) rfl rfl ⟨B.exec, B.bytes, hml, findClass_of_methodNamed B.named, fun w hw => hts w (List.mem_cons_of_mem _ hw), B.notSynchronized, ⟨Nat.le_refl d, Nat.le_refl (40 * d)⟩, fun q h => Or.inr h⟩ ⟨hK, hN⟩ ⟨B.returns, rfl⟩ s.heap [] _ hP hD va_S.rf hl
theorem mv_of {y : MethodName} {b : ByteArray} {nl np : Nat} {av : List Value} {ad : Nat → Nat} {Q : KI → KJ → KR → Prop} {L : List (Nat × Value)} {I : KI} {J : KJ} {Rf : KR} (hY : Yk y b nl none np) (hown : y.cls = own) (hlen : (lg_sl av).length ≤ nl) (hL : lv_args 0 av = L) (body : ∀ X : KX, xad X = ad → xnL X = nl → Cx X own b d → Kx X → Ev X Q → Z X 0 0 (V X I J Rf) 0 L []) : Mv d y (wm y b nl none) av ad I J Rf Q := by
  intro l D cy sz
  subst hown
  subst hL
  refine Met.ofW (cc := b) (maxL := nl) (ret := none) hY.1 rfl ?_
  intro p e s m args below meth c s₁ B hml hv
  obtain ⟨rfl, hsz, hP, hK, hD0, hN⟩ := hv
  subst hsz
  have hD : va_D (AA ad s.heap.size) (wsO cy ad 110 I J Rf) := hD0.weaken (fun k q hk _ => by obtain ⟨h1, rfl⟩ := wsO_some hk; exact Or.inl ⟨k, h1, rfl⟩)
  have hts := atoms_spec (ws := wm y b nl none) B.pre
  have hl := lv_entry av (n := nl) hlen
  rw [lg_entry_eq]
  exact body (p, l, e, (headSpec (wm y b nl none) (rmd d)).room, s, m, av.toArray, below, meth, c, D, cy, AA ad s.heap.size, MQ below (va_Qv (fun (u : KS) => Q u.1 u.2.1 u.2.2) (QB D cy ad) (AA ad s.heap.size)) av.toArray s 0 0 (AA ad s.heap.size), ad, nl) rfl rfl ⟨B.exec, B.bytes, hml, findClass_of_methodNamed B.named, fun w hw => hts w (List.mem_cons_of_mem _ hw), B.notSynchronized, ⟨Nat.le_refl d, Nat.le_refl (40 * d)⟩, fun q h => Or.inr h⟩ ⟨hK, hN⟩ ⟨B.returns, rfl⟩ s.heap [] _ hP hD va_S.rf hl
theorem pk_blind {D : va_G} {cy : Nat → ClassId} {ad : Nat → Nat} {sz : Nat} {av : List Value} : FrameBlind (va_Pc av (Pk D cy ad I J Rf sz)) := fun a U g mk q => by obtain ⟨q0, q1, qP, qK, qD, qN⟩ := q; exact ⟨q0, q1, qP, va_K.moved (u := U) (U := U.calling g mk a) (Vm.Alike.refl U.vm) qK, qD, NW.same (u := U) rfl qN⟩
theorem goodV {idx : Nat} {y : MethodName} {b : ByteArray} {nl : Nat} {ret : Option FieldType} {np : Nat} (hY : Yk y b nl ret np) (hV : Yv y) (hm : Cond.methodLink own idx y ∈ gW) : GoodIn gW (wsV own idx y.cls y (wm y b nl ret)) := by
  intro w hw
  have h : w ∈ gW := by
    rcases List.mem_append.mp hw with h | h
    · rcases List.mem_cons.mp h with rfl | h
      · exact hm
      · rcases List.mem_cons.mp h with rfl | h
        · exact hV.1
        · rcases List.mem_cons.mp h with rfl | h
          · exact hV.2
          · rcases List.mem_cons.mp h with rfl | h
            · exact hY.2.2.1
            · cases h
    · rcases List.mem_cons.mp h with rfl | h
      · exact hY.2.1
      · exact h
  exact ⟨h, gW_good w h⟩
theorem goodM {y : MethodName} {b : ByteArray} {nl : Nat} {ret : Option FieldType} {np : Nat} (hY : Yk y b nl ret np) : GoodIn gW (wm y b nl ret) := by
  intro w hw
  have h : w ∈ gW := by
    rcases List.mem_cons.mp hw with rfl | h
    · exact hY.2.1
    · exact h
  exact ⟨h, gW_good w h⟩
theorem cwv {X : KX} {own : String} {cc : ByteArray} {d d' : Nat} (C : Cx X own cc d) (hdd : d' < d) {idx : Nat} {y : MethodName} {b : ByteArray} {nl : Nat} {ret : Option FieldType} {np : Nat} (hY : Yk y b nl ret np) (hV : Yv y) (hm : Cond.methodLink own idx y ∈ gW) : CallW (xRm X) (xs X) (xa X) own y.cls idx y b nl ret (wm y b nl ret) (rmd d') 0 0 np := by
  refine cwV np C.ts (goodV hY hV hm) rfl rfl rfl ⟨rfl, hY.2.2.2.1, hY.2.2.2.2.1, hY.2.2.2.2.2.1⟩ ⟨?_, ?_⟩
  · have := C.rm.1; show d' + 1 ≤ _; omega
  · have := C.rm.2; have h2 := hY.2.2.2.2.2.2; show 8 + (nl + 11) + 40 * d' ≤ _; omega
theorem cws {X : KX} {own : String} {cc : ByteArray} {d d' : Nat} (C : Cx X own cc d) (hdd : d' < d) {idx : Nat} {y : MethodName} {b : ByteArray} {nl : Nat} {ret : Option FieldType} {np : Nat} (hY : Yk y b nl ret np) (hS : Cond.static y ∈ gW) (hm : Cond.methodLink own idx y ∈ gW) : CallB (xRm X) (xs X) (xa X) own idx y b nl ret (wm y b nl ret) (rmd d') 0 0 np ∧ (Cond.static y).before (xa X) (xs X) = true := by
  refine ⟨⟨rfl, rfl, ?_, ?_, fun w hw a' U hW => word_at hW ((goodM hY) w hw).2 (C.ts w ((goodM hY) w hw).1), List.mem_cons_self, C.ts _ hY.2.1, C.ts _ hY.2.2.1, ⟨hY.2.2.2.1, hY.2.2.2.2.1⟩, ?_, C.ts _ hm⟩, C.ts _ hS⟩
  · have := C.rm.1; show d' + 1 ≤ _; omega
  · have := C.rm.2; have h2 := hY.2.2.2.2.2.2; show 8 + (nl + 11) + 40 * d' ≤ _; omega
  · intro sig h
    have := hY.2.2.2.2.2.1
    rw [h] at this
    exact (Option.some.inj this).symm
theorem a_in {X : KX} {H : Heap} {locs : List Loc} (C : Cx X own cc d) (hD : va_D (xA X) (V X I J Rf)) (hS : va_S (xA X) (xs X).heap H locs) : ∀ q, AA (xad X) H.size q → xA X q := by
  intro q h
  rcases h with ⟨p, hp, rfl⟩ | h
  · exact hD.2 p _ (wsO_get hp)
  · exact C.hA q (Nat.le_trans hS.1 h)
theorem z_vi (C : Cx X own cc d) (K : Kx X) {idx d' nl np ci nn p : Nat} {y : MethodName} {b : ByteArray} {rt : FieldType} {As : List Value} {T : u_T} {N : Nat} (hd : decode cc pc = .ok (.invokevirtual idx, 3)) (hn : pc + 3 = n) (hY : Yk y b nl (some rt) np) (hV : Yv y) (hm : Cond.methodLink own idx y ∈ gW) (hdd : d' < d) (hR : k0 ≤ (xRm X).cells ∧ n0 ≤ (xRm X).slots) (hAs : As.length = np) (hw : ((S.map fun (v : Value) => v.category).sum).ble 8 = true) (hcl : vwCl[ci]? = some (y.cls, T, N)) (hs : sh p = (ci, nn)) (hc : ci < 11) (hp : p < 110)
    (M : Mi d' y (wm y b nl (some rt)) (.ref (xad X p) :: As) (xad X) I J Rf (fun r I' J' R' => Z X k0 n0 (V X I' J' R') n L (.int r :: S))) : Z X k0 n0 (V X I J Rf) pc L (As.reverse ++ .ref (xad X p) :: S) := by
  subst hn
  intro H locs ls hP hD hS hl
  have hA := a_in C hD hS
  refine va_calli (va_runV (As := As) (rest := S) ⟨C.x, C.b, C.ml, C.own, C.ts⟩ (M (xl X) (xD X) (xcy X) H.size) (cwv C hdd hY hV hm) ⟨pk_blind, va_recv K.1 hP hcl (wsO_get hp |>.trans (by rw [cell_obj hs hc])), fun U hU hW => ⟨rfl, by rw [hU], by rw [hU]; exact hP, va_K.moved hW.alike K.1, hD.weaken (fun _ _ _ _ => trivial), NW.warm hW K.2⟩⟩ rfl hAs hl.1 rfl (lv_room (Nat.le_of_ble_eq_true hw)) hd hR) hS (fun q _ h => hA q h) hA (fun r u t H1 locs1 ht hvm hpost hB hz hk hS1 => ?_)
  unfold QB at hB
  rw [ht] at hB
  exact hpost H1 locs1 ls hB (wsO_D hD) hS1 hl
theorem z_vl (C : Cx X own cc d) (K : Kx X) {idx d' nl np ci nn p : Nat} {y : MethodName} {b : ByteArray} {As : List Value} {T : u_T} {N : Nat} (hd : decode cc pc = .ok (.invokevirtual idx, 3)) (hn : pc + 3 = n) (hY : Yk y b nl (some .long) np) (hV : Yv y) (hm : Cond.methodLink own idx y ∈ gW) (hdd : d' < d) (hR : k0 ≤ (xRm X).cells ∧ n0 ≤ (xRm X).slots) (hAs : As.length = np) (hw : ((S.map fun (v : Value) => v.category).sum).ble 8 = true) (hcl : vwCl[ci]? = some (y.cls, T, N)) (hs : sh p = (ci, nn)) (hc : ci < 11) (hp : p < 110)
    (M : Ml d' y (wm y b nl (some .long)) (.ref (xad X p) :: As) (xad X) I J Rf (fun r I' J' R' => Z X k0 n0 (V X I' J' R') n L (.long r :: S))) : Z X k0 n0 (V X I J Rf) pc L (As.reverse ++ .ref (xad X p) :: S) := by
  subst hn
  intro H locs ls hP hD hS hl
  have hA := a_in C hD hS
  refine va_calll (va_runV (As := As) (rest := S) ⟨C.x, C.b, C.ml, C.own, C.ts⟩ (M (xl X) (xD X) (xcy X) H.size) (cwv C hdd hY hV hm) ⟨pk_blind, va_recv K.1 hP hcl (wsO_get hp |>.trans (by rw [cell_obj hs hc])), fun U hU hW => ⟨rfl, by rw [hU], by rw [hU]; exact hP, va_K.moved hW.alike K.1, hD.weaken (fun _ _ _ _ => trivial), NW.warm hW K.2⟩⟩ rfl hAs hl.1 rfl (lv_room (Nat.le_of_ble_eq_true hw)) hd hR) hS (fun q _ h => hA q h) hA (fun r u t H1 locs1 ht hvm hpost hB hz hk hS1 => ?_)
  unfold QB at hB
  rw [ht] at hB
  exact hpost H1 locs1 ls hB (wsO_D hD) hS1 hl
theorem z_vv (C : Cx X own cc d) (K : Kx X) {idx d' nl np ci nn p : Nat} {y : MethodName} {b : ByteArray} {As : List Value} {T : u_T} {N : Nat} (hd : decode cc pc = .ok (.invokevirtual idx, 3)) (hn : pc + 3 = n) (hY : Yk y b nl none np) (hV : Yv y) (hm : Cond.methodLink own idx y ∈ gW) (hdd : d' < d) (hR : k0 ≤ (xRm X).cells ∧ n0 ≤ (xRm X).slots) (hAs : As.length = np) (hw : ((S.map fun (v : Value) => v.category).sum).ble 8 = true) (hcl : vwCl[ci]? = some (y.cls, T, N)) (hs : sh p = (ci, nn)) (hc : ci < 11) (hp : p < 110)
    (M : Mv d' y (wm y b nl none) (.ref (xad X p) :: As) (xad X) I J Rf (fun I' J' R' => Z X k0 n0 (V X I' J' R') n L S)) : Z X k0 n0 (V X I J Rf) pc L (As.reverse ++ .ref (xad X p) :: S) := by
  subst hn
  intro H locs ls hP hD hS hl
  have hA := a_in C hD hS
  refine va_callv (va_runV (As := As) (rest := S) ⟨C.x, C.b, C.ml, C.own, C.ts⟩ (M (xl X) (xD X) (xcy X) H.size) (cwv C hdd hY hV hm) ⟨pk_blind, va_recv K.1 hP hcl (wsO_get hp |>.trans (by rw [cell_obj hs hc])), fun U hU hW => ⟨rfl, by rw [hU], by rw [hU]; exact hP, va_K.moved hW.alike K.1, hD.weaken (fun _ _ _ _ => trivial), NW.warm hW K.2⟩⟩ rfl hAs hl.1 rfl (lv_room (Nat.le_of_ble_eq_true hw)) hd hR) hS (fun q _ h => hA q h) hA (fun u t H1 locs1 ht hvm hpost hB hz hk hS1 => ?_)
  unfold QB at hB
  rw [ht] at hB
  exact hpost H1 locs1 ls hB (wsO_D hD) hS1 hl
theorem z_si (C : Cx X own cc d) (K : Kx X) {idx d' nl np : Nat} {y : MethodName} {b : ByteArray} {rt : FieldType} {As : List Value} (hd : decode cc pc = .ok (.invokestatic idx, 3)) (hn : pc + 3 = n) (hY : Yk y b nl (some rt) np) (hV : Cond.static y ∈ gW) (hm : Cond.methodLink own idx y ∈ gW) (hdd : d' < d) (hR : k0 ≤ (xRm X).cells ∧ n0 ≤ (xRm X).slots) (hAs : As.length = np) (hw : ((S.map fun (v : Value) => v.category).sum).ble 8 = true)
    (M : Mi d' y (wm y b nl (some rt)) As (xad X) I J Rf (fun r I' J' R' => Z X k0 n0 (V X I' J' R') n L (.int r :: S))) : Z X k0 n0 (V X I J Rf) pc L (As.reverse ++ S) := by
  subst hn
  intro H locs ls hP hD hS hl
  have hA := a_in C hD hS
  refine va_calli (va_runS (As := As) (rest := S) ⟨C.x, C.b, C.ml, C.own, C.ts⟩ (M (xl X) (xD X) (xcy X) H.size) (cws C hdd hY hV hm) ⟨pk_blind, fun U hU hW => ⟨rfl, by rw [hU], by rw [hU]; exact hP, va_K.moved hW.alike K.1, hD.weaken (fun _ _ _ _ => trivial), NW.warm hW K.2⟩⟩ rfl hAs hl.1 rfl (lv_room (Nat.le_of_ble_eq_true hw)) hd hR) hS (fun q _ h => hA q h) hA (fun r u t H1 locs1 ht hvm hpost hB hz hk hS1 => ?_)
  unfold QB at hB
  rw [ht] at hB
  exact hpost H1 locs1 ls hB (wsO_D hD) hS1 hl
theorem cwsN {X : KX} {own : String} {cc : ByteArray} {d d' : Nat} (C : Cx X own cc d) (K : Kx X) (hdd : d' < d) {idx : Nat} {y : MethodName} {b : ByteArray} {nl : Nat} {ret : Option FieldType} {np : Nat} (hY : Yk y b nl ret np) (hS : Cond.static y ∈ gW) {host : String} (hm : (own, idx, y, host) ∈ nestM) : va_CN (xRm X) (xs X) (xa X) own idx y host b nl ret (wm y b nl ret) (rmd d') 0 0 np ∧ (Cond.static y).before (xa X) (xs X) = true ∧ True := by
  refine ⟨va_cnB np C.ts (goodM hY) rfl rfl rfl (K.2.2 _ hm) (C.ts _ hY.2.2.1) ⟨hY.2.2.2.1, hY.2.2.2.2.1, hY.2.2.2.2.2.1⟩ ⟨?_, ?_⟩, C.ts _ hS, trivial⟩
  · have := C.rm.1; show d' + 1 ≤ _; omega
  · have := C.rm.2; have h2 := hY.2.2.2.2.2.2; show 8 + (nl + 11) + 40 * d' ≤ _; omega
theorem z_siN (C : Cx X own cc d) (K : Kx X) {idx d' nl np : Nat} {y : MethodName} {b : ByteArray} {rt : FieldType} {As : List Value} (hd : decode cc pc = .ok (.invokestatic idx, 3)) (hn : pc + 3 = n) (hY : Yk y b nl (some rt) np) (hV : Cond.static y ∈ gW) {host : String} (hm : (own, idx, y, host) ∈ nestM) (hdd : d' < d) (hR : k0 ≤ (xRm X).cells ∧ n0 ≤ (xRm X).slots) (hAs : As.length = np) (hw : ((S.map fun (v : Value) => v.category).sum).ble 8 = true)
    (M : Mi d' y (wm y b nl (some rt)) As (xad X) I J Rf (fun r I' J' R' => Z X k0 n0 (V X I' J' R') n L (.int r :: S))) : Z X k0 n0 (V X I J Rf) pc L (As.reverse ++ S) := by
  subst hn
  intro H locs ls hP hD hS hl
  have hA := a_in C hD hS
  refine va_calli (va_runSN (As := As) (rest := S) ⟨C.x, C.b, C.ml, C.own, C.ts⟩ (M (xl X) (xD X) (xcy X) H.size) (cwsN C K hdd hY hV hm) ⟨pk_blind, fun U hU hW => ⟨rfl, by rw [hU], by rw [hU]; exact hP, va_K.moved hW.alike K.1, hD.weaken (fun _ _ _ _ => trivial), NW.warm hW K.2⟩⟩ rfl hAs hl.1 rfl (lv_room (Nat.le_of_ble_eq_true hw)) hd hR) hS (fun q _ h => hA q h) hA (fun r u t H1 locs1 ht hvm hpost hB hz hk hS1 => ?_)
  unfold QB at hB
  rw [ht] at hB
  exact hpost H1 locs1 ls hB (wsO_D hD) hS1 hl
theorem z_sl (C : Cx X own cc d) (K : Kx X) {idx d' nl np : Nat} {y : MethodName} {b : ByteArray} {As : List Value} (hd : decode cc pc = .ok (.invokestatic idx, 3)) (hn : pc + 3 = n) (hY : Yk y b nl (some .long) np) (hV : Cond.static y ∈ gW) (hm : Cond.methodLink own idx y ∈ gW) (hdd : d' < d) (hR : k0 ≤ (xRm X).cells ∧ n0 ≤ (xRm X).slots) (hAs : As.length = np) (hw : ((S.map fun (v : Value) => v.category).sum).ble 8 = true)
    (M : Ml d' y (wm y b nl (some .long)) As (xad X) I J Rf (fun r I' J' R' => Z X k0 n0 (V X I' J' R') n L (.long r :: S))) : Z X k0 n0 (V X I J Rf) pc L (As.reverse ++ S) := by
  subst hn
  intro H locs ls hP hD hS hl
  have hA := a_in C hD hS
  refine va_calll (va_runS (As := As) (rest := S) ⟨C.x, C.b, C.ml, C.own, C.ts⟩ (M (xl X) (xD X) (xcy X) H.size) (cws C hdd hY hV hm) ⟨pk_blind, fun U hU hW => ⟨rfl, by rw [hU], by rw [hU]; exact hP, va_K.moved hW.alike K.1, hD.weaken (fun _ _ _ _ => trivial), NW.warm hW K.2⟩⟩ rfl hAs hl.1 rfl (lv_room (Nat.le_of_ble_eq_true hw)) hd hR) hS (fun q _ h => hA q h) hA (fun r u t H1 locs1 ht hvm hpost hB hz hk hS1 => ?_)
  unfold QB at hB
  rw [ht] at hB
  exact hpost H1 locs1 ls hB (wsO_D hD) hS1 hl
theorem z_sv (C : Cx X own cc d) (K : Kx X) {idx d' nl np : Nat} {y : MethodName} {b : ByteArray} {As : List Value} (hd : decode cc pc = .ok (.invokestatic idx, 3)) (hn : pc + 3 = n) (hY : Yk y b nl none np) (hV : Cond.static y ∈ gW) (hm : Cond.methodLink own idx y ∈ gW) (hdd : d' < d) (hR : k0 ≤ (xRm X).cells ∧ n0 ≤ (xRm X).slots) (hAs : As.length = np) (hw : ((S.map fun (v : Value) => v.category).sum).ble 8 = true)
    (M : Mv d' y (wm y b nl none) As (xad X) I J Rf (fun I' J' R' => Z X k0 n0 (V X I' J' R') n L S)) : Z X k0 n0 (V X I J Rf) pc L (As.reverse ++ S) := by
  subst hn
  intro H locs ls hP hD hS hl
  have hA := a_in C hD hS
  refine va_callv (va_runS (As := As) (rest := S) ⟨C.x, C.b, C.ml, C.own, C.ts⟩ (M (xl X) (xD X) (xcy X) H.size) (cws C hdd hY hV hm) ⟨pk_blind, fun U hU hW => ⟨rfl, by rw [hU], by rw [hU]; exact hP, va_K.moved hW.alike K.1, hD.weaken (fun _ _ _ _ => trivial), NW.warm hW K.2⟩⟩ rfl hAs hl.1 rfl (lv_room (Nat.le_of_ble_eq_true hw)) hd hR) hS (fun q _ h => hA q h) hA (fun u t H1 locs1 ht hvm hpost hB hz hk hS1 => ?_)
  unfold QB at hB
  rw [ht] at hB
  exact hpost H1 locs1 ls hB (wsO_D hD) hS1 hl
theorem z_min (C : Cx X own cc d) {idx : Nat} {x y : Int32} (hd : decode cc pc = .ok (.invokestatic idx, 3)) (hn : pc + 3 = n) (hm : Cond.methodLink own idx Lib.Math.min.name ∈ gW) (hd1 : 0 < d) (hR : k0 ≤ (xRm X).cells ∧ n0 ≤ (xRm X).slots) (hw : ((S.map fun (v : Value) => v.category).sum).ble 8 = true) (kk : Z X k0 n0 (V X I J Rf) n L (.int (if y < x then y else x) :: S)) : Z X k0 n0 (V X I J Rf) pc L (.int y :: .int x :: S) := by
  subst hn
  intro H locs ls hP hD hS hl
  have h1 := C.rm
  have h2 := Nat.le_of_ble_eq_true hw
  exact va_mmin C.x C.b (by rw [C.ml, hl.1]) C.own (C.ts _ hm) (C.ts _ kT_Lib_Math_min) (C.ts _ kN_RJ9) (C.ts _ kC_Lib_Math_min) (by omega) (by omega) hR.1 hR.2 hd (kk H locs ls hP hD hS hl)
theorem z_max (C : Cx X own cc d) {idx : Nat} {x y : Int32} (hd : decode cc pc = .ok (.invokestatic idx, 3)) (hn : pc + 3 = n) (hm : Cond.methodLink own idx Lib.Math.max.name ∈ gW) (hd1 : 0 < d) (hR : k0 ≤ (xRm X).cells ∧ n0 ≤ (xRm X).slots) (hw : ((S.map fun (v : Value) => v.category).sum).ble 8 = true) (kk : Z X k0 n0 (V X I J Rf) n L (.int (if x < y then y else x) :: S)) : Z X k0 n0 (V X I J Rf) pc L (.int y :: .int x :: S) := by
  subst hn
  intro H locs ls hP hD hS hl
  have h1 := C.rm
  have h2 := Nat.le_of_ble_eq_true hw
  exact va_mmax C.x C.b (by rw [C.ml, hl.1]) C.own (C.ts _ hm) (C.ts _ kT_Lib_Math_max) (C.ts _ kN_RJ9) (C.ts _ kC_Lib_Math_max) (by omega) (by omega) hR.1 hR.2 hd (kk H locs ls hP hD hS hl)
end METHODS
theorem hR0 {a b : Nat} : 0 ≤ a ∧ 0 ≤ b := ⟨Nat.zero_le _, Nat.zero_le _⟩
end
