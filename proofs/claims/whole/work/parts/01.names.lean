-- ===== PART A: goes FIRST, ahead of the names: the tables' words, and 'selects' of the private methods out of them =====
/-- a private method of a class that the tables say can be made, by its rows of tables_1 -/
def lw_okq (q : MethodName × Nat) : Prop := (q.1.cls ≠ "java/lang/invoke/MethodHandle" ∧ q.1.cls ≠ "java/lang/invoke/VarHandle") ∧ Cond.instantiable q.1.cls q.2 ∈ tables_1 ∧ Cond.privateMethod q.1 ∈ tables_1 ∧ Cond.instanceMethod q.1 ∈ tables_1
theorem lw_p0 : lw_okq (⟨"WalkingBus$Reader", "take", "(I)Z"⟩, 3) := ⟨⟨by decide +kernel, by decide +kernel⟩, List.mem_of_getElem? (i := 26) (by decide +kernel), List.mem_of_getElem? (i := 374) (by decide +kernel), List.mem_of_getElem? (i := 375) (by decide +kernel)⟩
theorem lw_p1 : lw_okq (⟨"WalkingBus$Reader", "isDigit", "(II)Z"⟩, 3) := ⟨⟨by decide +kernel, by decide +kernel⟩, List.mem_of_getElem? (i := 26) (by decide +kernel), List.mem_of_getElem? (i := 378) (by decide +kernel), List.mem_of_getElem? (i := 379) (by decide +kernel)⟩
theorem lw_p2 : lw_okq (⟨"WalkingBus$Reader", "takeDigit", "()I"⟩, 3) := ⟨⟨by decide +kernel, by decide +kernel⟩, List.mem_of_getElem? (i := 26) (by decide +kernel), List.mem_of_getElem? (i := 383) (by decide +kernel), List.mem_of_getElem? (i := 384) (by decide +kernel)⟩
theorem lw_p3 : lw_okq (⟨"WalkingBus$Reader", "readRoads", "(LWalkingBus$Streets;)I"⟩, 3) := ⟨⟨by decide +kernel, by decide +kernel⟩, List.mem_of_getElem? (i := 26) (by decide +kernel), List.mem_of_getElem? (i := 391) (by decide +kernel), List.mem_of_getElem? (i := 392) (by decide +kernel)⟩
theorem lw_p4 : lw_okq (⟨"WalkingBus$Reader", "readSchool", "(LWalkingBus$Streets;)I"⟩, 3) := ⟨⟨by decide +kernel, by decide +kernel⟩, List.mem_of_getElem? (i := 26) (by decide +kernel), List.mem_of_getElem? (i := 395) (by decide +kernel), List.mem_of_getElem? (i := 396) (by decide +kernel)⟩
theorem lw_p5 : lw_okq (⟨"WalkingBus$Reader", "readRoad", "(LWalkingBus$Streets;)I"⟩, 3) := ⟨⟨by decide +kernel, by decide +kernel⟩, List.mem_of_getElem? (i := 26) (by decide +kernel), List.mem_of_getElem? (i := 399) (by decide +kernel), List.mem_of_getElem? (i := 400) (by decide +kernel)⟩
theorem lw_p6 : lw_okq (⟨"WalkingBus$Reader", "takeNumber", "()I"⟩, 3) := ⟨⟨by decide +kernel, by decide +kernel⟩, List.mem_of_getElem? (i := 26) (by decide +kernel), List.mem_of_getElem? (i := 403) (by decide +kernel), List.mem_of_getElem? (i := 404) (by decide +kernel)⟩
theorem lw_p7 : lw_okq (⟨"WalkingBus", "moveToSpareTown", "()V"⟩, 17) := ⟨⟨by decide +kernel, by decide +kernel⟩, List.mem_of_getElem? (i := 16) (by decide +kernel), List.mem_of_getElem? (i := 411) (by decide +kernel), List.mem_of_getElem? (i := 412) (by decide +kernel)⟩
theorem lw_p8 : lw_okq (⟨"WalkingBus$Streets", "setRoadCosts", "()V"⟩, 10) := ⟨⟨by decide +kernel, by decide +kernel⟩, List.mem_of_getElem? (i := 43) (by decide +kernel), List.mem_of_getElem? (i := 419) (by decide +kernel), List.mem_of_getElem? (i := 420) (by decide +kernel)⟩
theorem lw_p9 : lw_okq (⟨"WalkingBus$Streets", "roadCost", "(I)I"⟩, 10) := ⟨⟨by decide +kernel, by decide +kernel⟩, List.mem_of_getElem? (i := 43) (by decide +kernel), List.mem_of_getElem? (i := 424) (by decide +kernel), List.mem_of_getElem? (i := 425) (by decide +kernel)⟩
theorem lw_p10 : lw_okq (⟨"WalkingBus$Streets", "firstRoadOfWay", "(II)I"⟩, 10) := ⟨⟨by decide +kernel, by decide +kernel⟩, List.mem_of_getElem? (i := 43) (by decide +kernel), List.mem_of_getElem? (i := 433) (by decide +kernel), List.mem_of_getElem? (i := 434) (by decide +kernel)⟩
theorem lw_p11 : lw_okq (⟨"WalkingBus", "isCorner", "(I)Z"⟩, 17) := ⟨⟨by decide +kernel, by decide +kernel⟩, List.mem_of_getElem? (i := 16) (by decide +kernel), List.mem_of_getElem? (i := 453) (by decide +kernel), List.mem_of_getElem? (i := 454) (by decide +kernel)⟩
theorem lw_p12 : lw_okq (⟨"WalkingBus", "isChild", "(I)Z"⟩, 17) := ⟨⟨by decide +kernel, by decide +kernel⟩, List.mem_of_getElem? (i := 16) (by decide +kernel), List.mem_of_getElem? (i := 496) (by decide +kernel), List.mem_of_getElem? (i := 497) (by decide +kernel)⟩
theorem lw_p13 : lw_okq (⟨"WalkingBus", "isSet", "(I)Z"⟩, 17) := ⟨⟨by decide +kernel, by decide +kernel⟩, List.mem_of_getElem? (i := 16) (by decide +kernel), List.mem_of_getElem? (i := 529) (by decide +kernel), List.mem_of_getElem? (i := 530) (by decide +kernel)⟩
theorem lw_p14 : lw_okq (⟨"WalkingBus", "hasWalked", "(IIILWalkingBus$Sheet;II)Z"⟩, 17) := ⟨⟨by decide +kernel, by decide +kernel⟩, List.mem_of_getElem? (i := 16) (by decide +kernel), List.mem_of_getElem? (i := 536) (by decide +kernel), List.mem_of_getElem? (i := 537) (by decide +kernel)⟩
theorem lw_p15 : lw_okq (⟨"WalkingBus$Gates", "isGate", "(I)Z"⟩, 4) := ⟨⟨by decide +kernel, by decide +kernel⟩, List.mem_of_getElem? (i := 104) (by decide +kernel), List.mem_of_getElem? (i := 552) (by decide +kernel), List.mem_of_getElem? (i := 553) (by decide +kernel)⟩
def lw_privs_1 : List (MethodName × Nat) := [(⟨"WalkingBus$Reader", "take", "(I)Z"⟩, 3), (⟨"WalkingBus$Reader", "isDigit", "(II)Z"⟩, 3), (⟨"WalkingBus$Reader", "takeDigit", "()I"⟩, 3), (⟨"WalkingBus$Reader", "readRoads", "(LWalkingBus$Streets;)I"⟩, 3), (⟨"WalkingBus$Reader", "readSchool", "(LWalkingBus$Streets;)I"⟩, 3), (⟨"WalkingBus$Reader", "readRoad", "(LWalkingBus$Streets;)I"⟩, 3), (⟨"WalkingBus$Reader", "takeNumber", "()I"⟩, 3), (⟨"WalkingBus", "moveToSpareTown", "()V"⟩, 17), (⟨"WalkingBus$Streets", "setRoadCosts", "()V"⟩, 10), (⟨"WalkingBus$Streets", "roadCost", "(I)I"⟩, 10), (⟨"WalkingBus$Streets", "firstRoadOfWay", "(II)I"⟩, 10), (⟨"WalkingBus", "isCorner", "(I)Z"⟩, 17), (⟨"WalkingBus", "isChild", "(I)Z"⟩, 17), (⟨"WalkingBus", "isSet", "(I)Z"⟩, 17), (⟨"WalkingBus", "hasWalked", "(IIILWalkingBus$Sheet;II)Z"⟩, 17), (⟨"WalkingBus$Gates", "isGate", "(I)Z"⟩, 4)]
theorem lw_r1 : ∀ q ∈ lw_privs_1, lw_okq q := List.forall_mem_cons.mpr ⟨lw_p0, List.forall_mem_cons.mpr ⟨lw_p1, List.forall_mem_cons.mpr ⟨lw_p2, List.forall_mem_cons.mpr ⟨lw_p3, List.forall_mem_cons.mpr ⟨lw_p4, List.forall_mem_cons.mpr ⟨lw_p5, List.forall_mem_cons.mpr ⟨lw_p6, List.forall_mem_cons.mpr ⟨lw_p7, List.forall_mem_cons.mpr ⟨lw_p8, List.forall_mem_cons.mpr ⟨lw_p9, List.forall_mem_cons.mpr ⟨lw_p10, List.forall_mem_cons.mpr ⟨lw_p11, List.forall_mem_cons.mpr ⟨lw_p12, List.forall_mem_cons.mpr ⟨lw_p13, List.forall_mem_cons.mpr ⟨lw_p14, List.forall_mem_cons.mpr ⟨lw_p15, fun _ h => absurd h List.not_mem_nil⟩⟩⟩⟩⟩⟩⟩⟩⟩⟩⟩⟩⟩⟩⟩⟩
theorem lw_p16 : lw_okq (⟨"WalkingBus$Line", "stop", "(LWalkingBus$Streets;I)I"⟩, 3) := ⟨⟨by decide +kernel, by decide +kernel⟩, List.mem_of_getElem? (i := 98) (by decide +kernel), List.mem_of_getElem? (i := 565) (by decide +kernel), List.mem_of_getElem? (i := 566) (by decide +kernel)⟩
theorem lw_p17 : lw_okq (⟨"WalkingBus$Line", "walkWay", "(LWalkingBus$Streets;III)V"⟩, 3) := ⟨⟨by decide +kernel, by decide +kernel⟩, List.mem_of_getElem? (i := 98) (by decide +kernel), List.mem_of_getElem? (i := 579) (by decide +kernel), List.mem_of_getElem? (i := 580) (by decide +kernel)⟩
theorem lw_p18 : lw_okq (⟨"WalkingBus", "startRefusal", "(IIII)I"⟩, 17) := ⟨⟨by decide +kernel, by decide +kernel⟩, List.mem_of_getElem? (i := 16) (by decide +kernel), List.mem_of_getElem? (i := 622) (by decide +kernel), List.mem_of_getElem? (i := 623) (by decide +kernel)⟩
theorem lw_p19 : lw_okq (⟨"WalkingBus$Gates", "swap", "(II)V"⟩, 4) := ⟨⟨by decide +kernel, by decide +kernel⟩, List.mem_of_getElem? (i := 104) (by decide +kernel), List.mem_of_getElem? (i := 636) (by decide +kernel), List.mem_of_getElem? (i := 637) (by decide +kernel)⟩
theorem lw_p20 : lw_okq (⟨"WalkingBus$Line", "latestStart", "(LWalkingBus$Streets;IIII)I"⟩, 3) := ⟨⟨by decide +kernel, by decide +kernel⟩, List.mem_of_getElem? (i := 98) (by decide +kernel), List.mem_of_getElem? (i := 645) (by decide +kernel), List.mem_of_getElem? (i := 646) (by decide +kernel)⟩
theorem lw_p21 : lw_okq (⟨"WalkingBus$Line", "keepOrder", "()V"⟩, 3) := ⟨⟨by decide +kernel, by decide +kernel⟩, List.mem_of_getElem? (i := 98) (by decide +kernel), List.mem_of_getElem? (i := 652) (by decide +kernel), List.mem_of_getElem? (i := 653) (by decide +kernel)⟩
theorem lw_p22 : lw_okq (⟨"WalkingBus", "grownFor", "(I)I"⟩, 17) := ⟨⟨by decide +kernel, by decide +kernel⟩, List.mem_of_getElem? (i := 16) (by decide +kernel), List.mem_of_getElem? (i := 668) (by decide +kernel), List.mem_of_getElem? (i := 669) (by decide +kernel)⟩
theorem lw_p23 : lw_okq (⟨"WalkingBus", "findSplit", "(IIII)Z"⟩, 17) := ⟨⟨by decide +kernel, by decide +kernel⟩, List.mem_of_getElem? (i := 16) (by decide +kernel), List.mem_of_getElem? (i := 682) (by decide +kernel), List.mem_of_getElem? (i := 683) (by decide +kernel)⟩
theorem lw_p24 : lw_okq (⟨"WalkingBus", "isRopeFor", "(II)Z"⟩, 17) := ⟨⟨by decide +kernel, by decide +kernel⟩, List.mem_of_getElem? (i := 16) (by decide +kernel), List.mem_of_getElem? (i := 690) (by decide +kernel), List.mem_of_getElem? (i := 691) (by decide +kernel)⟩
theorem lw_p25 : lw_okq (⟨"WalkingBus$Rope", "take", "(I)V"⟩, 11) := ⟨⟨by decide +kernel, by decide +kernel⟩, List.mem_of_getElem? (i := 163) (by decide +kernel), List.mem_of_getElem? (i := 703) (by decide +kernel), List.mem_of_getElem? (i := 704) (by decide +kernel)⟩
theorem lw_p26 : lw_okq (⟨"WalkingBus$Rope", "hope", "(II)I"⟩, 11) := ⟨⟨by decide +kernel, by decide +kernel⟩, List.mem_of_getElem? (i := 163) (by decide +kernel), List.mem_of_getElem? (i := 707) (by decide +kernel), List.mem_of_getElem? (i := 708) (by decide +kernel)⟩
theorem lw_p27 : lw_okq (⟨"WalkingBus$Rope", "bitAt", "(I)I"⟩, 11) := ⟨⟨by decide +kernel, by decide +kernel⟩, List.mem_of_getElem? (i := 163) (by decide +kernel), List.mem_of_getElem? (i := 714) (by decide +kernel), List.mem_of_getElem? (i := 715) (by decide +kernel)⟩
theorem lw_p28 : lw_okq (⟨"WalkingBus$Rope", "mayCome", "(II)I"⟩, 11) := ⟨⟨by decide +kernel, by decide +kernel⟩, List.mem_of_getElem? (i := 163) (by decide +kernel), List.mem_of_getElem? (i := 718) (by decide +kernel), List.mem_of_getElem? (i := 719) (by decide +kernel)⟩
theorem lw_p29 : lw_okq (⟨"WalkingBus$Rope", "quarrelsAt", "(I)I"⟩, 11) := ⟨⟨by decide +kernel, by decide +kernel⟩, List.mem_of_getElem? (i := 163) (by decide +kernel), List.mem_of_getElem? (i := 722) (by decide +kernel), List.mem_of_getElem? (i := 723) (by decide +kernel)⟩
theorem lw_p30 : lw_okq (⟨"WalkingBus$Week", "isEnough", "([II)Z"⟩, 6) := ⟨⟨by decide +kernel, by decide +kernel⟩, List.mem_of_getElem? (i := 207) (by decide +kernel), List.mem_of_getElem? (i := 764) (by decide +kernel), List.mem_of_getElem? (i := 765) (by decide +kernel)⟩
theorem lw_p31 : lw_okq (⟨"WalkingBus$Week", "mayHelp", "(II)Z"⟩, 6) := ⟨⟨by decide +kernel, by decide +kernel⟩, List.mem_of_getElem? (i := 207) (by decide +kernel), List.mem_of_getElem? (i := 772) (by decide +kernel), List.mem_of_getElem? (i := 773) (by decide +kernel)⟩
def lw_privs_2 : List (MethodName × Nat) := [(⟨"WalkingBus$Line", "stop", "(LWalkingBus$Streets;I)I"⟩, 3), (⟨"WalkingBus$Line", "walkWay", "(LWalkingBus$Streets;III)V"⟩, 3), (⟨"WalkingBus", "startRefusal", "(IIII)I"⟩, 17), (⟨"WalkingBus$Gates", "swap", "(II)V"⟩, 4), (⟨"WalkingBus$Line", "latestStart", "(LWalkingBus$Streets;IIII)I"⟩, 3), (⟨"WalkingBus$Line", "keepOrder", "()V"⟩, 3), (⟨"WalkingBus", "grownFor", "(I)I"⟩, 17), (⟨"WalkingBus", "findSplit", "(IIII)Z"⟩, 17), (⟨"WalkingBus", "isRopeFor", "(II)Z"⟩, 17), (⟨"WalkingBus$Rope", "take", "(I)V"⟩, 11), (⟨"WalkingBus$Rope", "hope", "(II)I"⟩, 11), (⟨"WalkingBus$Rope", "bitAt", "(I)I"⟩, 11), (⟨"WalkingBus$Rope", "mayCome", "(II)I"⟩, 11), (⟨"WalkingBus$Rope", "quarrelsAt", "(I)I"⟩, 11), (⟨"WalkingBus$Week", "isEnough", "([II)Z"⟩, 6), (⟨"WalkingBus$Week", "mayHelp", "(II)Z"⟩, 6)]
theorem lw_r2 : ∀ q ∈ lw_privs_2, lw_okq q := List.forall_mem_cons.mpr ⟨lw_p16, List.forall_mem_cons.mpr ⟨lw_p17, List.forall_mem_cons.mpr ⟨lw_p18, List.forall_mem_cons.mpr ⟨lw_p19, List.forall_mem_cons.mpr ⟨lw_p20, List.forall_mem_cons.mpr ⟨lw_p21, List.forall_mem_cons.mpr ⟨lw_p22, List.forall_mem_cons.mpr ⟨lw_p23, List.forall_mem_cons.mpr ⟨lw_p24, List.forall_mem_cons.mpr ⟨lw_p25, List.forall_mem_cons.mpr ⟨lw_p26, List.forall_mem_cons.mpr ⟨lw_p27, List.forall_mem_cons.mpr ⟨lw_p28, List.forall_mem_cons.mpr ⟨lw_p29, List.forall_mem_cons.mpr ⟨lw_p30, List.forall_mem_cons.mpr ⟨lw_p31, fun _ h => absurd h List.not_mem_nil⟩⟩⟩⟩⟩⟩⟩⟩⟩⟩⟩⟩⟩⟩⟩⟩
theorem lw_p32 : lw_okq (⟨"WalkingBus$Week", "addDays", "(II)V"⟩, 6) := ⟨⟨by decide +kernel, by decide +kernel⟩, List.mem_of_getElem? (i := 207) (by decide +kernel), List.mem_of_getElem? (i := 776) (by decide +kernel), List.mem_of_getElem? (i := 777) (by decide +kernel)⟩
theorem lw_p33 : lw_okq (⟨"WalkingBus", "fail", "(I)I"⟩, 17) := ⟨⟨by decide +kernel, by decide +kernel⟩, List.mem_of_getElem? (i := 16) (by decide +kernel), List.mem_of_getElem? (i := 784) (by decide +kernel), List.mem_of_getElem? (i := 785) (by decide +kernel)⟩
theorem lw_p34 : lw_okq (⟨"WalkingBus", "tellHeld", "(LWalkingBus$Child;)I"⟩, 17) := ⟨⟨by decide +kernel, by decide +kernel⟩, List.mem_of_getElem? (i := 16) (by decide +kernel), List.mem_of_getElem? (i := 823) (by decide +kernel), List.mem_of_getElem? (i := 824) (by decide +kernel)⟩
theorem lw_p35 : lw_okq (⟨"WalkingBus", "leaveTrace", "(I)V"⟩, 17) := ⟨⟨by decide +kernel, by decide +kernel⟩, List.mem_of_getElem? (i := 16) (by decide +kernel), List.mem_of_getElem? (i := 827) (by decide +kernel), List.mem_of_getElem? (i := 828) (by decide +kernel)⟩
theorem lw_p36 : lw_okq (⟨"WalkingBus", "tellSlow", "(LWalkingBus$Child;)I"⟩, 17) := ⟨⟨by decide +kernel, by decide +kernel⟩, List.mem_of_getElem? (i := 16) (by decide +kernel), List.mem_of_getElem? (i := 831) (by decide +kernel), List.mem_of_getElem? (i := 832) (by decide +kernel)⟩
theorem lw_p37 : lw_okq (⟨"WalkingBus", "tellChild", "(LWalkingBus$Child;)I"⟩, 17) := ⟨⟨by decide +kernel, by decide +kernel⟩, List.mem_of_getElem? (i := 16) (by decide +kernel), List.mem_of_getElem? (i := 835) (by decide +kernel), List.mem_of_getElem? (i := 836) (by decide +kernel)⟩
theorem lw_p38 : lw_okq (⟨"WalkingBus", "pairs", "(I)I"⟩, 17) := ⟨⟨by decide +kernel, by decide +kernel⟩, List.mem_of_getElem? (i := 16) (by decide +kernel), List.mem_of_getElem? (i := 863) (by decide +kernel), List.mem_of_getElem? (i := 864) (by decide +kernel)⟩
theorem lw_p39 : lw_okq (⟨"WalkingBusModel", "against", "(IIII)I"⟩, 42) := ⟨⟨by decide +kernel, by decide +kernel⟩, List.mem_of_getElem? (i := 867) (by decide +kernel), List.mem_of_getElem? (i := 1013) (by decide +kernel), List.mem_of_getElem? (i := 1014) (by decide +kernel)⟩
theorem lw_p40 : lw_okq (⟨"WalkingBusModel", "fails", "(I)I"⟩, 42) := ⟨⟨by decide +kernel, by decide +kernel⟩, List.mem_of_getElem? (i := 867) (by decide +kernel), List.mem_of_getElem? (i := 1017) (by decide +kernel), List.mem_of_getElem? (i := 1018) (by decide +kernel)⟩
theorem lw_p41 : lw_okq (⟨"WalkingBusModel", "readStreets", "(II)I"⟩, 42) := ⟨⟨by decide +kernel, by decide +kernel⟩, List.mem_of_getElem? (i := 867) (by decide +kernel), List.mem_of_getElem? (i := 1021) (by decide +kernel), List.mem_of_getElem? (i := 1022) (by decide +kernel)⟩
theorem lw_p42 : lw_okq (⟨"WalkingBusModel", "digitAt", "(II)I"⟩, 42) := ⟨⟨by decide +kernel, by decide +kernel⟩, List.mem_of_getElem? (i := 867) (by decide +kernel), List.mem_of_getElem? (i := 1025) (by decide +kernel), List.mem_of_getElem? (i := 1026) (by decide +kernel)⟩
theorem lw_p43 : lw_okq (⟨"WalkingBusModel", "readRoad", "(I)Z"⟩, 42) := ⟨⟨by decide +kernel, by decide +kernel⟩, List.mem_of_getElem? (i := 867) (by decide +kernel), List.mem_of_getElem? (i := 1029) (by decide +kernel), List.mem_of_getElem? (i := 1030) (by decide +kernel)⟩
theorem lw_p44 : lw_okq (⟨"WalkingBusModel", "takes", "(IIII)Z"⟩, 42) := ⟨⟨by decide +kernel, by decide +kernel⟩, List.mem_of_getElem? (i := 867) (by decide +kernel), List.mem_of_getElem? (i := 1033) (by decide +kernel), List.mem_of_getElem? (i := 1034) (by decide +kernel)⟩
theorem lw_p45 : lw_okq (⟨"WalkingBusModel", "layFar", "()V"⟩, 42) := ⟨⟨by decide +kernel, by decide +kernel⟩, List.mem_of_getElem? (i := 867) (by decide +kernel), List.mem_of_getElem? (i := 1037) (by decide +kernel), List.mem_of_getElem? (i := 1038) (by decide +kernel)⟩
theorem lw_p46 : lw_okq (⟨"WalkingBusModel", "costOf", "(I)I"⟩, 42) := ⟨⟨by decide +kernel, by decide +kernel⟩, List.mem_of_getElem? (i := 867) (by decide +kernel), List.mem_of_getElem? (i := 1042) (by decide +kernel), List.mem_of_getElem? (i := 1043) (by decide +kernel)⟩
theorem lw_p47 : lw_okq (⟨"WalkingBusModel", "isCorner", "(I)Z"⟩, 42) := ⟨⟨by decide +kernel, by decide +kernel⟩, List.mem_of_getElem? (i := 867) (by decide +kernel), List.mem_of_getElem? (i := 1054) (by decide +kernel), List.mem_of_getElem? (i := 1055) (by decide +kernel)⟩
def lw_privs_3 : List (MethodName × Nat) := [(⟨"WalkingBus$Week", "addDays", "(II)V"⟩, 6), (⟨"WalkingBus", "fail", "(I)I"⟩, 17), (⟨"WalkingBus", "tellHeld", "(LWalkingBus$Child;)I"⟩, 17), (⟨"WalkingBus", "leaveTrace", "(I)V"⟩, 17), (⟨"WalkingBus", "tellSlow", "(LWalkingBus$Child;)I"⟩, 17), (⟨"WalkingBus", "tellChild", "(LWalkingBus$Child;)I"⟩, 17), (⟨"WalkingBus", "pairs", "(I)I"⟩, 17), (⟨"WalkingBusModel", "against", "(IIII)I"⟩, 42), (⟨"WalkingBusModel", "fails", "(I)I"⟩, 42), (⟨"WalkingBusModel", "readStreets", "(II)I"⟩, 42), (⟨"WalkingBusModel", "digitAt", "(II)I"⟩, 42), (⟨"WalkingBusModel", "readRoad", "(I)Z"⟩, 42), (⟨"WalkingBusModel", "takes", "(IIII)Z"⟩, 42), (⟨"WalkingBusModel", "layFar", "()V"⟩, 42), (⟨"WalkingBusModel", "costOf", "(I)I"⟩, 42), (⟨"WalkingBusModel", "isCorner", "(I)Z"⟩, 42)]
theorem lw_r3 : ∀ q ∈ lw_privs_3, lw_okq q := List.forall_mem_cons.mpr ⟨lw_p32, List.forall_mem_cons.mpr ⟨lw_p33, List.forall_mem_cons.mpr ⟨lw_p34, List.forall_mem_cons.mpr ⟨lw_p35, List.forall_mem_cons.mpr ⟨lw_p36, List.forall_mem_cons.mpr ⟨lw_p37, List.forall_mem_cons.mpr ⟨lw_p38, List.forall_mem_cons.mpr ⟨lw_p39, List.forall_mem_cons.mpr ⟨lw_p40, List.forall_mem_cons.mpr ⟨lw_p41, List.forall_mem_cons.mpr ⟨lw_p42, List.forall_mem_cons.mpr ⟨lw_p43, List.forall_mem_cons.mpr ⟨lw_p44, List.forall_mem_cons.mpr ⟨lw_p45, List.forall_mem_cons.mpr ⟨lw_p46, List.forall_mem_cons.mpr ⟨lw_p47, fun _ h => absurd h List.not_mem_nil⟩⟩⟩⟩⟩⟩⟩⟩⟩⟩⟩⟩⟩⟩⟩⟩
theorem lw_p48 : lw_okq (⟨"WalkingBusModel", "isWay", "(II)Z"⟩, 42) := ⟨⟨by decide +kernel, by decide +kernel⟩, List.mem_of_getElem? (i := 867) (by decide +kernel), List.mem_of_getElem? (i := 1058) (by decide +kernel), List.mem_of_getElem? (i := 1059) (by decide +kernel)⟩
theorem lw_p49 : lw_okq (⟨"WalkingBusModel", "roadsOf", "(II)I"⟩, 42) := ⟨⟨by decide +kernel, by decide +kernel⟩, List.mem_of_getElem? (i := 867) (by decide +kernel), List.mem_of_getElem? (i := 1062) (by decide +kernel), List.mem_of_getElem? (i := 1063) (by decide +kernel)⟩
theorem lw_p50 : lw_okq (⟨"WalkingBusModel", "nextRoad", "(II)I"⟩, 42) := ⟨⟨by decide +kernel, by decide +kernel⟩, List.mem_of_getElem? (i := 867) (by decide +kernel), List.mem_of_getElem? (i := 1066) (by decide +kernel), List.mem_of_getElem? (i := 1067) (by decide +kernel)⟩
theorem lw_p51 : lw_okq (⟨"WalkingBusModel", "isChild", "(I)Z"⟩, 42) := ⟨⟨by decide +kernel, by decide +kernel⟩, List.mem_of_getElem? (i := 867) (by decide +kernel), List.mem_of_getElem? (i := 1082) (by decide +kernel), List.mem_of_getElem? (i := 1083) (by decide +kernel)⟩
theorem lw_p52 : lw_okq (⟨"WalkingBusModel", "paceOf", "(I)I"⟩, 42) := ⟨⟨by decide +kernel, by decide +kernel⟩, List.mem_of_getElem? (i := 867) (by decide +kernel), List.mem_of_getElem? (i := 1086) (by decide +kernel), List.mem_of_getElem? (i := 1087) (by decide +kernel)⟩
theorem lw_p53 : lw_okq (⟨"WalkingBusModel", "tiedTo", "(II)I"⟩, 42) := ⟨⟨by decide +kernel, by decide +kernel⟩, List.mem_of_getElem? (i := 867) (by decide +kernel), List.mem_of_getElem? (i := 1090) (by decide +kernel), List.mem_of_getElem? (i := 1091) (by decide +kernel)⟩
theorem lw_p54 : lw_okq (⟨"WalkingBusModel", "isSet", "(I)Z"⟩, 42) := ⟨⟨by decide +kernel, by decide +kernel⟩, List.mem_of_getElem? (i := 867) (by decide +kernel), List.mem_of_getElem? (i := 1107) (by decide +kernel), List.mem_of_getElem? (i := 1108) (by decide +kernel)⟩
theorem lw_p55 : lw_okq (⟨"WalkingBusModel", "whyNotLine", "(IIIIII)I"⟩, 42) := ⟨⟨by decide +kernel, by decide +kernel⟩, List.mem_of_getElem? (i := 867) (by decide +kernel), List.mem_of_getElem? (i := 1111) (by decide +kernel), List.mem_of_getElem? (i := 1112) (by decide +kernel)⟩
theorem lw_p56 : lw_okq (⟨"WalkingBusModel", "cornersOf", "(I)I"⟩, 42) := ⟨⟨by decide +kernel, by decide +kernel⟩, List.mem_of_getElem? (i := 867) (by decide +kernel), List.mem_of_getElem? (i := 1115) (by decide +kernel), List.mem_of_getElem? (i := 1116) (by decide +kernel)⟩
theorem lw_p57 : lw_okq (⟨"WalkingBusModel", "crossingsOf", "(I)I"⟩, 42) := ⟨⟨by decide +kernel, by decide +kernel⟩, List.mem_of_getElem? (i := 867) (by decide +kernel), List.mem_of_getElem? (i := 1125) (by decide +kernel), List.mem_of_getElem? (i := 1126) (by decide +kernel)⟩
theorem lw_p58 : lw_okq (⟨"WalkingBusModel", "lost", "(I)J"⟩, 42) := ⟨⟨by decide +kernel, by decide +kernel⟩, List.mem_of_getElem? (i := 867) (by decide +kernel), List.mem_of_getElem? (i := 1129) (by decide +kernel), List.mem_of_getElem? (i := 1130) (by decide +kernel)⟩
theorem lw_p59 : lw_okq (⟨"WalkingBusModel", "goLine", "(IIII)V"⟩, 42) := ⟨⟨by decide +kernel, by decide +kernel⟩, List.mem_of_getElem? (i := 867) (by decide +kernel), List.mem_of_getElem? (i := 1133) (by decide +kernel), List.mem_of_getElem? (i := 1134) (by decide +kernel)⟩
theorem lw_p60 : lw_okq (⟨"WalkingBusModel", "goWay", "(III)V"⟩, 42) := ⟨⟨by decide +kernel, by decide +kernel⟩, List.mem_of_getElem? (i := 867) (by decide +kernel), List.mem_of_getElem? (i := 1137) (by decide +kernel), List.mem_of_getElem? (i := 1138) (by decide +kernel)⟩
theorem lw_p61 : lw_okq (⟨"WalkingBusModel", "moveOn", "(I)V"⟩, 42) := ⟨⟨by decide +kernel, by decide +kernel⟩, List.mem_of_getElem? (i := 867) (by decide +kernel), List.mem_of_getElem? (i := 1141) (by decide +kernel), List.mem_of_getElem? (i := 1142) (by decide +kernel)⟩
theorem lw_p62 : lw_okq (⟨"WalkingBusModel", "cross", "(II)V"⟩, 42) := ⟨⟨by decide +kernel, by decide +kernel⟩, List.mem_of_getElem? (i := 867) (by decide +kernel), List.mem_of_getElem? (i := 1145) (by decide +kernel), List.mem_of_getElem? (i := 1146) (by decide +kernel)⟩
theorem lw_p63 : lw_okq (⟨"WalkingBusModel", "waitTill", "(I)V"⟩, 42) := ⟨⟨by decide +kernel, by decide +kernel⟩, List.mem_of_getElem? (i := 867) (by decide +kernel), List.mem_of_getElem? (i := 1150) (by decide +kernel), List.mem_of_getElem? (i := 1151) (by decide +kernel)⟩
def lw_privs_4 : List (MethodName × Nat) := [(⟨"WalkingBusModel", "isWay", "(II)Z"⟩, 42), (⟨"WalkingBusModel", "roadsOf", "(II)I"⟩, 42), (⟨"WalkingBusModel", "nextRoad", "(II)I"⟩, 42), (⟨"WalkingBusModel", "isChild", "(I)Z"⟩, 42), (⟨"WalkingBusModel", "paceOf", "(I)I"⟩, 42), (⟨"WalkingBusModel", "tiedTo", "(II)I"⟩, 42), (⟨"WalkingBusModel", "isSet", "(I)Z"⟩, 42), (⟨"WalkingBusModel", "whyNotLine", "(IIIIII)I"⟩, 42), (⟨"WalkingBusModel", "cornersOf", "(I)I"⟩, 42), (⟨"WalkingBusModel", "crossingsOf", "(I)I"⟩, 42), (⟨"WalkingBusModel", "lost", "(I)J"⟩, 42), (⟨"WalkingBusModel", "goLine", "(IIII)V"⟩, 42), (⟨"WalkingBusModel", "goWay", "(III)V"⟩, 42), (⟨"WalkingBusModel", "moveOn", "(I)V"⟩, 42), (⟨"WalkingBusModel", "cross", "(II)V"⟩, 42), (⟨"WalkingBusModel", "waitTill", "(I)V"⟩, 42)]
theorem lw_r4 : ∀ q ∈ lw_privs_4, lw_okq q := List.forall_mem_cons.mpr ⟨lw_p48, List.forall_mem_cons.mpr ⟨lw_p49, List.forall_mem_cons.mpr ⟨lw_p50, List.forall_mem_cons.mpr ⟨lw_p51, List.forall_mem_cons.mpr ⟨lw_p52, List.forall_mem_cons.mpr ⟨lw_p53, List.forall_mem_cons.mpr ⟨lw_p54, List.forall_mem_cons.mpr ⟨lw_p55, List.forall_mem_cons.mpr ⟨lw_p56, List.forall_mem_cons.mpr ⟨lw_p57, List.forall_mem_cons.mpr ⟨lw_p58, List.forall_mem_cons.mpr ⟨lw_p59, List.forall_mem_cons.mpr ⟨lw_p60, List.forall_mem_cons.mpr ⟨lw_p61, List.forall_mem_cons.mpr ⟨lw_p62, List.forall_mem_cons.mpr ⟨lw_p63, fun _ h => absurd h List.not_mem_nil⟩⟩⟩⟩⟩⟩⟩⟩⟩⟩⟩⟩⟩⟩⟩⟩
theorem lw_p64 : lw_okq (⟨"WalkingBusModel", "isAsked", "(III)Z"⟩, 42) := ⟨⟨by decide +kernel, by decide +kernel⟩, List.mem_of_getElem? (i := 867) (by decide +kernel), List.mem_of_getElem? (i := 1171) (by decide +kernel), List.mem_of_getElem? (i := 1172) (by decide +kernel)⟩
theorem lw_p65 : lw_okq (⟨"WalkingBusModel", "mayStart", "(II)Z"⟩, 42) := ⟨⟨by decide +kernel, by decide +kernel⟩, List.mem_of_getElem? (i := 867) (by decide +kernel), List.mem_of_getElem? (i := 1175) (by decide +kernel), List.mem_of_getElem? (i := 1176) (by decide +kernel)⟩
theorem lw_p66 : lw_okq (⟨"WalkingBusModel", "laySetGates", "(I)I"⟩, 42) := ⟨⟨by decide +kernel, by decide +kernel⟩, List.mem_of_getElem? (i := 867) (by decide +kernel), List.mem_of_getElem? (i := 1179) (by decide +kernel), List.mem_of_getElem? (i := 1180) (by decide +kernel)⟩
theorem lw_p67 : lw_okq (⟨"WalkingBusModel", "layOrder", "(I)Z"⟩, 42) := ⟨⟨by decide +kernel, by decide +kernel⟩, List.mem_of_getElem? (i := 867) (by decide +kernel), List.mem_of_getElem? (i := 1183) (by decide +kernel), List.mem_of_getElem? (i := 1184) (by decide +kernel)⟩
theorem lw_p68 : lw_okq (⟨"WalkingBusModel", "findStart", "(IIII)V"⟩, 42) := ⟨⟨by decide +kernel, by decide +kernel⟩, List.mem_of_getElem? (i := 867) (by decide +kernel), List.mem_of_getElem? (i := 1187) (by decide +kernel), List.mem_of_getElem? (i := 1188) (by decide +kernel)⟩
theorem lw_p69 : lw_okq (⟨"WalkingBusModel", "startBy", "(IIII)I"⟩, 42) := ⟨⟨by decide +kernel, by decide +kernel⟩, List.mem_of_getElem? (i := 867) (by decide +kernel), List.mem_of_getElem? (i := 1191) (by decide +kernel), List.mem_of_getElem? (i := 1192) (by decide +kernel)⟩
theorem lw_p70 : lw_okq (⟨"WalkingBusModel", "grownOf", "(I)I"⟩, 42) := ⟨⟨by decide +kernel, by decide +kernel⟩, List.mem_of_getElem? (i := 867) (by decide +kernel), List.mem_of_getElem? (i := 1208) (by decide +kernel), List.mem_of_getElem? (i := 1209) (by decide +kernel)⟩
theorem lw_p71 : lw_okq (⟨"WalkingBusModel", "startOf", "(IIII)I"⟩, 42) := ⟨⟨by decide +kernel, by decide +kernel⟩, List.mem_of_getElem? (i := 867) (by decide +kernel), List.mem_of_getElem? (i := 1216) (by decide +kernel), List.mem_of_getElem? (i := 1217) (by decide +kernel)⟩
theorem lw_p72 : lw_okq (⟨"WalkingBusModel", "isRope", "(II)Z"⟩, 42) := ⟨⟨by decide +kernel, by decide +kernel⟩, List.mem_of_getElem? (i := 867) (by decide +kernel), List.mem_of_getElem? (i := 1224) (by decide +kernel), List.mem_of_getElem? (i := 1225) (by decide +kernel)⟩
theorem lw_p73 : lw_okq (⟨"WalkingBusModel", "layRopes", "(II)V"⟩, 42) := ⟨⟨by decide +kernel, by decide +kernel⟩, List.mem_of_getElem? (i := 867) (by decide +kernel), List.mem_of_getElem? (i := 1228) (by decide +kernel), List.mem_of_getElem? (i := 1229) (by decide +kernel)⟩
theorem lw_p74 : lw_okq (⟨"WalkingBusModel", "mayBe", "(IIIZ)Z"⟩, 42) := ⟨⟨by decide +kernel, by decide +kernel⟩, List.mem_of_getElem? (i := 867) (by decide +kernel), List.mem_of_getElem? (i := 1232) (by decide +kernel), List.mem_of_getElem? (i := 1233) (by decide +kernel)⟩
theorem lw_p75 : lw_okq (⟨"WalkingBusModel", "friendRows", "(I)I"⟩, 42) := ⟨⟨by decide +kernel, by decide +kernel⟩, List.mem_of_getElem? (i := 867) (by decide +kernel), List.mem_of_getElem? (i := 1236) (by decide +kernel), List.mem_of_getElem? (i := 1237) (by decide +kernel)⟩
theorem lw_p76 : lw_okq (⟨"WalkingBusModel", "layWeek", "(I)V"⟩, 42) := ⟨⟨by decide +kernel, by decide +kernel⟩, List.mem_of_getElem? (i := 867) (by decide +kernel), List.mem_of_getElem? (i := 1271) (by decide +kernel), List.mem_of_getElem? (i := 1272) (by decide +kernel)⟩
theorem lw_p77 : lw_okq (⟨"WalkingBusModel", "mayHelp", "(III)Z"⟩, 42) := ⟨⟨by decide +kernel, by decide +kernel⟩, List.mem_of_getElem? (i := 867) (by decide +kernel), List.mem_of_getElem? (i := 1275) (by decide +kernel), List.mem_of_getElem? (i := 1276) (by decide +kernel)⟩
theorem lw_p78 : lw_okq (⟨"WalkingBusModel", "mostDays", "(I)I"⟩, 42) := ⟨⟨by decide +kernel, by decide +kernel⟩, List.mem_of_getElem? (i := 867) (by decide +kernel), List.mem_of_getElem? (i := 1279) (by decide +kernel), List.mem_of_getElem? (i := 1280) (by decide +kernel)⟩
theorem lw_p79 : lw_okq (⟨"WalkingBusModel", "begins", "(I)V"⟩, 42) := ⟨⟨by decide +kernel, by decide +kernel⟩, List.mem_of_getElem? (i := 867) (by decide +kernel), List.mem_of_getElem? (i := 1307) (by decide +kernel), List.mem_of_getElem? (i := 1308) (by decide +kernel)⟩
def lw_privs_5 : List (MethodName × Nat) := [(⟨"WalkingBusModel", "isAsked", "(III)Z"⟩, 42), (⟨"WalkingBusModel", "mayStart", "(II)Z"⟩, 42), (⟨"WalkingBusModel", "laySetGates", "(I)I"⟩, 42), (⟨"WalkingBusModel", "layOrder", "(I)Z"⟩, 42), (⟨"WalkingBusModel", "findStart", "(IIII)V"⟩, 42), (⟨"WalkingBusModel", "startBy", "(IIII)I"⟩, 42), (⟨"WalkingBusModel", "grownOf", "(I)I"⟩, 42), (⟨"WalkingBusModel", "startOf", "(IIII)I"⟩, 42), (⟨"WalkingBusModel", "isRope", "(II)Z"⟩, 42), (⟨"WalkingBusModel", "layRopes", "(II)V"⟩, 42), (⟨"WalkingBusModel", "mayBe", "(IIIZ)Z"⟩, 42), (⟨"WalkingBusModel", "friendRows", "(I)I"⟩, 42), (⟨"WalkingBusModel", "layWeek", "(I)V"⟩, 42), (⟨"WalkingBusModel", "mayHelp", "(III)Z"⟩, 42), (⟨"WalkingBusModel", "mostDays", "(I)I"⟩, 42), (⟨"WalkingBusModel", "begins", "(I)V"⟩, 42)]
theorem lw_r5 : ∀ q ∈ lw_privs_5, lw_okq q := List.forall_mem_cons.mpr ⟨lw_p64, List.forall_mem_cons.mpr ⟨lw_p65, List.forall_mem_cons.mpr ⟨lw_p66, List.forall_mem_cons.mpr ⟨lw_p67, List.forall_mem_cons.mpr ⟨lw_p68, List.forall_mem_cons.mpr ⟨lw_p69, List.forall_mem_cons.mpr ⟨lw_p70, List.forall_mem_cons.mpr ⟨lw_p71, List.forall_mem_cons.mpr ⟨lw_p72, List.forall_mem_cons.mpr ⟨lw_p73, List.forall_mem_cons.mpr ⟨lw_p74, List.forall_mem_cons.mpr ⟨lw_p75, List.forall_mem_cons.mpr ⟨lw_p76, List.forall_mem_cons.mpr ⟨lw_p77, List.forall_mem_cons.mpr ⟨lw_p78, List.forall_mem_cons.mpr ⟨lw_p79, fun _ h => absurd h List.not_mem_nil⟩⟩⟩⟩⟩⟩⟩⟩⟩⟩⟩⟩⟩⟩⟩⟩
theorem lw_p80 : lw_okq (⟨"WalkingBusModel", "crossingRoads", "()I"⟩, 42) := ⟨⟨by decide +kernel, by decide +kernel⟩, List.mem_of_getElem? (i := 867) (by decide +kernel), List.mem_of_getElem? (i := 1331) (by decide +kernel), List.mem_of_getElem? (i := 1332) (by decide +kernel)⟩
theorem lw_p81 : lw_okq (⟨"WalkingBusModel", "pairsOf", "(I)I"⟩, 42) := ⟨⟨by decide +kernel, by decide +kernel⟩, List.mem_of_getElem? (i := 867) (by decide +kernel), List.mem_of_getElem? (i := 1335) (by decide +kernel), List.mem_of_getElem? (i := 1336) (by decide +kernel)⟩
def lw_privs_6 : List (MethodName × Nat) := [(⟨"WalkingBusModel", "crossingRoads", "()I"⟩, 42), (⟨"WalkingBusModel", "pairsOf", "(I)I"⟩, 42)]
theorem lw_r6 : ∀ q ∈ lw_privs_6, lw_okq q := List.forall_mem_cons.mpr ⟨lw_p80, List.forall_mem_cons.mpr ⟨lw_p81, fun _ h => absurd h List.not_mem_nil⟩⟩
def lw_privs : List (MethodName × Nat) := lw_privs_1 ++ (lw_privs_2 ++ (lw_privs_3 ++ (lw_privs_4 ++ (lw_privs_5 ++ (lw_privs_6)))))
def lw_tbl : List Cond := k2_sels lw_privs ++ tables_1
theorem lw_privs_ok : ∀ q ∈ lw_privs, lw_okq q := by
  show ∀ q ∈ lw_privs_1 ++ (lw_privs_2 ++ (lw_privs_3 ++ (lw_privs_4 ++ (lw_privs_5 ++ (lw_privs_6))))), lw_okq q
  exact List.forall_mem_append.mpr ⟨lw_r1, List.forall_mem_append.mpr ⟨lw_r2, List.forall_mem_append.mpr ⟨lw_r3, List.forall_mem_append.mpr ⟨lw_r4, List.forall_mem_append.mpr ⟨lw_r5, lw_r6⟩⟩⟩⟩⟩
-- ===== end of PART A; then your names; then what follows =====
/-! ===== BEGIN words of one list among another's, by their places ===== -/
theorem goodIn_r {big : List Cond} (ws : List Cond) (ps : List Nat) (hp : ws = ps.filterMap (fun i => big[i]?)) (h : ws.all goodWord = true) : GoodIn big ws := by
  intro w hw
  have h1 := List.all_eq_true.mp h w hw
  rw [hp] at hw
  obtain ⟨i, -, hi⟩ := List.mem_filterMap.mp hw
  have hm : w ∈ big := by first | exact List.mem_of_getElem? hi | exact List.getElem?_mem hi
  exact ⟨hm, good_of_word h1⟩
theorem goodIn_app {big a b : List Cond} (ha : GoodIn big a) (hb : GoodIn big b) : GoodIn big (a ++ b) := fun w h => (List.mem_append.mp h).elim (ha w) (hb w)
theorem goodIn_ca {big a b : List Cond} {c : Cond} (ha : GoodIn big (c :: a)) (hb : GoodIn big b) : GoodIn big (c :: (a ++ b)) := fun w h => (List.mem_cons.mp h).elim (fun e => ha w (List.mem_cons.mpr (Or.inl e))) (fun h => (List.mem_append.mp h).elim (fun h => ha w (List.mem_cons.mpr (Or.inr h))) (hb w))
theorem goodIn_sub {big ws : List Cond} (hm : ∀ w ∈ ws, w ∈ big) (h : ws.all goodWord = true) : GoodIn big ws := fun w hw => ⟨hm w hw, good_of_word (List.all_eq_true.mp h w hw)⟩
/-! ===== END ===== -/

/-! ===== BEGIN new T[n][m]: the outer array a place, the inner ones among the pooled ===== -/
/-- f, but v at every address of l -/
def vr_up {α : Type} (f : Nat → α) (l : List Nat) (v : α) : Nat → α := fun a => if a ∈ l then v else f a
theorem vr_up_in {α : Type} {f : Nat → α} {l : List Nat} {v : α} {a : Nat} (h : a ∈ l) : vr_up f l v a = v := if_pos h
theorem vr_up_ne {α : Type} {f : Nat → α} {l : List Nat} {v : α} {a : Nat} (h : a ∉ l) : vr_up f l v a = f a := if_neg h
theorem vr_rows {L l : List Nat} {f : Nat → va_E} {e : va_E} (h : ∀ a, a ∈ l → a ∉ L) : va_pl L f ++ l.map (fun a => (a, e)) = va_pl (L ++ l) (vr_up f l e) := by
  unfold va_pl
  rw [List.map_append]
  congr 1
  · apply List.map_congr_left
    intro a ha
    rw [vr_up_ne (fun q => h a q ha)]
  · apply List.map_congr_left
    intro a ha
    rw [vr_up_in ha]
theorem vr_lay {X rows : va_W} {x : Nat × va_E} {pl : va_W} {D : va_G} {cl : List vw_C} {H : Heap} (hP : va_P D cl (((X ++ pl) ++ [x]) ++ rows) H) : va_P D cl ((X ++ [x]) ++ (pl ++ rows)) H := by
  rw [List.append_assoc (X ++ pl)] at hP
  have h := va_P.swap hP
  rw [← List.append_assoc X] at h
  have h2 := va_P.swap h
  rw [List.append_assoc (X ++ [x])] at h2
  exact h2
theorem vr_layD {X rows : va_W} {x : Nat × va_E} {pl : va_W} {A : Nat → Prop} (hD : va_D A (((X ++ pl) ++ [x]) ++ rows)) : va_D A ((X ++ [x]) ++ (pl ++ rows)) := by
  rw [List.append_assoc (X ++ pl)] at hD
  have h := va_D.swap hD
  rw [← List.append_assoc X] at h
  have h2 := va_D.swap h
  rw [List.append_assoc (X ++ [x])] at h2
  exact h2
theorem vr_outer (c : ClassId) (N h0 : Nat) : ∀ i : Nat, Jvm.Free.Multi.outerC c N h0 i = arrV c N (fun j => va_rf (if j < i then some (h0 + 1 + j) else none))
  | 0 => by
    show ({ cls := c, slots := Array.replicate N .null, vm := .none } : Cell) = _
    rw [arrV_new]
    refine congrArg (arrV c N) (funext fun j => ?_)
    simp [va_rf]
  | i + 1 => by
    show (Jvm.Free.Multi.outerC c N h0 i).setSlot i (.ref (h0 + 1 + i)) = _
    rw [vr_outer c N h0 i, arrV_store]
    refine congrArg (arrV c N) (funext fun j => ?_)
    by_cases e : j = i
    · subst e
      simp [updV, va_rf]
    · by_cases h : j < i
      · simp [updV, e, h, Nat.lt_succ_of_lt h]
      · simp [updV, e, h, show ¬ j < i + 1 by omega]
def zz_AOA (t : FieldType) (U : State) : Prop := (Cond.arrayOver (.array t)).before #[] U = true
theorem zz_AOA.use {t : FieldType} {A : Array Value} {U : State} (h : zz_AOA t U) : (Cond.arrayOver (.array t)).before A U = true := h
section VGM
variable {p : Program} {l : Launch} {e : Env} {R : Room} {s : State} {m : MethodId} {args : Array Value} {below : List Frame} {meth : Method} {c : Code} {H : Heap} {locs : List Loc} {cells slots : Nat} {Q : State → Prop}
variable {cc : ByteArray} {pc : Nat} {ls : Array Slot} {rest : List Value} {D : va_G} {cl : List vw_C} {A : Nat → Prop} {a : Nat} {tys : List (ClassId × FieldType)} {ws : va_W} {H0 : Heap}
theorem va_mna {X : va_W} {L : List Nat} {f : Nat → va_E} {cc : ByteArray} (hexec : p.tables.exec = Jvm.exec) (hb : c.code = cc) {own : String} {index : Nat} {ty : FieldType} {cy : ClassId} (hown : s.vm.findClass own = some m.cls) (hclink : (Cond.classLink own index ("[" ++ (FieldType.array ty).toString)).before args s = true) (hover : zz_AOA ty s) (harr : (Cond.arrayClass ty).before args s = true) (hcy : s.vm.findClass (FieldType.array ty).toString = some cy)
    (hK : va_K D cl tys s) (hP : va_P D cl (X ++ va_pl L f) H) (hD : va_D A (X ++ va_pl L f)) (hS : va_S A H0 H locs) (hA : ∀ q, H0.size ≤ q → A q) {n k : Int32} {N' K' : Nat} {z : vp_A} (hn : ¬ n < 0) (hk : ¬ k < 0) (hN : n.toNatClampNeg = N') (hM : k.toNatClampNeg = K')
    (hb1 : N' * 4 ≤ 536870912) (hb2 : K' * componentBytes ty ≤ 536870912) (hb3 : K' ≤ 536870912) (hdf : fits ty (defaultValue ty) = true) (hdd : (defaultValue ty).isDefault = true) (hcells : cells + (1 + N') ≤ R.cells) (hslots : slots + (N' + N' * K') ≤ R.slots) (hz : ∀ c : ClassId, Jvm.Free.Multi.innerC c K' (defaultValue ty) = vp_cell c z) (hdg : decode cc pc = .ok (.multianewarray index 2, 4))
    (kk : ∀ (q : Nat) (r : Nat → Nat) (cA : ClassId) (H1 : Heap), (∀ i j : Nat, i < N' → j < N' → r i = r j → i = j) → (∀ i : Nat, i < N' → r i ∉ L) → va_K D cl (tys ++ [(cA, .array ty)]) s →
      va_P D cl ((X ++ [(q, .inl (cA, N', .inr (.inr (.inr (.inr (fun i => if i < N' then some (r i) else none))))))]) ++ va_pl (L ++ (List.range N').map r) (vr_up f ((List.range N').map r) (.inl (cy, z)))) H1 → va_D A ((X ++ [(q, .inl (cA, N', .inr (.inr (.inr (.inr (fun i => if i < N' then some (r i) else none))))))]) ++ va_pl (L ++ (List.range N').map r) (vr_up f ((List.range N').map r) (.inl (cy, z)))) → va_S A H0 H1 locs →
      W p l e R s m args below meth c H1 locs (cells + 1 + N') (slots + N' + N' * K') Q (F0 m (pc + 4) ls (.ref q :: rest))) : W p l e R s m args below meth c H locs cells slots Q (F0 m pc ls (.int k :: .int n :: rest)) := by
  subst hN
  subst hM
  intro T hT Xs
  obtain ⟨vm₁, cA, comp, -, fA, fC, hO, -, X', step⟩ := Xs.multianewarray2F hexec hown hclink (zz_AOA.use hover) harr (g := F0 m pc ls (.int k :: .int n :: rest)) rfl (by rw [hb]; exact hdg) rfl hn hk hb1 hb2 hb3 hdf hdd hcells hslots
  have ec : some cy = some comp := hcy.symm.trans fC
  cases ec
  generalize hF : Jvm.Free.Multi.fill (T.setVm vm₁) cA cy n.toNatClampNeg k.toNatClampNeg (defaultValue ty) n.toNatClampNeg = F at X' step
  have hTh : (T.setVm vm₁).heap = H := hT
  obtain ⟨f1, f2, -, -⟩ := Jvm.Free.Multi.fill_facts (T.setVm vm₁) cA cy n.toNatClampNeg k.toNatClampNeg (defaultValue ty) n.toNatClampNeg
  rw [hF, hTh] at f1 f2
  have hold : ∀ x : Nat, x < H.size → F.heap[x]? = H[x]? := fun x hx => by
    have := Jvm.Free.Multi.fill_old (T.setVm vm₁) cA cy n.toNatClampNeg k.toNatClampNeg (defaultValue ty) (a := x) (by rw [hTh]; exact hx) n.toNatClampNeg
    rw [hF, hTh] at this
    exact this
  have hrow : ∀ j : Nat, j < n.toNatClampNeg → F.heap[H.size + 1 + j]? = some (vp_cell cy z) := fun j hj => by
    have := Jvm.Free.Multi.fill_inner (T.setVm vm₁) cA cy n.toNatClampNeg k.toNatClampNeg (defaultValue ty) n.toNatClampNeg j hj
    rw [hF, hTh, hz] at this
    exact this
  have hout : Jvm.Free.Multi.outerC cA n.toNatClampNeg H.size n.toNatClampNeg = vp_cell cA (n.toNatClampNeg, .inr (.inr (.inr (.inr (fun i => if i < n.toNatClampNeg then some (H.size + 1 + i) else none))))) := by
    rw [vp_cell_q]
    exact vr_outer cA n.toNatClampNeg H.size n.toNatClampNeg
  rw [hout] at f2
  have hlt : ∀ a, a ∈ L → a < H.size := fun a ha => by
    obtain ⟨k9, hk9⟩ := va_pl_get (X := X) (f := f) ha
    exact (hP k9 _ hk9).lt
  have hnl : ∀ i : Nat, i < n.toNatClampNeg → H.size + 1 + i ∉ L := fun i _ h => by
    have := hlt _ h
    omega
  have hnm : ∀ a, a ∈ (List.range n.toNatClampNeg).map (fun i => H.size + 1 + i) → a ∉ L := fun a ha h => by
    obtain ⟨i, -, rfl⟩ := List.mem_map.mp ha
    have := hlt _ h
    omega
  have hP0 : va_P D cl (X ++ va_pl L f) F.heap := hP.kept (fun k9 x hx => hold x.1 ((hP k9 x hx).lt))
  have hP1 : va_P D cl ((X ++ va_pl L f) ++ [(H.size, .inl (cA, n.toNatClampNeg, .inr (.inr (.inr (.inr (fun i => if i < n.toNatClampNeg then some (H.size + 1 + i) else none))))))]) F.heap := hP0.app (fun k9 x hx => by
    have h0 : k9 < 1 := (List.getElem?_eq_some_iff.mp hx).1
    rw [show k9 = 0 by omega] at hx
    cases hx
    exact f2)
  have hP2 : va_P D cl (((X ++ va_pl L f) ++ [(H.size, .inl (cA, n.toNatClampNeg, .inr (.inr (.inr (.inr (fun i => if i < n.toNatClampNeg then some (H.size + 1 + i) else none))))))]) ++ ((List.range n.toNatClampNeg).map (fun i => H.size + 1 + i)).map (fun a => (a, .inl (cy, z)))) F.heap := hP1.app (fun k9 x hx => by
    obtain ⟨a, ha, rfl⟩ := List.mem_map.mp (List.mem_of_getElem? hx)
    obtain ⟨i, hi, rfl⟩ := List.mem_map.mp ha
    exact hrow i (List.mem_range.mp hi))
  have hD2 : va_D A (((X ++ va_pl L f) ++ [(H.size, .inl (cA, n.toNatClampNeg, .inr (.inr (.inr (.inr (fun i => if i < n.toNatClampNeg then some (H.size + 1 + i) else none))))))]) ++ ((List.range n.toNatClampNeg).map (fun i => H.size + 1 + i)).map (fun a => (a, .inl (cy, z)))) := by
    have hD1 := hD.push (e := .inl (cA, n.toNatClampNeg, .inr (.inr (.inr (.inr (fun i => if i < n.toNatClampNeg then some (H.size + 1 + i) else none)))))) hP rfl (hA _ hS.1)
    generalize hW1 : (X ++ va_pl L f) ++ [(H.size, .inl (cA, n.toNatClampNeg, .inr (.inr (.inr (.inr (fun i => if i < n.toNatClampNeg then some (H.size + 1 + i) else none))))))] = W1 at hD1 hP1 ⊢
    have hle : ∀ (k9 : Nat) (x : Nat × va_E), W1[k9]? = some x → x.1 ≤ H.size := fun k9 x hx => by
      rw [← hW1] at hx
      by_cases hl : k9 < (X ++ va_pl L f).length
      · rw [List.getElem?_append_left hl] at hx
        exact Nat.le_of_lt ((hP k9 x hx).lt)
      · rw [List.getElem?_append_right (by omega)] at hx
        have h0 : k9 - (X ++ va_pl L f).length < 1 := (List.getElem?_eq_some_iff.mp hx).1
        rw [show k9 - (X ++ va_pl L f).length = 0 by omega] at hx
        cases hx
        exact Nat.le_refl _
    have hr : ∀ (k9 : Nat) (x : Nat × va_E), (((List.range n.toNatClampNeg).map (fun i => H.size + 1 + i)).map (fun a => ((a, .inl (cy, z)) : Nat × va_E)))[k9]? = some x → x.1 = H.size + 1 + k9 := fun k9 x hx => by
      rw [List.getElem?_map, List.getElem?_map] at hx
      by_cases h9 : k9 < n.toNatClampNeg
      · rw [List.getElem?_range h9] at hx
        cases hx
        rfl
      · have hn0 : (List.range n.toNatClampNeg)[k9]? = none := List.getElem?_eq_none (by rw [List.length_range]; omega)
        rw [hn0] at hx
        cases hx
    refine ⟨fun i j x y hi hj hxy => ?_, fun k9 x hx => ?_⟩
    · by_cases h1 : i < W1.length <;> by_cases h2 : j < W1.length
      · rw [List.getElem?_append_left h1] at hi
        rw [List.getElem?_append_left h2] at hj
        exact hD1.1 i j x y hi hj hxy
      · rw [List.getElem?_append_left h1] at hi
        rw [List.getElem?_append_right (by omega)] at hj
        have := hle _ _ hi
        have := hr _ _ hj
        omega
      · rw [List.getElem?_append_right (by omega)] at hi
        rw [List.getElem?_append_left h2] at hj
        have := hle _ _ hj
        have := hr _ _ hi
        omega
      · rw [List.getElem?_append_right (by omega)] at hi hj
        have := hr _ _ hi
        have := hr _ _ hj
        omega
    · by_cases h1 : k9 < W1.length
      · rw [List.getElem?_append_left h1] at hx
        exact hD1.2 k9 x hx
      · rw [List.getElem?_append_right (by omega)] at hx
        have := hr _ _ hx
        exact hA _ (by have := hS.1; omega)
  have hAr : ArrOfT s cA (.array ty) := fun N9 z9 => by
    obtain ⟨-, k9, hk9, cm9, hkk9⟩ := (hO 0 0 0).1
    exact ⟨(fun q hq => by cases hq), k9, hk9, cm9, hkk9⟩
  have hK2 : va_K D cl (tys ++ [(cA, .array ty)]) s := ⟨hK.1, fun k9 x hx => by
    by_cases hl : k9 < tys.length
    · rw [List.getElem?_append_left hl] at hx
      exact hK.2 k9 x hx
    · rw [List.getElem?_append_right (by omega)] at hx
      have h0 : k9 - tys.length < 1 := (List.getElem?_eq_some_iff.mp hx).1
      rw [show k9 - tys.length = 0 by omega] at hx
      cases hx
      exact ⟨hAr, fA⟩⟩
  obtain ⟨t, a1, b1⟩ := kk H.size (fun i => H.size + 1 + i) cA F.heap (fun i j _ _ h => by have h9 : H.size + 1 + i = H.size + 1 + j := h; omega) hnl hK2 (by rw [← vr_rows hnm]; exact vr_lay hP2) (by rw [← vr_rows hnm]; exact vr_layD hD2) ⟨by rw [f1]; have := hS.1; omega, fun x h1 h2 => (hold x (Nat.lt_of_lt_of_le h1 hS.1)).trans (hS.2.1 x h1 h2), hS.2.2⟩ F rfl X'
  refine ⟨t, step t ?_, b1⟩
  have e : T.heap.size = H.size := by rw [hT]
  rw [e]
  exact a1
end VGM
/-! ===== END ===== -/

def RX0 : String := "WalkingBus$Child"
def TX0 : u_T := fun k => match k with
  | 0 => ("WalkingBus$Child", "kind", "I", false)
  | 1 => ("WalkingBus$Child", "corner", "I", false)
  | 2 => ("WalkingBus$Child", "age", "I", false)
  | 3 => ("WalkingBus$Child", "readyAt", "I", false)
  | 4 => ("WalkingBus$Child", "friends", "I", false)
  | _ => ("WalkingBus$Child", "quarrels", "I", false)
def tyX0 : Nat → FieldType := fun k => match k with
  | 0 => .int
  | 1 => .int
  | 2 => .int
  | 3 => .int
  | 4 => .int
  | _ => .int
abbrev wsX00 : List Cond := u_ws RX0 TX0 6
theorem nmX0 : ∀ a, a < 6 → ∀ b, b < 6 → a ≠ b → (TX0 a).2.1 ≠ (TX0 b).2.1 := by decide +kernel
theorem tyX0_ok : ∀ k, k < 6 → parseFieldDescriptor (TX0 k).2.2.1 = some (tyX0 k) := by decide +kernel
abbrev cX0_init : ByteArray := prog_2_method_1_code
def yX0_init : MethodName := ⟨RX0, "<init>", "()V"⟩
abbrev cX0_become : ByteArray := prog_2_method_2_code
def yX0_become : MethodName := ⟨RX0, "become", "(IIII)V"⟩
abbrev cX0_pace : ByteArray := prog_2_method_3_code
def yX0_pace : MethodName := ⟨RX0, "pace", "()I"⟩
abbrev cX0_heads : ByteArray := prog_2_method_4_code
def yX0_heads : MethodName := ⟨RX0, "heads", "()I"⟩
abbrev cX0_bondWith : ByteArray := prog_2_method_5_code
def yX0_bondWith : MethodName := ⟨RX0, "bondWith", "(I)I"⟩
abbrev cX0_bind : ByteArray := prog_2_method_6_code
def yX0_bind : MethodName := ⟨RX0, "bind", "(II)V"⟩
def RX1 : String := "WalkingBus$Gates"
def TX1 : u_T := fun k => match k with
  | 0 => ("WalkingBus$Gates", "count", "I", false)
  | 1 => ("WalkingBus$Gates", "order", "[I", true)
  | 2 => ("WalkingBus$Gates", "readyAt", "[I", true)
  | _ => ("WalkingBus$Gates", "pace", "[I", true)
def tyX1 : Nat → FieldType := fun k => match k with
  | 0 => .int
  | 1 => .array .int
  | 2 => .array .int
  | _ => .array .int
abbrev wsX10 : List Cond := u_ws RX1 TX1 4
theorem nmX1 : ∀ a, a < 4 → ∀ b, b < 4 → a ≠ b → (TX1 a).2.1 ≠ (TX1 b).2.1 := by decide +kernel
theorem tyX1_ok : ∀ k, k < 4 → parseFieldDescriptor (TX1 k).2.2.1 = some (tyX1 k) := by decide +kernel
abbrev cX1_init : ByteArray := prog_3_method_1_code
def yX1_init : MethodName := ⟨RX1, "<init>", "()V"⟩
abbrev cX1_gather : ByteArray := prog_3_method_2_code
def yX1_gather : MethodName := ⟨RX1, "gather", "([LWalkingBus$Child;I)V"⟩
abbrev cX1_setFirstOrder : ByteArray := prog_3_method_3_code
def yX1_setFirstOrder : MethodName := ⟨RX1, "setFirstOrder", "()V"⟩
abbrev cX1_isGate : ByteArray := prog_3_method_4_code
def yX1_isGate : MethodName := ⟨RX1, "isGate", "(I)Z"⟩
abbrev cX1_orderBy : ByteArray := prog_3_method_5_code
def yX1_orderBy : MethodName := ⟨RX1, "orderBy", "(LWalkingBus$Sheet;II)Z"⟩
abbrev cX1_toNextOrder : ByteArray := prog_3_method_6_code
def yX1_toNextOrder : MethodName := ⟨RX1, "toNextOrder", "()Z"⟩
abbrev cX1_swap : ByteArray := prog_3_method_7_code
def yX1_swap : MethodName := ⟨RX1, "swap", "(II)V"⟩
def RX2 : String := "WalkingBus$Line"
def TX2 : u_T := fun k => match k with
  | 0 => ("WalkingBus$Line", "gates", "LWalkingBus$Gates;", true)
  | 1 => ("WalkingBus$Line", "minutes", "LWalkingBus$Minutes;", true)
  | _ => ("WalkingBus$Line", "bestOrder", "[I", true)
def tyX2 : Nat → FieldType := fun k => match k with
  | 0 => .object "WalkingBus$Gates"
  | 1 => .object "WalkingBus$Minutes"
  | _ => .array .int
abbrev wsX20 : List Cond := u_ws RX2 TX2 3
theorem nmX2 : ∀ a, a < 3 → ∀ b, b < 3 → a ≠ b → (TX2 a).2.1 ≠ (TX2 b).2.1 := by decide +kernel
theorem tyX2_ok : ∀ k, k < 3 → parseFieldDescriptor (TX2 k).2.2.1 = some (tyX2 k) := by decide +kernel
abbrev cX2_init : ByteArray := prog_4_method_1_code
def yX2_init : MethodName := ⟨RX2, "<init>", "()V"⟩
abbrev cX2_isWalkable : ByteArray := prog_4_method_2_code
def yX2_isWalkable : MethodName := ⟨RX2, "isWalkable", "(LWalkingBus$Streets;I)Z"⟩
abbrev cX2_stop : ByteArray := prog_4_method_3_code
def yX2_stop : MethodName := ⟨RX2, "stop", "(LWalkingBus$Streets;I)I"⟩
abbrev cX2_walk : ByteArray := prog_4_method_4_code
def yX2_walk : MethodName := ⟨RX2, "walk", "(LWalkingBus$Streets;II)V"⟩
abbrev cX2_walkWay : ByteArray := prog_4_method_5_code
def yX2_walkWay : MethodName := ⟨RX2, "walkWay", "(LWalkingBus$Streets;III)V"⟩
abbrev cX2_hasStarts : ByteArray := prog_4_method_6_code
def yX2_hasStarts : MethodName := ⟨RX2, "hasStarts", "(LWalkingBus$Streets;I)Z"⟩
abbrev cX2_findStart : ByteArray := prog_4_method_7_code
def yX2_findStart : MethodName := ⟨RX2, "findStart", "(LWalkingBus$Streets;III)I"⟩
abbrev cX2_keepOrder : ByteArray := prog_4_method_8_code
def yX2_keepOrder : MethodName := ⟨RX2, "keepOrder", "()V"⟩
abbrev cX2_latestStart : ByteArray := prog_4_method_9_code
def yX2_latestStart : MethodName := ⟨RX2, "latestStart", "(LWalkingBus$Streets;IIII)I"⟩
def RX3 : String := "WalkingBus$Minutes"
def TX3 : u_T := fun k => match k with
  | 0 => ("WalkingBus$Minutes", "casesAt", "[J", true)
  | 1 => ("WalkingBus$Minutes", "earliest", "I", false)
  | 2 => ("WalkingBus$Minutes", "spread", "I", false)
  | _ => ("WalkingBus$Minutes", "cases", "J", false)
def tyX3 : Nat → FieldType := fun k => match k with
  | 0 => .array .long
  | 1 => .int
  | 2 => .int
  | _ => .long
abbrev wsX30 : List Cond := u_ws RX3 TX3 4
theorem nmX3 : ∀ a, a < 4 → ∀ b, b < 4 → a ≠ b → (TX3 a).2.1 ≠ (TX3 b).2.1 := by decide +kernel
theorem tyX3_ok : ∀ k, k < 4 → parseFieldDescriptor (TX3 k).2.2.1 = some (tyX3 k) := by decide +kernel
abbrev cX3_init : ByteArray := prog_5_method_1_code
def yX3_init : MethodName := ⟨RX3, "<init>", "()V"⟩
abbrev cX3_begin : ByteArray := prog_5_method_2_code
def yX3_begin : MethodName := ⟨RX3, "begin", "(I)V"⟩
abbrev cX3_pass : ByteArray := prog_5_method_3_code
def yX3_pass : MethodName := ⟨RX3, "pass", "(I)V"⟩
abbrev cX3_cross : ByteArray := prog_5_method_4_code
def yX3_cross : MethodName := ⟨RX3, "cross", "(II)V"⟩
abbrev cX3_waitUntil : ByteArray := prog_5_method_5_code
def yX3_waitUntil : MethodName := ⟨RX3, "waitUntil", "(I)V"⟩
abbrev cX3_casesBehind : ByteArray := prog_5_method_6_code
def yX3_casesBehind : MethodName := ⟨RX3, "casesBehind", "(I)J"⟩
abbrev cX3_sumOverCases : ByteArray := prog_5_method_7_code
def yX3_sumOverCases : MethodName := ⟨RX3, "sumOverCases", "()J"⟩
def RX4 : String := "WalkingBus$Reader"
def TX4 : u_T := fun k => match k with
  | 0 => ("WalkingBus$Reader", "codes", "[I", true)
  | 1 => ("WalkingBus$Reader", "count", "I", false)
  | _ => ("WalkingBus$Reader", "at", "I", false)
def tyX4 : Nat → FieldType := fun k => match k with
  | 0 => .array .int
  | 1 => .int
  | _ => .int
abbrev wsX40 : List Cond := u_ws RX4 TX4 3
theorem nmX4 : ∀ a, a < 3 → ∀ b, b < 3 → a ≠ b → (TX4 a).2.1 ≠ (TX4 b).2.1 := by decide +kernel
theorem tyX4_ok : ∀ k, k < 3 → parseFieldDescriptor (TX4 k).2.2.1 = some (tyX4 k) := by decide +kernel
abbrev cX4_init : ByteArray := prog_6_method_1_code
def yX4_init : MethodName := ⟨RX4, "<init>", "()V"⟩
abbrev cX4_read : ByteArray := prog_6_method_2_code
def yX4_read : MethodName := ⟨RX4, "read", "(LWalkingBus$Sheet;IILWalkingBus$Streets;)I"⟩
abbrev cX4_readRoads : ByteArray := prog_6_method_3_code
def yX4_readRoads : MethodName := ⟨RX4, "readRoads", "(LWalkingBus$Streets;)I"⟩
abbrev cX4_readRoad : ByteArray := prog_6_method_4_code
def yX4_readRoad : MethodName := ⟨RX4, "readRoad", "(LWalkingBus$Streets;)I"⟩
abbrev cX4_readSchool : ByteArray := prog_6_method_5_code
def yX4_readSchool : MethodName := ⟨RX4, "readSchool", "(LWalkingBus$Streets;)I"⟩
abbrev cX4_take : ByteArray := prog_6_method_6_code
def yX4_take : MethodName := ⟨RX4, "take", "(I)Z"⟩
abbrev cX4_isDigit : ByteArray := prog_6_method_7_code
def yX4_isDigit : MethodName := ⟨RX4, "isDigit", "(II)Z"⟩
abbrev cX4_takeDigit : ByteArray := prog_6_method_8_code
def yX4_takeDigit : MethodName := ⟨RX4, "takeDigit", "()I"⟩
abbrev cX4_takeNumber : ByteArray := prog_6_method_9_code
def yX4_takeNumber : MethodName := ⟨RX4, "takeNumber", "()I"⟩
def RX5 : String := "WalkingBus$Rope"
def TX5 : u_T := fun k => match k with
  | 0 => ("WalkingBus$Rope", "friends", "[I", true)
  | 1 => ("WalkingBus$Rope", "quarrels", "[I", true)
  | 2 => ("WalkingBus$Rope", "loopOf", "[I", true)
  | 3 => ("WalkingBus$Rope", "bestLoops", "[I", true)
  | 4 => ("WalkingBus$Rope", "isCounting", "Z", false)
  | 5 => ("WalkingBus$Rope", "loops", "I", false)
  | 6 => ("WalkingBus$Rope", "emptyLoop", "I", false)
  | 7 => ("WalkingBus$Rope", "oldEnough", "I", false)
  | 8 => ("WalkingBus$Rope", "withFriends", "I", false)
  | 9 => ("WalkingBus$Rope", "found", "I", false)
  | _ => ("WalkingBus$Rope", "mostFriends", "I", false)
def tyX5 : Nat → FieldType := fun k => match k with
  | 0 => .array .int
  | 1 => .array .int
  | 2 => .array .int
  | 3 => .array .int
  | 4 => .boolean
  | 5 => .int
  | 6 => .int
  | 7 => .int
  | 8 => .int
  | 9 => .int
  | _ => .int
abbrev wsX50 : List Cond := u_ws RX5 TX5 11
theorem nmX5 : ∀ a, a < 11 → ∀ b, b < 11 → a ≠ b → (TX5 a).2.1 ≠ (TX5 b).2.1 := by decide +kernel
theorem tyX5_ok : ∀ k, k < 11 → parseFieldDescriptor (TX5 k).2.2.1 = some (tyX5 k) := by decide +kernel
abbrev cX5_init : ByteArray := prog_7_method_1_code
def yX5_init : MethodName := ⟨RX5, "<init>", "()V"⟩
abbrev cX5_search : ByteArray := prog_7_method_2_code
def yX5_search : MethodName := ⟨RX5, "search", "([LWalkingBus$Child;IIZ)V"⟩
abbrev cX5_fill : ByteArray := prog_7_method_3_code
def yX5_fill : MethodName := ⟨RX5, "fill", "(LWalkingBus$Rope;III)V"⟩
abbrev cX5_take : ByteArray := prog_7_method_4_code
def yX5_take : MethodName := ⟨RX5, "take", "(I)V"⟩
abbrev cX5_hope : ByteArray := prog_7_method_5_code
def yX5_hope : MethodName := ⟨RX5, "hope", "(II)I"⟩
abbrev cX5_mayCome : ByteArray := prog_7_method_6_code
def yX5_mayCome : MethodName := ⟨RX5, "mayCome", "(II)I"⟩
abbrev cX5_quarrelsAt : ByteArray := prog_7_method_7_code
def yX5_quarrelsAt : MethodName := ⟨RX5, "quarrelsAt", "(I)I"⟩
abbrev cX5_isBeside : ByteArray := prog_7_method_8_code
def yX5_isBeside : MethodName := ⟨RX5, "isBeside", "(I)Z"⟩
abbrev cX5_bitAt : ByteArray := prog_7_method_9_code
def yX5_bitAt : MethodName := ⟨RX5, "bitAt", "(I)I"⟩
def RX6 : String := "WalkingBus$Sheet"
def TX6 : u_T := fun k => match k with
  | 0 => ("WalkingBus$Sheet", "isThere", "Z", false)
  | 1 => ("WalkingBus$Sheet", "sort", "I", false)
  | 2 => ("WalkingBus$Sheet", "count", "I", false)
  | _ => ("WalkingBus$Sheet", "cells", "[I", true)
def tyX6 : Nat → FieldType := fun k => match k with
  | 0 => .boolean
  | 1 => .int
  | 2 => .int
  | _ => .array .int
abbrev wsX60 : List Cond := u_ws RX6 TX6 4
theorem nmX6 : ∀ a, a < 4 → ∀ b, b < 4 → a ≠ b → (TX6 a).2.1 ≠ (TX6 b).2.1 := by decide +kernel
theorem tyX6_ok : ∀ k, k < 4 → parseFieldDescriptor (TX6 k).2.2.1 = some (tyX6 k) := by decide +kernel
abbrev cX6_init : ByteArray := prog_8_method_1_code
def yX6_init : MethodName := ⟨RX6, "<init>", "()V"⟩
abbrev cX6_begin : ByteArray := prog_8_method_2_code
def yX6_begin : MethodName := ⟨RX6, "begin", "(II)V"⟩
abbrev cX6_reaches : ByteArray := prog_8_method_3_code
def yX6_reaches : MethodName := ⟨RX6, "reaches", "(II)Z"⟩
abbrev cX6_rowFault : ByteArray := prog_8_method_4_code
def yX6_rowFault : MethodName := ⟨RX6, "rowFault", "(III)I"⟩
abbrev cX6_at : ByteArray := prog_8_method_5_code
def yX6_at : MethodName := ⟨RX6, "at", "(I)I"⟩
abbrev cX6_change : ByteArray := prog_8_method_6_code
def yX6_change : MethodName := ⟨RX6, "change", "(II)V"⟩
def RX7 : String := "WalkingBus$Streets"
def TX7 : u_T := fun k => match k with
  | 0 => ("WalkingBus$Streets", "corners", "I", false)
  | 1 => ("WalkingBus$Streets", "roads", "I", false)
  | 2 => ("WalkingBus$Streets", "school", "I", false)
  | 3 => ("WalkingBus$Streets", "from", "[I", true)
  | 4 => ("WalkingBus$Streets", "to", "[I", true)
  | 5 => ("WalkingBus$Streets", "length", "[I", true)
  | 6 => ("WalkingBus$Streets", "odds", "[I", true)
  | 7 => ("WalkingBus$Streets", "shut", "[I", true)
  | 8 => ("WalkingBus$Streets", "cost", "[[I", true)
  | _ => ("WalkingBus$Streets", "firstRoad", "[[I", true)
def tyX7 : Nat → FieldType := fun k => match k with
  | 0 => .int
  | 1 => .int
  | 2 => .int
  | 3 => .array .int
  | 4 => .array .int
  | 5 => .array .int
  | 6 => .array .int
  | 7 => .array .int
  | 8 => .array (.array .int)
  | _ => .array (.array .int)
abbrev wsX70 : List Cond := u_ws RX7 TX7 10
theorem nmX7 : ∀ a, a < 10 → ∀ b, b < 10 → a ≠ b → (TX7 a).2.1 ≠ (TX7 b).2.1 := by decide +kernel
theorem tyX7_ok : ∀ k, k < 10 → parseFieldDescriptor (TX7 k).2.2.1 = some (tyX7 k) := by decide +kernel
abbrev cX7_init : ByteArray := prog_9_method_1_code
def yX7_init : MethodName := ⟨RX7, "<init>", "()V"⟩
abbrev cX7_begin : ByteArray := prog_9_method_2_code
def yX7_begin : MethodName := ⟨RX7, "begin", "(I)V"⟩
abbrev cX7_addRoad : ByteArray := prog_9_method_3_code
def yX7_addRoad : MethodName := ⟨RX7, "addRoad", "(IIIII)V"⟩
abbrev cX7_crossings : ByteArray := prog_9_method_4_code
def yX7_crossings : MethodName := ⟨RX7, "crossings", "()I"⟩
abbrev cX7_isCrossing : ByteArray := prog_9_method_5_code
def yX7_isCrossing : MethodName := ⟨RX7, "isCrossing", "(I)Z"⟩
abbrev cX7_findWays : ByteArray := prog_9_method_6_code
def yX7_findWays : MethodName := ⟨RX7, "findWays", "()V"⟩
abbrev cX7_setRoadCosts : ByteArray := prog_9_method_7_code
def yX7_setRoadCosts : MethodName := ⟨RX7, "setRoadCosts", "()V"⟩
abbrev cX7_roadCost : ByteArray := prog_9_method_8_code
def yX7_roadCost : MethodName := ⟨RX7, "roadCost", "(I)I"⟩
abbrev cX7_firstRoadOfWay : ByteArray := prog_9_method_9_code
def yX7_firstRoadOfWay : MethodName := ⟨RX7, "firstRoadOfWay", "(II)I"⟩
abbrev cX7_otherEnd : ByteArray := prog_9_method_10_code
def yX7_otherEnd : MethodName := ⟨RX7, "otherEnd", "(II)I"⟩
abbrev cX7_hasWay : ByteArray := prog_9_method_11_code
def yX7_hasWay : MethodName := ⟨RX7, "hasWay", "(II)Z"⟩
abbrev cX7_lengthOfWay : ByteArray := prog_9_method_12_code
def yX7_lengthOfWay : MethodName := ⟨RX7, "lengthOfWay", "(II)I"⟩
abbrev cX7_crossingsOfWay : ByteArray := prog_9_method_13_code
def yX7_crossingsOfWay : MethodName := ⟨RX7, "crossingsOfWay", "(II)I"⟩
abbrev cX7_roadsOfWay : ByteArray := prog_9_method_14_code
def yX7_roadsOfWay : MethodName := ⟨RX7, "roadsOfWay", "(II)I"⟩
abbrev cX7_roadOfWay : ByteArray := prog_9_method_15_code
def yX7_roadOfWay : MethodName := ⟨RX7, "roadOfWay", "(III)I"⟩
def RX8 : String := "WalkingBus$Week"
def TX8 : u_T := fun k => match k with
  | 0 => ("WalkingBus$Week", "able", "[I", true)
  | 1 => ("WalkingBus$Week", "daysOf", "[I", true)
  | 2 => ("WalkingBus$Week", "sets", "[I", true)
  | 3 => ("WalkingBus$Week", "need", "I", false)
  | 4 => ("WalkingBus$Week", "most", "I", false)
  | _ => ("WalkingBus$Week", "mostDays", "I", false)
def tyX8 : Nat → FieldType := fun k => match k with
  | 0 => .array .int
  | 1 => .array .int
  | 2 => .array .int
  | 3 => .int
  | 4 => .int
  | _ => .int
abbrev wsX80 : List Cond := u_ws RX8 TX8 6
theorem nmX8 : ∀ a, a < 6 → ∀ b, b < 6 → a ≠ b → (TX8 a).2.1 ≠ (TX8 b).2.1 := by decide +kernel
theorem tyX8_ok : ∀ k, k < 6 → parseFieldDescriptor (TX8 k).2.2.1 = some (tyX8 k) := by decide +kernel
abbrev cX8_init : ByteArray := prog_10_method_1_code
def yX8_init : MethodName := ⟨RX8, "<init>", "()V"⟩
abbrev cX8_make : ByteArray := prog_10_method_2_code
def yX8_make : MethodName := ⟨RX8, "make", "([III)V"⟩
abbrev cX8_isEnough : ByteArray := prog_10_method_3_code
def yX8_isEnough : MethodName := ⟨RX8, "isEnough", "([II)Z"⟩
abbrev cX8_fill : ByteArray := prog_10_method_4_code
def yX8_fill : MethodName := ⟨RX8, "fill", "(LWalkingBus$Week;I)Z"⟩
abbrev cX8_mayHelp : ByteArray := prog_10_method_5_code
def yX8_mayHelp : MethodName := ⟨RX8, "mayHelp", "(II)Z"⟩
abbrev cX8_addDays : ByteArray := prog_10_method_6_code
def yX8_addDays : MethodName := ⟨RX8, "addDays", "(II)V"⟩
def RX9 : String := "WalkingBus"
def TX9 : u_T := fun k => match k with
  | 0 => ("WalkingBus", "sheets", "[LWalkingBus$Sheet;", true)
  | 1 => ("WalkingBus", "reader", "LWalkingBus$Reader;", true)
  | 2 => ("WalkingBus", "town", "LWalkingBus$Streets;", false)
  | 3 => ("WalkingBus", "spareTown", "LWalkingBus$Streets;", false)
  | 4 => ("WalkingBus", "children", "[LWalkingBus$Child;", true)
  | 5 => ("WalkingBus", "childCount", "I", false)
  | 6 => ("WalkingBus", "line", "LWalkingBus$Line;", true)
  | 7 => ("WalkingBus", "rope", "LWalkingBus$Rope;", true)
  | 8 => ("WalkingBus", "hold", "I", false)
  | 9 => ("WalkingBus", "helperDays", "[I", true)
  | 10 => ("WalkingBus", "helperCount", "I", false)
  | 11 => ("WalkingBus", "plan", "LWalkingBus$Week;", true)
  | 12 => ("WalkingBus", "traced", "I", false)
  | 13 => ("WalkingBus", "lastFault", "I", false)
  | 14 => ("WalkingBus", "splitSet", "I", false)
  | 15 => ("WalkingBus", "splitGrown", "I", false)
  | _ => ("WalkingBus", "splitStarts", "I", false)
def tyX9 : Nat → FieldType := fun k => match k with
  | 0 => .array (.object "WalkingBus$Sheet")
  | 1 => .object "WalkingBus$Reader"
  | 2 => .object "WalkingBus$Streets"
  | 3 => .object "WalkingBus$Streets"
  | 4 => .array (.object "WalkingBus$Child")
  | 5 => .int
  | 6 => .object "WalkingBus$Line"
  | 7 => .object "WalkingBus$Rope"
  | 8 => .int
  | 9 => .array .int
  | 10 => .int
  | 11 => .object "WalkingBus$Week"
  | 12 => .int
  | 13 => .int
  | 14 => .int
  | 15 => .int
  | _ => .int
abbrev wsX90 : List Cond := u_ws RX9 TX9 17
theorem nmX9 : ∀ a, a < 17 → ∀ b, b < 17 → a ≠ b → (TX9 a).2.1 ≠ (TX9 b).2.1 := by decide +kernel
theorem tyX9_ok : ∀ k, k < 17 → parseFieldDescriptor (TX9 k).2.2.1 = some (tyX9 k) := by decide +kernel
abbrev cX9_init : ByteArray := prog_1_method_1_code
def yX9_init : MethodName := ⟨RX9, "<init>", "()V"⟩
abbrev cX9_streets : ByteArray := prog_1_method_2_code
def yX9_streets : MethodName := ⟨RX9, "streets", "(IIII)I"⟩
abbrev cX9_ofRoad : ByteArray := prog_1_method_3_code
def yX9_ofRoad : MethodName := ⟨RX9, "ofRoad", "(II)I"⟩
abbrev cX9_way : ByteArray := prog_1_method_4_code
def yX9_way : MethodName := ⟨RX9, "way", "(III)I"⟩
abbrev cX9_along : ByteArray := prog_1_method_5_code
def yX9_along : MethodName := ⟨RX9, "along", "(III)I"⟩
abbrev cX9_child : ByteArray := prog_1_method_6_code
def yX9_child : MethodName := ⟨RX9, "child", "(IIII)I"⟩
abbrev cX9_ofChild : ByteArray := prog_1_method_7_code
def yX9_ofChild : MethodName := ⟨RX9, "ofChild", "(II)I"⟩
abbrev cX9_ready : ByteArray := prog_1_method_8_code
def yX9_ready : MethodName := ⟨RX9, "ready", "(II)I"⟩
abbrev cX9_tie : ByteArray := prog_1_method_9_code
def yX9_tie : MethodName := ⟨RX9, "tie", "(III)I"⟩
abbrev cX9_late : ByteArray := prog_1_method_10_code
def yX9_late : MethodName := ⟨RX9, "late", "(IIIIIIIII)J"⟩
abbrev cX9_mean : ByteArray := prog_1_method_11_code
def yX9_mean : MethodName := ⟨RX9, "mean", "(IIIIIIII)J"⟩
abbrev cX9_start : ByteArray := prog_1_method_12_code
def yX9_start : MethodName := ⟨RX9, "start", "(IIII)I"⟩
abbrev cX9_gate : ByteArray := prog_1_method_13_code
def yX9_gate : MethodName := ⟨RX9, "gate", "(IIIII)I"⟩
abbrev cX9_holds : ByteArray := prog_1_method_14_code
def yX9_holds : MethodName := ⟨RX9, "holds", "(I)I"⟩
abbrev cX9_grown : ByteArray := prog_1_method_15_code
def yX9_grown : MethodName := ⟨RX9, "grown", "(I)I"⟩
abbrev cX9_split : ByteArray := prog_1_method_16_code
def yX9_split : MethodName := ⟨RX9, "split", "(IIIII)I"⟩
abbrev cX9_ways : ByteArray := prog_1_method_17_code
def yX9_ways : MethodName := ⟨RX9, "ways", "(II)J"⟩
abbrev cX9_friendly : ByteArray := prog_1_method_18_code
def yX9_friendly : MethodName := ⟨RX9, "friendly", "(III)I"⟩
abbrev cX9_loss : ByteArray := prog_1_method_19_code
def yX9_loss : MethodName := ⟨RX9, "loss", "(IIIII)J"⟩
abbrev cX9_patience : ByteArray := prog_1_method_20_code
def yX9_patience : MethodName := ⟨RX9, "patience", "(III)I"⟩
abbrev cX9_helper : ByteArray := prog_1_method_21_code
def yX9_helper : MethodName := ⟨RX9, "helper", "(I)I"⟩
abbrev cX9_days : ByteArray := prog_1_method_22_code
def yX9_days : MethodName := ⟨RX9, "days", "(II)I"⟩
abbrev cX9_week : ByteArray := prog_1_method_23_code
def yX9_week : MethodName := ⟨RX9, "week", "(II)I"⟩
abbrev cX9_sheet : ByteArray := prog_1_method_24_code
def yX9_sheet : MethodName := ⟨RX9, "sheet", "(III)I"⟩
abbrev cX9_lose : ByteArray := prog_1_method_25_code
def yX9_lose : MethodName := ⟨RX9, "lose", "(I)I"⟩
abbrev cX9_put : ByteArray := prog_1_method_26_code
def yX9_put : MethodName := ⟨RX9, "put", "(III)I"⟩
abbrev cX9_cell : ByteArray := prog_1_method_27_code
def yX9_cell : MethodName := ⟨RX9, "cell", "(III)J"⟩
abbrev cX9_copy : ByteArray := prog_1_method_28_code
def yX9_copy : MethodName := ⟨RX9, "copy", "(IIIII)I"⟩
abbrev cX9_tell : ByteArray := prog_1_method_29_code
def yX9_tell : MethodName := ⟨RX9, "tell", "(I)I"⟩
abbrev cX9_tag : ByteArray := prog_1_method_30_code
def yX9_tag : MethodName := ⟨RX9, "tag", "(I)I"⟩
abbrev cX9_as : ByteArray := prog_1_method_31_code
def yX9_as : MethodName := ⟨RX9, "as", "(II)I"⟩
abbrev cX9_trace : ByteArray := prog_1_method_32_code
def yX9_trace : MethodName := ⟨RX9, "trace", "()I"⟩
abbrev cX9_fault : ByteArray := prog_1_method_33_code
def yX9_fault : MethodName := ⟨RX9, "fault", "()I"⟩
abbrev cX9_many : ByteArray := prog_1_method_34_code
def yX9_many : MethodName := ⟨RX9, "many", "(I)I"⟩
abbrev cX9_isWithin : ByteArray := prog_1_method_35_code
def yX9_isWithin : MethodName := ⟨RX9, "isWithin", "(III)Z"⟩
abbrev cX9_isSheet : ByteArray := prog_1_method_36_code
def yX9_isSheet : MethodName := ⟨RX9, "isSheet", "(I)Z"⟩
abbrev cX9_isSort : ByteArray := prog_1_method_37_code
def yX9_isSort : MethodName := ⟨RX9, "isSort", "(I)Z"⟩
abbrev cX9_isKind : ByteArray := prog_1_method_38_code
def yX9_isKind : MethodName := ⟨RX9, "isKind", "(I)Z"⟩
abbrev cX9_isAge : ByteArray := prog_1_method_39_code
def yX9_isAge : MethodName := ⟨RX9, "isAge", "(I)Z"⟩
abbrev cX9_isMinute : ByteArray := prog_1_method_40_code
def yX9_isMinute : MethodName := ⟨RX9, "isMinute", "(I)Z"⟩
abbrev cX9_isCorner : ByteArray := prog_1_method_41_code
def yX9_isCorner : MethodName := ⟨RX9, "isCorner", "(I)Z"⟩
abbrev cX9_isChild : ByteArray := prog_1_method_42_code
def yX9_isChild : MethodName := ⟨RX9, "isChild", "(I)Z"⟩
abbrev cX9_isSet : ByteArray := prog_1_method_43_code
def yX9_isSet : MethodName := ⟨RX9, "isSet", "(I)Z"⟩
abbrev cX9_isRopeFor : ByteArray := prog_1_method_44_code
def yX9_isRopeFor : MethodName := ⟨RX9, "isRopeFor", "(II)Z"⟩
abbrev cX9_isWait : ByteArray := prog_1_method_45_code
def yX9_isWait : MethodName := ⟨RX9, "isWait", "(III)Z"⟩
abbrev cX9_fail : ByteArray := prog_1_method_46_code
def yX9_fail : MethodName := ⟨RX9, "fail", "(I)I"⟩
abbrev cX9_moveToSpareTown : ByteArray := prog_1_method_47_code
def yX9_moveToSpareTown : MethodName := ⟨RX9, "moveToSpareTown", "()V"⟩
abbrev cX9_hasWalked : ByteArray := prog_1_method_48_code
def yX9_hasWalked : MethodName := ⟨RX9, "hasWalked", "(IIILWalkingBus$Sheet;II)Z"⟩
abbrev cX9_startRefusal : ByteArray := prog_1_method_49_code
def yX9_startRefusal : MethodName := ⟨RX9, "startRefusal", "(IIII)I"⟩
abbrev cX9_grownFor : ByteArray := prog_1_method_50_code
def yX9_grownFor : MethodName := ⟨RX9, "grownFor", "(I)I"⟩
abbrev cX9_findSplit : ByteArray := prog_1_method_51_code
def yX9_findSplit : MethodName := ⟨RX9, "findSplit", "(IIII)Z"⟩
abbrev cX9_partOfShare : ByteArray := prog_1_method_52_code
def yX9_partOfShare : MethodName := ⟨RX9, "partOfShare", "(JJI)J"⟩
abbrev cX9_commonDivisor : ByteArray := prog_1_method_53_code
def yX9_commonDivisor : MethodName := ⟨RX9, "commonDivisor", "(JJ)J"⟩
abbrev cX9_weightSum : ByteArray := prog_1_method_54_code
def yX9_weightSum : MethodName := ⟨RX9, "weightSum", "(I)J"⟩
abbrev cX9_lossSum : ByteArray := prog_1_method_55_code
def yX9_lossSum : MethodName := ⟨RX9, "lossSum", "(IIII)J"⟩
abbrev cX9_leaveTrace : ByteArray := prog_1_method_56_code
def yX9_leaveTrace : MethodName := ⟨RX9, "leaveTrace", "(I)V"⟩
abbrev cX9_tellChild : ByteArray := prog_1_method_57_code
def yX9_tellChild : MethodName := ⟨RX9, "tellChild", "(LWalkingBus$Child;)I"⟩
abbrev cX9_tellSlow : ByteArray := prog_1_method_58_code
def yX9_tellSlow : MethodName := ⟨RX9, "tellSlow", "(LWalkingBus$Child;)I"⟩
abbrev cX9_tellHeld : ByteArray := prog_1_method_59_code
def yX9_tellHeld : MethodName := ⟨RX9, "tellHeld", "(LWalkingBus$Child;)I"⟩
abbrev cX9_pairs : ByteArray := prog_1_method_60_code
def yX9_pairs : MethodName := ⟨RX9, "pairs", "(I)I"⟩
def RX10 : String := "WalkingBusModel"
def TX10 : u_T := fun k => match k with
  | 0 => ("WalkingBusModel", "fault", "I", false)
  | 1 => ("WalkingBusModel", "trace", "I", false)
  | 2 => ("WalkingBusModel", "sorts", "[I", true)
  | 3 => ("WalkingBusModel", "sheetLong", "[I", true)
  | 4 => ("WalkingBusModel", "cells", "[I", true)
  | 5 => ("WalkingBusModel", "corners", "I", false)
  | 6 => ("WalkingBusModel", "roads", "I", false)
  | 7 => ("WalkingBusModel", "school", "I", false)
  | 8 => ("WalkingBusModel", "roadA", "[I", true)
  | 9 => ("WalkingBusModel", "roadB", "[I", true)
  | 10 => ("WalkingBusModel", "roadLong", "[I", true)
  | 11 => ("WalkingBusModel", "roadOdds", "[I", true)
  | 12 => ("WalkingBusModel", "roadShut", "[I", true)
  | 13 => ("WalkingBusModel", "far", "[I", true)
  | 14 => ("WalkingBusModel", "readCorners", "I", false)
  | 15 => ("WalkingBusModel", "readRoads", "I", false)
  | 16 => ("WalkingBusModel", "readSchool", "I", false)
  | 17 => ("WalkingBusModel", "read", "[I", true)
  | 18 => ("WalkingBusModel", "at", "I", false)
  | 19 => ("WalkingBusModel", "children", "I", false)
  | 20 => ("WalkingBusModel", "childKind", "[I", true)
  | 21 => ("WalkingBusModel", "childCorner", "[I", true)
  | 22 => ("WalkingBusModel", "childAge", "[I", true)
  | 23 => ("WalkingBusModel", "childReady", "[I", true)
  | 24 => ("WalkingBusModel", "ties", "[I", true)
  | 25 => ("WalkingBusModel", "chance", "[J", true)
  | 26 => ("WalkingBusModel", "gates", "[I", true)
  | 27 => ("WalkingBusModel", "gateCount", "I", false)
  | 28 => ("WalkingBusModel", "most", "I", false)
  | 29 => ("WalkingBusModel", "bestStart", "I", false)
  | 30 => ("WalkingBusModel", "bestGates", "[I", true)
  | 31 => ("WalkingBusModel", "setGates", "[I", true)
  | 32 => ("WalkingBusModel", "holding", "I", false)
  | 33 => ("WalkingBusModel", "loop", "[I", true)
  | 34 => ("WalkingBusModel", "bestLoop", "[I", true)
  | 35 => ("WalkingBusModel", "bestRows", "I", false)
  | 36 => ("WalkingBusModel", "ropes", "J", false)
  | 37 => ("WalkingBusModel", "helpers", "I", false)
  | 38 => ("WalkingBusModel", "helperDays", "[I", true)
  | 39 => ("WalkingBusModel", "weekSet", "[I", true)
  | 40 => ("WalkingBusModel", "bestWeek", "[I", true)
  | _ => ("WalkingBusModel", "bestMost", "I", false)
def tyX10 : Nat → FieldType := fun k => match k with
  | 0 => .int
  | 1 => .int
  | 2 => .array .int
  | 3 => .array .int
  | 4 => .array .int
  | 5 => .int
  | 6 => .int
  | 7 => .int
  | 8 => .array .int
  | 9 => .array .int
  | 10 => .array .int
  | 11 => .array .int
  | 12 => .array .int
  | 13 => .array .int
  | 14 => .int
  | 15 => .int
  | 16 => .int
  | 17 => .array .int
  | 18 => .int
  | 19 => .int
  | 20 => .array .int
  | 21 => .array .int
  | 22 => .array .int
  | 23 => .array .int
  | 24 => .array .int
  | 25 => .array .long
  | 26 => .array .int
  | 27 => .int
  | 28 => .int
  | 29 => .int
  | 30 => .array .int
  | 31 => .array .int
  | 32 => .int
  | 33 => .array .int
  | 34 => .array .int
  | 35 => .int
  | 36 => .long
  | 37 => .int
  | 38 => .array .int
  | 39 => .array .int
  | 40 => .array .int
  | _ => .int
abbrev wsX100 : List Cond := u_ws RX10 TX10 42
theorem nmX10 : ∀ a, a < 42 → ∀ b, b < 42 → a ≠ b → (TX10 a).2.1 ≠ (TX10 b).2.1 := by decide +kernel
theorem tyX10_ok : ∀ k, k < 42 → parseFieldDescriptor (TX10 k).2.2.1 = some (tyX10 k) := by decide +kernel
abbrev cX10_init : ByteArray := prog_12_method_1_code
def yX10_init : MethodName := ⟨RX10, "<init>", "()V"⟩
abbrev cX10_fails : ByteArray := prog_12_method_3_code
def yX10_fails : MethodName := ⟨RX10, "fails", "(I)I"⟩
abbrev cX10_lost : ByteArray := prog_12_method_4_code
def yX10_lost : MethodName := ⟨RX10, "lost", "(I)J"⟩
abbrev cX10_within : ByteArray := prog_12_method_5_code
def yX10_within : MethodName := ⟨RX10, "within", "(III)Z"⟩
abbrev cX10_has : ByteArray := prog_12_method_6_code
def yX10_has : MethodName := ⟨RX10, "has", "(II)Z"⟩
abbrev cX10_bitsOf : ByteArray := prog_12_method_7_code
def yX10_bitsOf : MethodName := ⟨RX10, "bitsOf", "(I)I"⟩
abbrev cX10_isSheet : ByteArray := prog_12_method_8_code
def yX10_isSheet : MethodName := ⟨RX10, "isSheet", "(I)Z"⟩
abbrev cX10_isSort : ByteArray := prog_12_method_9_code
def yX10_isSort : MethodName := ⟨RX10, "isSort", "(I)Z"⟩
abbrev cX10_against : ByteArray := prog_12_method_10_code
def yX10_against : MethodName := ⟨RX10, "against", "(IIII)I"⟩
abbrev cX10_isCorner : ByteArray := prog_12_method_11_code
def yX10_isCorner : MethodName := ⟨RX10, "isCorner", "(I)Z"⟩
abbrev cX10_streets : ByteArray := prog_12_method_12_code
def yX10_streets : MethodName := ⟨RX10, "streets", "(IIII)I"⟩
abbrev cX10_digitAt : ByteArray := prog_12_method_13_code
def yX10_digitAt : MethodName := ⟨RX10, "digitAt", "(II)I"⟩
abbrev cX10_readStreets : ByteArray := prog_12_method_14_code
def yX10_readStreets : MethodName := ⟨RX10, "readStreets", "(II)I"⟩
abbrev cX10_takes : ByteArray := prog_12_method_15_code
def yX10_takes : MethodName := ⟨RX10, "takes", "(IIII)Z"⟩
abbrev cX10_readRoad : ByteArray := prog_12_method_16_code
def yX10_readRoad : MethodName := ⟨RX10, "readRoad", "(I)Z"⟩
abbrev cX10_costOf : ByteArray := prog_12_method_17_code
def yX10_costOf : MethodName := ⟨RX10, "costOf", "(I)I"⟩
abbrev cX10_layFar : ByteArray := prog_12_method_18_code
def yX10_layFar : MethodName := ⟨RX10, "layFar", "()V"⟩
abbrev cX10_ofRoad : ByteArray := prog_12_method_19_code
def yX10_ofRoad : MethodName := ⟨RX10, "ofRoad", "(II)I"⟩
abbrev cX10_nextRoad : ByteArray := prog_12_method_20_code
def yX10_nextRoad : MethodName := ⟨RX10, "nextRoad", "(II)I"⟩
abbrev cX10_isWay : ByteArray := prog_12_method_21_code
def yX10_isWay : MethodName := ⟨RX10, "isWay", "(II)Z"⟩
abbrev cX10_roadsOf : ByteArray := prog_12_method_22_code
def yX10_roadsOf : MethodName := ⟨RX10, "roadsOf", "(II)I"⟩
abbrev cX10_way : ByteArray := prog_12_method_23_code
def yX10_way : MethodName := ⟨RX10, "way", "(III)I"⟩
abbrev cX10_along : ByteArray := prog_12_method_24_code
def yX10_along : MethodName := ⟨RX10, "along", "(III)I"⟩
abbrev cX10_isChild : ByteArray := prog_12_method_25_code
def yX10_isChild : MethodName := ⟨RX10, "isChild", "(I)Z"⟩
abbrev cX10_child : ByteArray := prog_12_method_26_code
def yX10_child : MethodName := ⟨RX10, "child", "(IIII)I"⟩
abbrev cX10_paceOf : ByteArray := prog_12_method_27_code
def yX10_paceOf : MethodName := ⟨RX10, "paceOf", "(I)I"⟩
abbrev cX10_tiedTo : ByteArray := prog_12_method_28_code
def yX10_tiedTo : MethodName := ⟨RX10, "tiedTo", "(II)I"⟩
abbrev cX10_ofChild : ByteArray := prog_12_method_29_code
def yX10_ofChild : MethodName := ⟨RX10, "ofChild", "(II)I"⟩
abbrev cX10_ready : ByteArray := prog_12_method_30_code
def yX10_ready : MethodName := ⟨RX10, "ready", "(II)I"⟩
abbrev cX10_tie : ByteArray := prog_12_method_31_code
def yX10_tie : MethodName := ⟨RX10, "tie", "(III)I"⟩
abbrev cX10_isSet : ByteArray := prog_12_method_32_code
def yX10_isSet : MethodName := ⟨RX10, "isSet", "(I)Z"⟩
abbrev cX10_cornersOf : ByteArray := prog_12_method_33_code
def yX10_cornersOf : MethodName := ⟨RX10, "cornersOf", "(I)I"⟩
abbrev cX10_crossingsOf : ByteArray := prog_12_method_34_code
def yX10_crossingsOf : MethodName := ⟨RX10, "crossingsOf", "(I)I"⟩
abbrev cX10_moveOn : ByteArray := prog_12_method_35_code
def yX10_moveOn : MethodName := ⟨RX10, "moveOn", "(I)V"⟩
abbrev cX10_cross : ByteArray := prog_12_method_36_code
def yX10_cross : MethodName := ⟨RX10, "cross", "(II)V"⟩
abbrev cX10_waitTill : ByteArray := prog_12_method_37_code
def yX10_waitTill : MethodName := ⟨RX10, "waitTill", "(I)V"⟩
abbrev cX10_goWay : ByteArray := prog_12_method_38_code
def yX10_goWay : MethodName := ⟨RX10, "goWay", "(III)V"⟩
abbrev cX10_goLine : ByteArray := prog_12_method_39_code
def yX10_goLine : MethodName := ⟨RX10, "goLine", "(IIII)V"⟩
abbrev cX10_tens : ByteArray := prog_12_method_40_code
def yX10_tens : MethodName := ⟨RX10, "tens", "(I)J"⟩
abbrev cX10_common : ByteArray := prog_12_method_41_code
def yX10_common : MethodName := ⟨RX10, "common", "(JJ)J"⟩
abbrev cX10_part : ByteArray := prog_12_method_42_code
def yX10_part : MethodName := ⟨RX10, "part", "(JJI)J"⟩
abbrev cX10_whyNotLine : ByteArray := prog_12_method_43_code
def yX10_whyNotLine : MethodName := ⟨RX10, "whyNotLine", "(IIIIII)I"⟩
abbrev cX10_late : ByteArray := prog_12_method_44_code
def yX10_late : MethodName := ⟨RX10, "late", "(IIIIIIIII)J"⟩
abbrev cX10_mean : ByteArray := prog_12_method_45_code
def yX10_mean : MethodName := ⟨RX10, "mean", "(IIIIIIII)J"⟩
abbrev cX10_startBy : ByteArray := prog_12_method_46_code
def yX10_startBy : MethodName := ⟨RX10, "startBy", "(IIII)I"⟩
abbrev cX10_layOrder : ByteArray := prog_12_method_47_code
def yX10_layOrder : MethodName := ⟨RX10, "layOrder", "(I)Z"⟩
abbrev cX10_laySetGates : ByteArray := prog_12_method_48_code
def yX10_laySetGates : MethodName := ⟨RX10, "laySetGates", "(I)I"⟩
abbrev cX10_mayStart : ByteArray := prog_12_method_49_code
def yX10_mayStart : MethodName := ⟨RX10, "mayStart", "(II)Z"⟩
abbrev cX10_findStart : ByteArray := prog_12_method_50_code
def yX10_findStart : MethodName := ⟨RX10, "findStart", "(IIII)V"⟩
abbrev cX10_isAsked : ByteArray := prog_12_method_51_code
def yX10_isAsked : MethodName := ⟨RX10, "isAsked", "(III)Z"⟩
abbrev cX10_start : ByteArray := prog_12_method_52_code
def yX10_start : MethodName := ⟨RX10, "start", "(IIII)I"⟩
abbrev cX10_gate : ByteArray := prog_12_method_53_code
def yX10_gate : MethodName := ⟨RX10, "gate", "(IIIII)I"⟩
abbrev cX10_holds : ByteArray := prog_12_method_54_code
def yX10_holds : MethodName := ⟨RX10, "holds", "(I)I"⟩
abbrev cX10_grownOf : ByteArray := prog_12_method_55_code
def yX10_grownOf : MethodName := ⟨RX10, "grownOf", "(I)I"⟩
abbrev cX10_grown : ByteArray := prog_12_method_56_code
def yX10_grown : MethodName := ⟨RX10, "grown", "(I)I"⟩
abbrev cX10_startOf : ByteArray := prog_12_method_57_code
def yX10_startOf : MethodName := ⟨RX10, "startOf", "(IIII)I"⟩
abbrev cX10_split : ByteArray := prog_12_method_58_code
def yX10_split : MethodName := ⟨RX10, "split", "(IIIII)I"⟩
abbrev cX10_mayBe : ByteArray := prog_12_method_59_code
def yX10_mayBe : MethodName := ⟨RX10, "mayBe", "(IIIZ)Z"⟩
abbrev cX10_friendRows : ByteArray := prog_12_method_60_code
def yX10_friendRows : MethodName := ⟨RX10, "friendRows", "(I)I"⟩
abbrev cX10_layRopes : ByteArray := prog_12_method_61_code
def yX10_layRopes : MethodName := ⟨RX10, "layRopes", "(II)V"⟩
abbrev cX10_isRope : ByteArray := prog_12_method_62_code
def yX10_isRope : MethodName := ⟨RX10, "isRope", "(II)Z"⟩
abbrev cX10_ways : ByteArray := prog_12_method_63_code
def yX10_ways : MethodName := ⟨RX10, "ways", "(II)J"⟩
abbrev cX10_friendly : ByteArray := prog_12_method_64_code
def yX10_friendly : MethodName := ⟨RX10, "friendly", "(III)I"⟩
abbrev cX10_isLate : ByteArray := prog_12_method_65_code
def yX10_isLate : MethodName := ⟨RX10, "isLate", "(III)Z"⟩
abbrev cX10_lossOf : ByteArray := prog_12_method_66_code
def yX10_lossOf : MethodName := ⟨RX10, "lossOf", "(IIII)I"⟩
abbrev cX10_loss : ByteArray := prog_12_method_67_code
def yX10_loss : MethodName := ⟨RX10, "loss", "(IIIII)J"⟩
abbrev cX10_patience : ByteArray := prog_12_method_68_code
def yX10_patience : MethodName := ⟨RX10, "patience", "(III)I"⟩
abbrev cX10_helper : ByteArray := prog_12_method_69_code
def yX10_helper : MethodName := ⟨RX10, "helper", "(I)I"⟩
abbrev cX10_days : ByteArray := prog_12_method_70_code
def yX10_days : MethodName := ⟨RX10, "days", "(II)I"⟩
abbrev cX10_mayHelp : ByteArray := prog_12_method_71_code
def yX10_mayHelp : MethodName := ⟨RX10, "mayHelp", "(III)Z"⟩
abbrev cX10_mostDays : ByteArray := prog_12_method_72_code
def yX10_mostDays : MethodName := ⟨RX10, "mostDays", "(I)I"⟩
abbrev cX10_layWeek : ByteArray := prog_12_method_73_code
def yX10_layWeek : MethodName := ⟨RX10, "layWeek", "(I)V"⟩
abbrev cX10_week : ByteArray := prog_12_method_74_code
def yX10_week : MethodName := ⟨RX10, "week", "(II)I"⟩
abbrev cX10_sheet : ByteArray := prog_12_method_75_code
def yX10_sheet : MethodName := ⟨RX10, "sheet", "(III)I"⟩
abbrev cX10_lose : ByteArray := prog_12_method_76_code
def yX10_lose : MethodName := ⟨RX10, "lose", "(I)I"⟩
abbrev cX10_put : ByteArray := prog_12_method_77_code
def yX10_put : MethodName := ⟨RX10, "put", "(III)I"⟩
abbrev cX10_cell : ByteArray := prog_12_method_78_code
def yX10_cell : MethodName := ⟨RX10, "cell", "(III)J"⟩
abbrev cX10_copy : ByteArray := prog_12_method_79_code
def yX10_copy : MethodName := ⟨RX10, "copy", "(IIIII)I"⟩
abbrev cX10_begins : ByteArray := prog_12_method_80_code
def yX10_begins : MethodName := ⟨RX10, "begins", "(I)V"⟩
abbrev cX10_tell : ByteArray := prog_12_method_81_code
def yX10_tell : MethodName := ⟨RX10, "tell", "(I)I"⟩
abbrev cX10_tag : ByteArray := prog_12_method_82_code
def yX10_tag : MethodName := ⟨RX10, "tag", "(I)I"⟩
abbrev cX10_as : ByteArray := prog_12_method_83_code
def yX10_as : MethodName := ⟨RX10, "as", "(II)I"⟩
abbrev cX10_trace : ByteArray := prog_12_method_84_code
def yX10_trace : MethodName := ⟨RX10, "trace", "()I"⟩
abbrev cX10_fault : ByteArray := prog_12_method_85_code
def yX10_fault : MethodName := ⟨RX10, "fault", "()I"⟩
abbrev cX10_pairsOf : ByteArray := prog_12_method_86_code
def yX10_pairsOf : MethodName := ⟨RX10, "pairsOf", "(I)I"⟩
abbrev cX10_crossingRoads : ByteArray := prog_12_method_87_code
def yX10_crossingRoads : MethodName := ⟨RX10, "crossingRoads", "()I"⟩
abbrev cX10_many : ByteArray := prog_12_method_88_code
def yX10_many : MethodName := ⟨RX10, "many", "(I)I"⟩
def RJ6 : String := "java/lang/Integer"
def TJ6 : u_T := fun k => match k with
  | _ => ("", "", "", false)
def tyJ6 : Nat → FieldType := fun k => match k with
  | _ => .int
abbrev wsJ60 : List Cond := u_ws RJ6 TJ6 0
theorem nmJ6 : ∀ a, a < 0 → ∀ b, b < 0 → a ≠ b → (TJ6 a).2.1 ≠ (TJ6 b).2.1 := by decide +kernel
theorem tyJ6_ok : ∀ k, k < 0 → parseFieldDescriptor (TJ6 k).2.2.1 = some (tyJ6 k) := by decide +kernel
abbrev cJ6_bitCount_0f7a4 : ByteArray := prog_13_method_49_code
def yJ6_bitCount_0f7a4 : MethodName := ⟨RJ6, "bitCount", "(I)I"⟩
def RJ9 : String := "java/lang/Math"
def TJ9 : u_T := fun k => match k with
  | _ => ("", "", "", false)
def tyJ9 : Nat → FieldType := fun k => match k with
  | _ => .int
abbrev wsJ90 : List Cond := u_ws RJ9 TJ9 0
theorem nmJ9 : ∀ a, a < 0 → ∀ b, b < 0 → a ≠ b → (TJ9 a).2.1 ≠ (TJ9 b).2.1 := by decide +kernel
theorem tyJ9_ok : ∀ k, k < 0 → parseFieldDescriptor (TJ9 k).2.2.1 = some (tyJ9 k) := by decide +kernel
abbrev cJ9_max_7cf53 : ByteArray := prog_14_method_65_code
def yJ9_max_7cf53 : MethodName := ⟨RJ9, "max", "(II)I"⟩
abbrev cJ9_min_7cf53 : ByteArray := prog_14_method_69_code
def yJ9_min_7cf53 : MethodName := ⟨RJ9, "min", "(II)I"⟩
def RJ10 : String := "java/lang/System"
def TJ10 : u_T := fun k => match k with
  | _ => ("", "", "", false)
def tyJ10 : Nat → FieldType := fun k => match k with
  | _ => .int
abbrev wsJ100 : List Cond := u_ws RJ10 TJ10 0
theorem nmJ10 : ∀ a, a < 0 → ∀ b, b < 0 → a ≠ b → (TJ10 a).2.1 ≠ (TJ10 b).2.1 := by decide +kernel
theorem tyJ10_ok : ∀ k, k < 0 → parseFieldDescriptor (TJ10 k).2.2.1 = some (tyJ10 k) := by decide +kernel
def RL : String := "WalkingBusLaw"
abbrev cL_law : ByteArray := code
def yL_law : MethodName := ⟨RL, "law", "([I)Z"⟩
abbrev vwCl : List vw_C := [(RX0, TX0, 6), (RX1, TX1, 4), (RX2, TX2, 3), (RX3, TX3, 4), (RX4, TX4, 3), (RX5, TX5, 11), (RX6, TX6, 4), (RX7, TX7, 10), (RX8, TX8, 6), (RX9, TX9, 17), (RX10, TX10, 42)]
/-- the words of the tables that hold at every later state -/
def gW : List Cond := lw_tbl.filter goodWord
theorem gW_in : ∀ w ∈ gW, w ∈ lw_tbl := fun w h => (List.mem_filter.mp h).1
theorem gW_good : ∀ w ∈ gW, (w.onTables && w.keeps) = true ∨ ∃ ty, w = .arrayClass ty := fun w h => good_of_word (List.mem_filter.mp h).2
theorem gw_in {w : Cond} (i : Nat) (h : lw_tbl[i]? = some w) (hg : goodWord w = true) : w ∈ gW := List.mem_filter.mpr ⟨List.mem_of_getElem? h, hg⟩
theorem gw_all {ws : List Cond} (ps : List Nat) (hp : ws = ps.filterMap (fun i => lw_tbl[i]?)) (h : ws.all goodWord = true) : ∀ w ∈ ws, w ∈ gW := by
  intro w hw
  have hg := List.all_eq_true.mp h w hw
  rw [hp] at hw
  obtain ⟨i, -, hi⟩ := List.mem_filterMap.mp hw
  exact gw_in i hi hg
set_option maxRecDepth 20000 in
theorem inX0 : ∀ w ∈ wsX00, w ∈ gW := gw_all [358, 360, 362, 364, 366, 368] (by decide +kernel) (by decide +kernel)
set_option maxRecDepth 20000 in
theorem inX1 : ∀ w ∈ wsX10, w ∈ gW := gw_all [200, 202, 204, 206] (by decide +kernel) (by decide +kernel)
set_option maxRecDepth 20000 in
theorem inX2 : ∀ w ∈ wsX20, w ∈ gW := gw_all [237, 239, 241] (by decide +kernel) (by decide +kernel)
set_option maxRecDepth 20000 in
theorem inX3 : ∀ w ∈ wsX30, w ∈ gW := gw_all [221, 223, 225, 227] (by decide +kernel) (by decide +kernel)
set_option maxRecDepth 20000 in
theorem inX4 : ∀ w ∈ wsX40, w ∈ gW := gw_all [116, 118, 120] (by decide +kernel) (by decide +kernel)
set_option maxRecDepth 20000 in
theorem inX5 : ∀ w ∈ wsX50, w ∈ gW := gw_all [265, 267, 269, 271, 273, 275, 277, 279, 281, 283, 285] (by decide +kernel) (by decide +kernel)
set_option maxRecDepth 20000 in
theorem inX6 : ∀ w ∈ wsX60, w ∈ gW := gw_all [327, 329, 331, 333] (by decide +kernel) (by decide +kernel)
set_option maxRecDepth 20000 in
theorem inX7 : ∀ w ∈ wsX70, w ∈ gW := gw_all [156, 158, 160, 162, 164, 166, 168, 170, 172, 174] (by decide +kernel) (by decide +kernel)
set_option maxRecDepth 20000 in
theorem inX8 : ∀ w ∈ wsX80, w ∈ gW := gw_all [302, 304, 306, 308, 310, 312] (by decide +kernel) (by decide +kernel)
set_option maxRecDepth 20000 in
theorem inX9 : ∀ w ∈ wsX90, w ∈ gW := gw_all [388, 390, 392, 394, 396, 398, 400, 402, 404, 406, 408, 410, 412, 414, 416, 418, 420] (by decide +kernel) (by decide +kernel)
set_option maxRecDepth 20000 in
theorem inX10 : ∀ w ∈ wsX100, w ∈ gW := gw_all [996, 998, 1000, 1002, 1004, 1006, 1008, 1010, 1012, 1014, 1016, 1018, 1020, 1022, 1024, 1026, 1028, 1030, 1032, 1034, 1036, 1038, 1040, 1042, 1044, 1046, 1048, 1050, 1052, 1054, 1056, 1058, 1060, 1062, 1064, 1066, 1068, 1070, 1072, 1074, 1076, 1078] (by decide +kernel) (by decide +kernel)
/-- links between nest mates -/
def nestF : List (String × Nat × String × String × String × String) := [(RX4, 61, "WalkingBus$Streets", "corners", "I", "WalkingBus"), (RX9, 348, "WalkingBus$Streets", "corners", "I", "WalkingBus"), (RX9, 110, "WalkingBus$Streets", "roads", "I", "WalkingBus"), (RX2, 50, "WalkingBus$Streets", "school", "I", "WalkingBus"), (RX4, 75, "WalkingBus$Streets", "school", "I", "WalkingBus"), (RX9, 113, "WalkingBus$Streets", "from", "[I", "WalkingBus"), (RX9, 116, "WalkingBus$Streets", "to", "[I", "WalkingBus"), (RX9, 119, "WalkingBus$Streets", "length", "[I", "WalkingBus"), (RX2, 79, "WalkingBus$Streets", "length", "[I", "WalkingBus"), (RX9, 122, "WalkingBus$Streets", "odds", "[I", "WalkingBus"), (RX2, 89, "WalkingBus$Streets", "odds", "[I", "WalkingBus"), (RX9, 125, "WalkingBus$Streets", "shut", "[I", "WalkingBus"), (RX2, 92, "WalkingBus$Streets", "shut", "[I", "WalkingBus"), (RX2, 75, "WalkingBus$Streets", "firstRoad", "[[I", "WalkingBus"), (RX2, 29, "WalkingBus$Gates", "count", "I", "WalkingBus"), (RX9, 244, "WalkingBus$Gates", "count", "I", "WalkingBus"), (RX2, 47, "WalkingBus$Gates", "order", "[I", "WalkingBus"), (RX2, 61, "WalkingBus$Gates", "readyAt", "[I", "WalkingBus"), (RX2, 67, "WalkingBus$Gates", "pace", "[I", "WalkingBus"), (RX2, 133, "WalkingBus$Minutes", "cases", "J", "WalkingBus"), (RX9, 220, "WalkingBus$Minutes", "cases", "J", "WalkingBus"), (RX9, 240, "WalkingBus$Line", "gates", "LWalkingBus$Gates;", "WalkingBus"), (RX9, 210, "WalkingBus$Line", "minutes", "LWalkingBus$Minutes;", "WalkingBus"), (RX9, 249, "WalkingBus$Line", "bestOrder", "[I", "WalkingBus"), (RX9, 280, "WalkingBus$Rope", "bestLoops", "[I", "WalkingBus"), (RX9, 277, "WalkingBus$Rope", "loops", "I", "WalkingBus"), (RX9, 271, "WalkingBus$Rope", "found", "I", "WalkingBus"), (RX9, 274, "WalkingBus$Rope", "mostFriends", "I", "WalkingBus"), (RX9, 300, "WalkingBus$Week", "sets", "[I", "WalkingBus"), (RX9, 297, "WalkingBus$Week", "mostDays", "I", "WalkingBus"), (RX9, 309, "WalkingBus$Sheet", "isThere", "Z", "WalkingBus"), (RX9, 322, "WalkingBus$Sheet", "sort", "I", "WalkingBus"), (RX9, 325, "WalkingBus$Sheet", "cells", "[I", "WalkingBus"), (RX9, 165, "WalkingBus$Child", "kind", "I", "WalkingBus"), (RX1, 25, "WalkingBus$Child", "corner", "I", "WalkingBus"), (RX9, 168, "WalkingBus$Child", "corner", "I", "WalkingBus"), (RX5, 53, "WalkingBus$Child", "age", "I", "WalkingBus"), (RX9, 171, "WalkingBus$Child", "age", "I", "WalkingBus"), (RX1, 30, "WalkingBus$Child", "readyAt", "I", "WalkingBus"), (RX9, 174, "WalkingBus$Child", "readyAt", "I", "WalkingBus"), (RX5, 47, "WalkingBus$Child", "friends", "I", "WalkingBus"), (RX9, 184, "WalkingBus$Child", "friends", "I", "WalkingBus"), (RX5, 51, "WalkingBus$Child", "quarrels", "I", "WalkingBus"), (RX9, 187, "WalkingBus$Child", "quarrels", "I", "WalkingBus")]
def nestM : List (String × Nat × MethodName × String) := [(RX9, 19, yX4_init, "WalkingBus"), (RX9, 26, yX7_init, "WalkingBus"), (RX9, 46, yX2_init, "WalkingBus"), (RX2, 11, yX1_init, "WalkingBus"), (RX2, 20, yX3_init, "WalkingBus"), (RX9, 53, yX5_init, "WalkingBus"), (RX9, 70, yX8_init, "WalkingBus"), (RX9, 90, yX6_init, "WalkingBus"), (RX9, 91, yX0_init, "WalkingBus"), (RX4, 67, yX9_isWithin, "WalkingBus")]
def cdF (q : String × Nat × String × String × String × String) : Cond := .fieldLinkNest q.1 q.2.1 q.2.2.1 q.2.2.2.1 q.2.2.2.2.1 q.2.2.2.2.2
def cdM (q : String × Nat × MethodName × String) : Cond := .methodLinkNest q.1 q.2.1 q.2.2.1 q.2.2.2
def NW (U : State) : Prop := (∀ q ∈ nestF, va_Nw (cdF q) U) ∧ (∀ q ∈ nestM, va_Nw (cdM q) U)
theorem NW.warm {s U : State} (hW : s.WarmedH U.vm) (h : NW s) : NW U := ⟨fun q hq => va_Nw.warmF hW (h.1 q hq), fun q hq => va_Nw.warmM hW (h.2 q hq)⟩
theorem NW.same {u U : State} (hv : u.vm = U.vm) (h : NW u) : NW U := ⟨fun q hq => va_Nw.same rfl hv (h.1 q hq), fun q hq => va_Nw.same rfl hv (h.2 q hq)⟩
set_option maxRecDepth 20000 in
theorem nestF_in : ∀ q ∈ nestF, cdF q ∈ lw_tbl := by
  have h : nestF.map cdF = ([133, 134, 136, 138, 139, 141, 143, 145, 146, 148, 149, 151, 152, 155, 192, 193, 195, 197, 199, 219, 220, 232, 234, 236, 254, 257, 262, 264, 297, 301, 321, 323, 326, 342, 344, 345, 347, 348, 350, 351, 353, 354, 356, 357] : List Nat).filterMap (fun i => lw_tbl[i]?) := by decide +kernel
  intro q hq
  have h1 : cdF q ∈ nestF.map cdF := List.mem_map_of_mem hq
  rw [h] at h1
  obtain ⟨i, -, hi⟩ := List.mem_filterMap.mp h1
  exact List.mem_of_getElem? hi
set_option maxRecDepth 20000 in
theorem nestM_in : ∀ q ∈ nestM, cdM q ∈ lw_tbl := by
  have h : nestM.map cdM = ([109, 126, 181, 187, 211, 246, 290, 316, 337, 463] : List Nat).filterMap (fun i => lw_tbl[i]?) := by decide +kernel
  intro q hq
  have h1 : cdM q ∈ nestM.map cdM := List.mem_map_of_mem hq
  rw [h] at h1
  obtain ⟨i, -, hi⟩ := List.mem_filterMap.mp h1
  exact List.mem_of_getElem? hi
