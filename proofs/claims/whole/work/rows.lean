section
-- ===== PART A: goes FIRST, ahead of the names: the tables' words, and 'selects' of the private methods out of them =====
/-- a private method of a class that the tables say can be made, by its rows of tables_1 -/
def lw_okq (q : MethodName × Nat) : Prop := (q.1.cls ≠ "java/lang/invoke/MethodHandle" ∧ q.1.cls ≠ "java/lang/invoke/VarHandle") ∧ Cond.instantiable q.1.cls q.2 ∈ tables_1 ∧ Cond.privateMethod q.1 ∈ tables_1 ∧ Cond.instanceMethod q.1 ∈ tables_1
theorem lw_p0 : lw_okq (⟨"FleetController", "findFault", "()I"⟩, 6) := ⟨⟨by decide +kernel, by decide +kernel⟩, List.mem_of_getElem? (i := 17) (by decide +kernel), List.mem_of_getElem? (i := 359) (by decide +kernel), List.mem_of_getElem? (i := 360) (by decide +kernel)⟩
theorem lw_p1 : lw_okq (⟨"FleetController$MapText", "endLine", "()Z"⟩, 6) := ⟨⟨by decide +kernel, by decide +kernel⟩, List.mem_of_getElem? (i := 57) (by decide +kernel), List.mem_of_getElem? (i := 371) (by decide +kernel), List.mem_of_getElem? (i := 372) (by decide +kernel)⟩
theorem lw_p2 : lw_okq (⟨"FleetController$MapText", "widenLine", "()Z"⟩, 6) := ⟨⟨by decide +kernel, by decide +kernel⟩, List.mem_of_getElem? (i := 57) (by decide +kernel), List.mem_of_getElem? (i := 375) (by decide +kernel), List.mem_of_getElem? (i := 376) (by decide +kernel)⟩
theorem lw_p3 : lw_okq (⟨"FleetController$Grid", "findOpenMoves", "()V"⟩, 7) := ⟨⟨by decide +kernel, by decide +kernel⟩, List.mem_of_getElem? (i := 25) (by decide +kernel), List.mem_of_getElem? (i := 396) (by decide +kernel), List.mem_of_getElem? (i := 397) (by decide +kernel)⟩
theorem lw_p4 : lw_okq (⟨"FleetController$Grid", "leadsOn", "(II)Z"⟩, 7) := ⟨⟨by decide +kernel, by decide +kernel⟩, List.mem_of_getElem? (i := 25) (by decide +kernel), List.mem_of_getElem? (i := 403) (by decide +kernel), List.mem_of_getElem? (i := 404) (by decide +kernel)⟩
theorem lw_p5 : lw_okq (⟨"FleetController$Grid", "isJoinedToAll", "(I)Z"⟩, 7) := ⟨⟨by decide +kernel, by decide +kernel⟩, List.mem_of_getElem? (i := 25) (by decide +kernel), List.mem_of_getElem? (i := 431) (by decide +kernel), List.mem_of_getElem? (i := 432) (by decide +kernel)⟩
theorem lw_p6 : lw_okq (⟨"FleetController$Grid", "measureAround", "(II)I"⟩, 7) := ⟨⟨by decide +kernel, by decide +kernel⟩, List.mem_of_getElem? (i := 25) (by decide +kernel), List.mem_of_getElem? (i := 442) (by decide +kernel), List.mem_of_getElem? (i := 443) (by decide +kernel)⟩
theorem lw_p7 : lw_okq (⟨"FleetController", "areShelves", "(III)Z"⟩, 6) := ⟨⟨by decide +kernel, by decide +kernel⟩, List.mem_of_getElem? (i := 17) (by decide +kernel), List.mem_of_getElem? (i := 533) (by decide +kernel), List.mem_of_getElem? (i := 534) (by decide +kernel)⟩
theorem lw_p8 : lw_okq (⟨"FleetController$Orders", "leavePending", "(LFleetController$Task;I)V"⟩, 7) := ⟨⟨by decide +kernel, by decide +kernel⟩, List.mem_of_getElem? (i := 82) (by decide +kernel), List.mem_of_getElem? (i := 565) (by decide +kernel), List.mem_of_getElem? (i := 566) (by decide +kernel)⟩
theorem lw_p9 : lw_okq (⟨"FleetController$Orders", "finishOne", "(LFleetController$Order;I)V"⟩, 7) := ⟨⟨by decide +kernel, by decide +kernel⟩, List.mem_of_getElem? (i := 82) (by decide +kernel), List.mem_of_getElem? (i := 569) (by decide +kernel), List.mem_of_getElem? (i := 570) (by decide +kernel)⟩
theorem lw_p10 : lw_okq (⟨"FleetController", "refusalOfTicks", "(I)I"⟩, 6) := ⟨⟨by decide +kernel, by decide +kernel⟩, List.mem_of_getElem? (i := 17) (by decide +kernel), List.mem_of_getElem? (i := 577) (by decide +kernel), List.mem_of_getElem? (i := 578) (by decide +kernel)⟩
theorem lw_p11 : lw_okq (⟨"FleetController$Fleet", "lookForWork", "(I)V"⟩, 10) := ⟨⟨by decide +kernel, by decide +kernel⟩, List.mem_of_getElem? (i := 187) (by decide +kernel), List.mem_of_getElem? (i := 597) (by decide +kernel), List.mem_of_getElem? (i := 598) (by decide +kernel)⟩
theorem lw_p12 : lw_okq (⟨"FleetController$Fleet", "nearestFit", "(II)I"⟩, 10) := ⟨⟨by decide +kernel, by decide +kernel⟩, List.mem_of_getElem? (i := 187) (by decide +kernel), List.mem_of_getElem? (i := 605) (by decide +kernel), List.mem_of_getElem? (i := 606) (by decide +kernel)⟩
theorem lw_p13 : lw_okq (⟨"FleetController$Fleet", "isFit", "(LFleetController$Task;I)Z"⟩, 10) := ⟨⟨by decide +kernel, by decide +kernel⟩, List.mem_of_getElem? (i := 187) (by decide +kernel), List.mem_of_getElem? (i := 617) (by decide +kernel), List.mem_of_getElem? (i := 618) (by decide +kernel)⟩
theorem lw_p14 : lw_okq (⟨"FleetController$WaySearch", "empty", "(I)V"⟩, 10) := ⟨⟨by decide +kernel, by decide +kernel⟩, List.mem_of_getElem? (i := 227) (by decide +kernel), List.mem_of_getElem? (i := 632) (by decide +kernel), List.mem_of_getElem? (i := 633) (by decide +kernel)⟩
theorem lw_p15 : lw_okq (⟨"FleetController$WaySearch", "add", "(II)V"⟩, 10) := ⟨⟨by decide +kernel, by decide +kernel⟩, List.mem_of_getElem? (i := 227) (by decide +kernel), List.mem_of_getElem? (i := 636) (by decide +kernel), List.mem_of_getElem? (i := 637) (by decide +kernel)⟩
def lw_privs_1 : List (MethodName × Nat) := [(⟨"FleetController", "findFault", "()I"⟩, 6), (⟨"FleetController$MapText", "endLine", "()Z"⟩, 6), (⟨"FleetController$MapText", "widenLine", "()Z"⟩, 6), (⟨"FleetController$Grid", "findOpenMoves", "()V"⟩, 7), (⟨"FleetController$Grid", "leadsOn", "(II)Z"⟩, 7), (⟨"FleetController$Grid", "isJoinedToAll", "(I)Z"⟩, 7), (⟨"FleetController$Grid", "measureAround", "(II)I"⟩, 7), (⟨"FleetController", "areShelves", "(III)Z"⟩, 6), (⟨"FleetController$Orders", "leavePending", "(LFleetController$Task;I)V"⟩, 7), (⟨"FleetController$Orders", "finishOne", "(LFleetController$Order;I)V"⟩, 7), (⟨"FleetController", "refusalOfTicks", "(I)I"⟩, 6), (⟨"FleetController$Fleet", "lookForWork", "(I)V"⟩, 10), (⟨"FleetController$Fleet", "nearestFit", "(II)I"⟩, 10), (⟨"FleetController$Fleet", "isFit", "(LFleetController$Task;I)Z"⟩, 10), (⟨"FleetController$WaySearch", "empty", "(I)V"⟩, 10), (⟨"FleetController$WaySearch", "add", "(II)V"⟩, 10)]
theorem lw_r1 : ∀ q ∈ lw_privs_1, lw_okq q := List.forall_mem_cons.mpr ⟨lw_p0, List.forall_mem_cons.mpr ⟨lw_p1, List.forall_mem_cons.mpr ⟨lw_p2, List.forall_mem_cons.mpr ⟨lw_p3, List.forall_mem_cons.mpr ⟨lw_p4, List.forall_mem_cons.mpr ⟨lw_p5, List.forall_mem_cons.mpr ⟨lw_p6, List.forall_mem_cons.mpr ⟨lw_p7, List.forall_mem_cons.mpr ⟨lw_p8, List.forall_mem_cons.mpr ⟨lw_p9, List.forall_mem_cons.mpr ⟨lw_p10, List.forall_mem_cons.mpr ⟨lw_p11, List.forall_mem_cons.mpr ⟨lw_p12, List.forall_mem_cons.mpr ⟨lw_p13, List.forall_mem_cons.mpr ⟨lw_p14, List.forall_mem_cons.mpr ⟨lw_p15, fun _ h => absurd h List.not_mem_nil⟩⟩⟩⟩⟩⟩⟩⟩⟩⟩⟩⟩⟩⟩⟩⟩
theorem lw_p16 : lw_okq (⟨"FleetController$WaySearch", "reachGoal", "()I"⟩, 10) := ⟨⟨by decide +kernel, by decide +kernel⟩, List.mem_of_getElem? (i := 227) (by decide +kernel), List.mem_of_getElem? (i := 640) (by decide +kernel), List.mem_of_getElem? (i := 641) (by decide +kernel)⟩
theorem lw_p17 : lw_okq (⟨"FleetController$WaySearch", "ticksUntilGoalIsClear", "()I"⟩, 10) := ⟨⟨by decide +kernel, by decide +kernel⟩, List.mem_of_getElem? (i := 227) (by decide +kernel), List.mem_of_getElem? (i := 644) (by decide +kernel), List.mem_of_getElem? (i := 645) (by decide +kernel)⟩
theorem lw_p18 : lw_okq (⟨"FleetController$WaySearch", "holds", "(II)Z"⟩, 10) := ⟨⟨by decide +kernel, by decide +kernel⟩, List.mem_of_getElem? (i := 227) (by decide +kernel), List.mem_of_getElem? (i := 653) (by decide +kernel), List.mem_of_getElem? (i := 654) (by decide +kernel)⟩
theorem lw_p19 : lw_okq (⟨"FleetController$WaySearch", "lookAtOthers", "(I)V"⟩, 10) := ⟨⟨by decide +kernel, by decide +kernel⟩, List.mem_of_getElem? (i := 227) (by decide +kernel), List.mem_of_getElem? (i := 657) (by decide +kernel), List.mem_of_getElem? (i := 658) (by decide +kernel)⟩
theorem lw_p20 : lw_okq (⟨"FleetController$WaySearch", "avoid", "(II)V"⟩, 10) := ⟨⟨by decide +kernel, by decide +kernel⟩, List.mem_of_getElem? (i := 227) (by decide +kernel), List.mem_of_getElem? (i := 664) (by decide +kernel), List.mem_of_getElem? (i := 665) (by decide +kernel)⟩
theorem lw_p21 : lw_okq (⟨"FleetController$WaySearch", "spread", "(I)V"⟩, 10) := ⟨⟨by decide +kernel, by decide +kernel⟩, List.mem_of_getElem? (i := 227) (by decide +kernel), List.mem_of_getElem? (i := 669) (by decide +kernel), List.mem_of_getElem? (i := 670) (by decide +kernel)⟩
theorem lw_p22 : lw_okq (⟨"FleetController$WaySearch", "narrow", "(I)V"⟩, 10) := ⟨⟨by decide +kernel, by decide +kernel⟩, List.mem_of_getElem? (i := 227) (by decide +kernel), List.mem_of_getElem? (i := 679) (by decide +kernel), List.mem_of_getElem? (i := 680) (by decide +kernel)⟩
theorem lw_p23 : lw_okq (⟨"FleetController$WaySearch", "follow", "(III)V"⟩, 10) := ⟨⟨by decide +kernel, by decide +kernel⟩, List.mem_of_getElem? (i := 227) (by decide +kernel), List.mem_of_getElem? (i := 683) (by decide +kernel), List.mem_of_getElem? (i := 684) (by decide +kernel)⟩
theorem lw_p24 : lw_okq (⟨"FleetController$WaySearch", "leastMove", "(III)I"⟩, 10) := ⟨⟨by decide +kernel, by decide +kernel⟩, List.mem_of_getElem? (i := 227) (by decide +kernel), List.mem_of_getElem? (i := 687) (by decide +kernel), List.mem_of_getElem? (i := 688) (by decide +kernel)⟩
theorem lw_p25 : lw_okq (⟨"FleetController$Fleet", "countWay", "(I)Z"⟩, 10) := ⟨⟨by decide +kernel, by decide +kernel⟩, List.mem_of_getElem? (i := 187) (by decide +kernel), List.mem_of_getElem? (i := 696) (by decide +kernel), List.mem_of_getElem? (i := 697) (by decide +kernel)⟩
theorem lw_p26 : lw_okq (⟨"FleetController$Fleet", "take", "(III)V"⟩, 10) := ⟨⟨by decide +kernel, by decide +kernel⟩, List.mem_of_getElem? (i := 187) (by decide +kernel), List.mem_of_getElem? (i := 701) (by decide +kernel), List.mem_of_getElem? (i := 702) (by decide +kernel)⟩
theorem lw_p27 : lw_okq (⟨"FleetController$Fleet", "nearestRefuge", "(II)I"⟩, 10) := ⟨⟨by decide +kernel, by decide +kernel⟩, List.mem_of_getElem? (i := 187) (by decide +kernel), List.mem_of_getElem? (i := 717) (by decide +kernel), List.mem_of_getElem? (i := 718) (by decide +kernel)⟩
theorem lw_p28 : lw_okq (⟨"FleetController$Fleet", "goOn", "(I)V"⟩, 10) := ⟨⟨by decide +kernel, by decide +kernel⟩, List.mem_of_getElem? (i := 187) (by decide +kernel), List.mem_of_getElem? (i := 723) (by decide +kernel), List.mem_of_getElem? (i := 724) (by decide +kernel)⟩
theorem lw_p29 : lw_okq (⟨"FleetController$Fleet", "workOn", "(IILFleetController$Task;)V"⟩, 10) := ⟨⟨by decide +kernel, by decide +kernel⟩, List.mem_of_getElem? (i := 187) (by decide +kernel), List.mem_of_getElem? (i := 732) (by decide +kernel), List.mem_of_getElem? (i := 733) (by decide +kernel)⟩
theorem lw_p30 : lw_okq (⟨"FleetController$Monitor", "lookAtTwo", "(IIII)V"⟩, 1) := ⟨⟨by decide +kernel, by decide +kernel⟩, List.mem_of_getElem? (i := 217) (by decide +kernel), List.mem_of_getElem? (i := 751) (by decide +kernel), List.mem_of_getElem? (i := 752) (by decide +kernel)⟩
theorem lw_p31 : lw_okq (⟨"FleetController$Fleet", "hasPicked", "(I)Z"⟩, 10) := ⟨⟨by decide +kernel, by decide +kernel⟩, List.mem_of_getElem? (i := 187) (by decide +kernel), List.mem_of_getElem? (i := 771) (by decide +kernel), List.mem_of_getElem? (i := 772) (by decide +kernel)⟩
def lw_privs_2 : List (MethodName × Nat) := [(⟨"FleetController$WaySearch", "reachGoal", "()I"⟩, 10), (⟨"FleetController$WaySearch", "ticksUntilGoalIsClear", "()I"⟩, 10), (⟨"FleetController$WaySearch", "holds", "(II)Z"⟩, 10), (⟨"FleetController$WaySearch", "lookAtOthers", "(I)V"⟩, 10), (⟨"FleetController$WaySearch", "avoid", "(II)V"⟩, 10), (⟨"FleetController$WaySearch", "spread", "(I)V"⟩, 10), (⟨"FleetController$WaySearch", "narrow", "(I)V"⟩, 10), (⟨"FleetController$WaySearch", "follow", "(III)V"⟩, 10), (⟨"FleetController$WaySearch", "leastMove", "(III)I"⟩, 10), (⟨"FleetController$Fleet", "countWay", "(I)Z"⟩, 10), (⟨"FleetController$Fleet", "take", "(III)V"⟩, 10), (⟨"FleetController$Fleet", "nearestRefuge", "(II)I"⟩, 10), (⟨"FleetController$Fleet", "goOn", "(I)V"⟩, 10), (⟨"FleetController$Fleet", "workOn", "(IILFleetController$Task;)V"⟩, 10), (⟨"FleetController$Monitor", "lookAtTwo", "(IIII)V"⟩, 1), (⟨"FleetController$Fleet", "hasPicked", "(I)Z"⟩, 10)]
theorem lw_r2 : ∀ q ∈ lw_privs_2, lw_okq q := List.forall_mem_cons.mpr ⟨lw_p16, List.forall_mem_cons.mpr ⟨lw_p17, List.forall_mem_cons.mpr ⟨lw_p18, List.forall_mem_cons.mpr ⟨lw_p19, List.forall_mem_cons.mpr ⟨lw_p20, List.forall_mem_cons.mpr ⟨lw_p21, List.forall_mem_cons.mpr ⟨lw_p22, List.forall_mem_cons.mpr ⟨lw_p23, List.forall_mem_cons.mpr ⟨lw_p24, List.forall_mem_cons.mpr ⟨lw_p25, List.forall_mem_cons.mpr ⟨lw_p26, List.forall_mem_cons.mpr ⟨lw_p27, List.forall_mem_cons.mpr ⟨lw_p28, List.forall_mem_cons.mpr ⟨lw_p29, List.forall_mem_cons.mpr ⟨lw_p30, List.forall_mem_cons.mpr ⟨lw_p31, fun _ h => absurd h List.not_mem_nil⟩⟩⟩⟩⟩⟩⟩⟩⟩⟩⟩⟩⟩⟩⟩⟩
theorem lw_p32 : lw_okq (⟨"FleetControllerModel", "readLines", "()I"⟩, 39) := ⟨⟨by decide +kernel, by decide +kernel⟩, List.mem_of_getElem? (i := 852) (by decide +kernel), List.mem_of_getElem? (i := 991) (by decide +kernel), List.mem_of_getElem? (i := 992) (by decide +kernel)⟩
theorem lw_p33 : lw_okq (⟨"FleetControllerModel", "wrong", "(II)I"⟩, 39) := ⟨⟨by decide +kernel, by decide +kernel⟩, List.mem_of_getElem? (i := 852) (by decide +kernel), List.mem_of_getElem? (i := 998) (by decide +kernel), List.mem_of_getElem? (i := 999) (by decide +kernel)⟩
theorem lw_p34 : lw_okq (⟨"FleetControllerModel", "hasKind", "(I)Z"⟩, 39) := ⟨⟨by decide +kernel, by decide +kernel⟩, List.mem_of_getElem? (i := 852) (by decide +kernel), List.mem_of_getElem? (i := 1002) (by decide +kernel), List.mem_of_getElem? (i := 1003) (by decide +kernel)⟩
theorem lw_p35 : lw_okq (⟨"FleetControllerModel", "isApart", "(I)Z"⟩, 39) := ⟨⟨by decide +kernel, by decide +kernel⟩, List.mem_of_getElem? (i := 852) (by decide +kernel), List.mem_of_getElem? (i := 1006) (by decide +kernel), List.mem_of_getElem? (i := 1007) (by decide +kernel)⟩
theorem lw_p36 : lw_okq (⟨"FleetControllerModel", "look", "(I)V"⟩, 39) := ⟨⟨by decide +kernel, by decide +kernel⟩, List.mem_of_getElem? (i := 852) (by decide +kernel), List.mem_of_getElem? (i := 1010) (by decide +kernel), List.mem_of_getElem? (i := 1011) (by decide +kernel)⟩
theorem lw_p37 : lw_okq (⟨"FleetControllerModel", "measure", "(I)V"⟩, 39) := ⟨⟨by decide +kernel, by decide +kernel⟩, List.mem_of_getElem? (i := 852) (by decide +kernel), List.mem_of_getElem? (i := 1017) (by decide +kernel), List.mem_of_getElem? (i := 1018) (by decide +kernel)⟩
theorem lw_p38 : lw_okq (⟨"FleetControllerModel", "isKind", "(II)Z"⟩, 39) := ⟨⟨by decide +kernel, by decide +kernel⟩, List.mem_of_getElem? (i := 852) (by decide +kernel), List.mem_of_getElem? (i := 1040) (by decide +kernel), List.mem_of_getElem? (i := 1041) (by decide +kernel)⟩
theorem lw_p39 : lw_okq (⟨"FleetControllerModel", "at", "(II)I"⟩, 39) := ⟨⟨by decide +kernel, by decide +kernel⟩, List.mem_of_getElem? (i := 852) (by decide +kernel), List.mem_of_getElem? (i := 1044) (by decide +kernel), List.mem_of_getElem? (i := 1045) (by decide +kernel)⟩
theorem lw_p40 : lw_okq (⟨"FleetControllerModel", "addTask", "(I)V"⟩, 39) := ⟨⟨by decide +kernel, by decide +kernel⟩, List.mem_of_getElem? (i := 852) (by decide +kernel), List.mem_of_getElem? (i := 1052) (by decide +kernel), List.mem_of_getElem? (i := 1053) (by decide +kernel)⟩
theorem lw_p41 : lw_okq (⟨"FleetControllerModel", "close", "(I)V"⟩, 39) := ⟨⟨by decide +kernel, by decide +kernel⟩, List.mem_of_getElem? (i := 852) (by decide +kernel), List.mem_of_getElem? (i := 1060) (by decide +kernel), List.mem_of_getElem? (i := 1061) (by decide +kernel)⟩
theorem lw_p42 : lw_okq (⟨"FleetControllerModel", "isOpen", "(I)Z"⟩, 39) := ⟨⟨by decide +kernel, by decide +kernel⟩, List.mem_of_getElem? (i := 852) (by decide +kernel), List.mem_of_getElem? (i := 1064) (by decide +kernel), List.mem_of_getElem? (i := 1065) (by decide +kernel)⟩
theorem lw_p43 : lw_okq (⟨"FleetControllerModel", "refusal", "(I)I"⟩, 39) := ⟨⟨by decide +kernel, by decide +kernel⟩, List.mem_of_getElem? (i := 852) (by decide +kernel), List.mem_of_getElem? (i := 1072) (by decide +kernel), List.mem_of_getElem? (i := 1073) (by decide +kernel)⟩
theorem lw_p44 : lw_okq (⟨"FleetControllerModel", "tickOnce", "()V"⟩, 39) := ⟨⟨by decide +kernel, by decide +kernel⟩, List.mem_of_getElem? (i := 852) (by decide +kernel), List.mem_of_getElem? (i := 1076) (by decide +kernel), List.mem_of_getElem? (i := 1077) (by decide +kernel)⟩
theorem lw_p45 : lw_okq (⟨"FleetControllerModel", "stay", "(I)V"⟩, 39) := ⟨⟨by decide +kernel, by decide +kernel⟩, List.mem_of_getElem? (i := 852) (by decide +kernel), List.mem_of_getElem? (i := 1080) (by decide +kernel), List.mem_of_getElem? (i := 1081) (by decide +kernel)⟩
theorem lw_p46 : lw_okq (⟨"FleetControllerModel", "endOf", "(I)I"⟩, 39) := ⟨⟨by decide +kernel, by decide +kernel⟩, List.mem_of_getElem? (i := 852) (by decide +kernel), List.mem_of_getElem? (i := 1084) (by decide +kernel), List.mem_of_getElem? (i := 1085) (by decide +kernel)⟩
theorem lw_p47 : lw_okq (⟨"FleetControllerModel", "seek", "(I)V"⟩, 39) := ⟨⟨by decide +kernel, by decide +kernel⟩, List.mem_of_getElem? (i := 852) (by decide +kernel), List.mem_of_getElem? (i := 1088) (by decide +kernel), List.mem_of_getElem? (i := 1089) (by decide +kernel)⟩
def lw_privs_3 : List (MethodName × Nat) := [(⟨"FleetControllerModel", "readLines", "()I"⟩, 39), (⟨"FleetControllerModel", "wrong", "(II)I"⟩, 39), (⟨"FleetControllerModel", "hasKind", "(I)Z"⟩, 39), (⟨"FleetControllerModel", "isApart", "(I)Z"⟩, 39), (⟨"FleetControllerModel", "look", "(I)V"⟩, 39), (⟨"FleetControllerModel", "measure", "(I)V"⟩, 39), (⟨"FleetControllerModel", "isKind", "(II)Z"⟩, 39), (⟨"FleetControllerModel", "at", "(II)I"⟩, 39), (⟨"FleetControllerModel", "addTask", "(I)V"⟩, 39), (⟨"FleetControllerModel", "close", "(I)V"⟩, 39), (⟨"FleetControllerModel", "isOpen", "(I)Z"⟩, 39), (⟨"FleetControllerModel", "refusal", "(I)I"⟩, 39), (⟨"FleetControllerModel", "tickOnce", "()V"⟩, 39), (⟨"FleetControllerModel", "stay", "(I)V"⟩, 39), (⟨"FleetControllerModel", "endOf", "(I)I"⟩, 39), (⟨"FleetControllerModel", "seek", "(I)V"⟩, 39)]
theorem lw_r3 : ∀ q ∈ lw_privs_3, lw_okq q := List.forall_mem_cons.mpr ⟨lw_p32, List.forall_mem_cons.mpr ⟨lw_p33, List.forall_mem_cons.mpr ⟨lw_p34, List.forall_mem_cons.mpr ⟨lw_p35, List.forall_mem_cons.mpr ⟨lw_p36, List.forall_mem_cons.mpr ⟨lw_p37, List.forall_mem_cons.mpr ⟨lw_p38, List.forall_mem_cons.mpr ⟨lw_p39, List.forall_mem_cons.mpr ⟨lw_p40, List.forall_mem_cons.mpr ⟨lw_p41, List.forall_mem_cons.mpr ⟨lw_p42, List.forall_mem_cons.mpr ⟨lw_p43, List.forall_mem_cons.mpr ⟨lw_p44, List.forall_mem_cons.mpr ⟨lw_p45, List.forall_mem_cons.mpr ⟨lw_p46, List.forall_mem_cons.mpr ⟨lw_p47, fun _ h => absurd h List.not_mem_nil⟩⟩⟩⟩⟩⟩⟩⟩⟩⟩⟩⟩⟩⟩⟩⟩
theorem lw_p48 : lw_okq (⟨"FleetControllerModel", "fitTask", "(I)I"⟩, 39) := ⟨⟨by decide +kernel, by decide +kernel⟩, List.mem_of_getElem? (i := 852) (by decide +kernel), List.mem_of_getElem? (i := 1092) (by decide +kernel), List.mem_of_getElem? (i := 1093) (by decide +kernel)⟩
theorem lw_p49 : lw_okq (⟨"FleetControllerModel", "isOthersEnd", "(II)Z"⟩, 39) := ⟨⟨by decide +kernel, by decide +kernel⟩, List.mem_of_getElem? (i := 852) (by decide +kernel), List.mem_of_getElem? (i := 1096) (by decide +kernel), List.mem_of_getElem? (i := 1097) (by decide +kernel)⟩
theorem lw_p50 : lw_okq (⟨"FleetControllerModel", "findWay", "(III)V"⟩, 39) := ⟨⟨by decide +kernel, by decide +kernel⟩, List.mem_of_getElem? (i := 852) (by decide +kernel), List.mem_of_getElem? (i := 1100) (by decide +kernel), List.mem_of_getElem? (i := 1101) (by decide +kernel)⟩
theorem lw_p51 : lw_okq (⟨"FleetControllerModel", "lastIn", "(II)I"⟩, 39) := ⟨⟨by decide +kernel, by decide +kernel⟩, List.mem_of_getElem? (i := 852) (by decide +kernel), List.mem_of_getElem? (i := 1104) (by decide +kernel), List.mem_of_getElem? (i := 1105) (by decide +kernel)⟩
theorem lw_p52 : lw_okq (⟨"FleetControllerModel", "spread", "(III)V"⟩, 39) := ⟨⟨by decide +kernel, by decide +kernel⟩, List.mem_of_getElem? (i := 852) (by decide +kernel), List.mem_of_getElem? (i := 1111) (by decide +kernel), List.mem_of_getElem? (i := 1112) (by decide +kernel)⟩
theorem lw_p53 : lw_okq (⟨"FleetControllerModel", "mayGo", "(IIII)Z"⟩, 39) := ⟨⟨by decide +kernel, by decide +kernel⟩, List.mem_of_getElem? (i := 852) (by decide +kernel), List.mem_of_getElem? (i := 1115) (by decide +kernel), List.mem_of_getElem? (i := 1116) (by decide +kernel)⟩
theorem lw_p54 : lw_okq (⟨"FleetControllerModel", "trace", "(III)V"⟩, 39) := ⟨⟨by decide +kernel, by decide +kernel⟩, List.mem_of_getElem? (i := 852) (by decide +kernel), List.mem_of_getElem? (i := 1119) (by decide +kernel), List.mem_of_getElem? (i := 1120) (by decide +kernel)⟩
theorem lw_p55 : lw_okq (⟨"FleetControllerModel", "follow", "(IIIZ)V"⟩, 39) := ⟨⟨by decide +kernel, by decide +kernel⟩, List.mem_of_getElem? (i := 852) (by decide +kernel), List.mem_of_getElem? (i := 1123) (by decide +kernel), List.mem_of_getElem? (i := 1124) (by decide +kernel)⟩
theorem lw_p56 : lw_okq (⟨"FleetControllerModel", "isWanted", "(I)Z"⟩, 39) := ⟨⟨by decide +kernel, by decide +kernel⟩, List.mem_of_getElem? (i := 852) (by decide +kernel), List.mem_of_getElem? (i := 1127) (by decide +kernel), List.mem_of_getElem? (i := 1128) (by decide +kernel)⟩
theorem lw_p57 : lw_okq (⟨"FleetControllerModel", "aside", "(I)I"⟩, 39) := ⟨⟨by decide +kernel, by decide +kernel⟩, List.mem_of_getElem? (i := 852) (by decide +kernel), List.mem_of_getElem? (i := 1131) (by decide +kernel), List.mem_of_getElem? (i := 1132) (by decide +kernel)⟩
theorem lw_p58 : lw_okq (⟨"FleetControllerModel", "settleRobot", "(I)V"⟩, 39) := ⟨⟨by decide +kernel, by decide +kernel⟩, List.mem_of_getElem? (i := 852) (by decide +kernel), List.mem_of_getElem? (i := 1135) (by decide +kernel), List.mem_of_getElem? (i := 1136) (by decide +kernel)⟩
theorem lw_p59 : lw_okq (⟨"FleetControllerModel", "watch", "()V"⟩, 39) := ⟨⟨by decide +kernel, by decide +kernel⟩, List.mem_of_getElem? (i := 852) (by decide +kernel), List.mem_of_getElem? (i := 1139) (by decide +kernel), List.mem_of_getElem? (i := 1140) (by decide +kernel)⟩
theorem lw_p60 : lw_okq (⟨"FleetControllerModel", "openOrders", "()I"⟩, 39) := ⟨⟨by decide +kernel, by decide +kernel⟩, List.mem_of_getElem? (i := 852) (by decide +kernel), List.mem_of_getElem? (i := 1147) (by decide +kernel), List.mem_of_getElem? (i := 1148) (by decide +kernel)⟩
theorem lw_p61 : lw_okq (⟨"FleetControllerModel", "pending", "()I"⟩, 39) := ⟨⟨by decide +kernel, by decide +kernel⟩, List.mem_of_getElem? (i := 852) (by decide +kernel), List.mem_of_getElem? (i := 1175) (by decide +kernel), List.mem_of_getElem? (i := 1176) (by decide +kernel)⟩
theorem lw_p62 : lw_okq (⟨"FleetControllerModel", "allMoves", "()I"⟩, 39) := ⟨⟨by decide +kernel, by decide +kernel⟩, List.mem_of_getElem? (i := 852) (by decide +kernel), List.mem_of_getElem? (i := 1179) (by decide +kernel), List.mem_of_getElem? (i := 1180) (by decide +kernel)⟩
def lw_privs_4 : List (MethodName × Nat) := [(⟨"FleetControllerModel", "fitTask", "(I)I"⟩, 39), (⟨"FleetControllerModel", "isOthersEnd", "(II)Z"⟩, 39), (⟨"FleetControllerModel", "findWay", "(III)V"⟩, 39), (⟨"FleetControllerModel", "lastIn", "(II)I"⟩, 39), (⟨"FleetControllerModel", "spread", "(III)V"⟩, 39), (⟨"FleetControllerModel", "mayGo", "(IIII)Z"⟩, 39), (⟨"FleetControllerModel", "trace", "(III)V"⟩, 39), (⟨"FleetControllerModel", "follow", "(IIIZ)V"⟩, 39), (⟨"FleetControllerModel", "isWanted", "(I)Z"⟩, 39), (⟨"FleetControllerModel", "aside", "(I)I"⟩, 39), (⟨"FleetControllerModel", "settleRobot", "(I)V"⟩, 39), (⟨"FleetControllerModel", "watch", "()V"⟩, 39), (⟨"FleetControllerModel", "openOrders", "()I"⟩, 39), (⟨"FleetControllerModel", "pending", "()I"⟩, 39), (⟨"FleetControllerModel", "allMoves", "()I"⟩, 39)]
theorem lw_r4 : ∀ q ∈ lw_privs_4, lw_okq q := List.forall_mem_cons.mpr ⟨lw_p48, List.forall_mem_cons.mpr ⟨lw_p49, List.forall_mem_cons.mpr ⟨lw_p50, List.forall_mem_cons.mpr ⟨lw_p51, List.forall_mem_cons.mpr ⟨lw_p52, List.forall_mem_cons.mpr ⟨lw_p53, List.forall_mem_cons.mpr ⟨lw_p54, List.forall_mem_cons.mpr ⟨lw_p55, List.forall_mem_cons.mpr ⟨lw_p56, List.forall_mem_cons.mpr ⟨lw_p57, List.forall_mem_cons.mpr ⟨lw_p58, List.forall_mem_cons.mpr ⟨lw_p59, List.forall_mem_cons.mpr ⟨lw_p60, List.forall_mem_cons.mpr ⟨lw_p61, List.forall_mem_cons.mpr ⟨lw_p62, fun _ h => absurd h List.not_mem_nil⟩⟩⟩⟩⟩⟩⟩⟩⟩⟩⟩⟩⟩⟩⟩
def lw_privs : List (MethodName × Nat) := lw_privs_1 ++ (lw_privs_2 ++ (lw_privs_3 ++ (lw_privs_4)))
def lw_tbl : List Cond := k2_sels lw_privs ++ tables_1
theorem lw_privs_ok : ∀ q ∈ lw_privs, lw_okq q := by
  show ∀ q ∈ lw_privs_1 ++ (lw_privs_2 ++ (lw_privs_3 ++ (lw_privs_4))), lw_okq q
  exact List.forall_mem_append.mpr ⟨lw_r1, List.forall_mem_append.mpr ⟨lw_r2, List.forall_mem_append.mpr ⟨lw_r3, lw_r4⟩⟩⟩
end
section
def RX0 : String := "FleetController$Fleet"
def TX0 : u_T := fun k => match k with
  | 0 => ("FleetController$Fleet", "orders", "LFleetController$Orders;", true)
  | 1 => ("FleetController$Fleet", "robots", "[LFleetController$Robot;", true)
  | 2 => ("FleetController$Fleet", "table", "LFleetController$Timetable;", true)
  | 3 => ("FleetController$Fleet", "monitor", "LFleetController$Monitor;", true)
  | 4 => ("FleetController$Fleet", "search", "LFleetController$WaySearch;", true)
  | 5 => ("FleetController$Fleet", "map", "LFleetController$Grid;", false)
  | 6 => ("FleetController$Fleet", "size", "I", false)
  | 7 => ("FleetController$Fleet", "now", "I", false)
  | 8 => ("FleetController$Fleet", "ways", "I", false)
  | _ => ("FleetController$Fleet", "longestWay", "I", false)
def tyX0 : Nat → FieldType := fun k => match k with
  | 0 => .object "FleetController$Orders"
  | 1 => .array (.object "FleetController$Robot")
  | 2 => .object "FleetController$Timetable"
  | 3 => .object "FleetController$Monitor"
  | 4 => .object "FleetController$WaySearch"
  | 5 => .object "FleetController$Grid"
  | 6 => .int
  | 7 => .int
  | 8 => .int
  | _ => .int
theorem nmX0 : ∀ a, a < 10 → ∀ b, b < 10 → a ≠ b → (TX0 a).2.1 ≠ (TX0 b).2.1 := by decide +kernel
theorem tyX0_ok : ∀ k, k < 10 → parseFieldDescriptor (TX0 k).2.2.1 = some (tyX0 k) := by decide +kernel
abbrev cX0_init : ByteArray := prog_2_method_1_code
def yX0_init : MethodName := ⟨RX0, "<init>", "(LFleetController$Grid;LFleetController$Orders;)V"⟩
abbrev cX0_size : ByteArray := prog_2_method_2_code
def yX0_size : MethodName := ⟨RX0, "size", "()I"⟩
abbrev cX0_now : ByteArray := prog_2_method_3_code
def yX0_now : MethodName := ⟨RX0, "now", "()I"⟩
abbrev cX0_ways : ByteArray := prog_2_method_4_code
def yX0_ways : MethodName := ⟨RX0, "ways", "()I"⟩
abbrev cX0_longestWay : ByteArray := prog_2_method_5_code
def yX0_longestWay : MethodName := ⟨RX0, "longestWay", "()I"⟩
abbrev cX0_alarms : ByteArray := prog_2_method_6_code
def yX0_alarms : MethodName := ⟨RX0, "alarms", "()I"⟩
abbrev cX0_moves : ByteArray := prog_2_method_7_code
def yX0_moves : MethodName := ⟨RX0, "moves", "()I"⟩
abbrev cX0_begin : ByteArray := prog_2_method_8_code
def yX0_begin : MethodName := ⟨RX0, "begin", "(LFleetController$Grid;)V"⟩
abbrev cX0_put : ByteArray := prog_2_method_9_code
def yX0_put : MethodName := ⟨RX0, "put", "(I)I"⟩
abbrev cX0_step : ByteArray := prog_2_method_10_code
def yX0_step : MethodName := ⟨RX0, "step", "()V"⟩
abbrev cX0_lookForWork : ByteArray := prog_2_method_11_code
def yX0_lookForWork : MethodName := ⟨RX0, "lookForWork", "(I)V"⟩
abbrev cX0_nearestFit : ByteArray := prog_2_method_12_code
def yX0_nearestFit : MethodName := ⟨RX0, "nearestFit", "(II)I"⟩
abbrev cX0_isFit : ByteArray := prog_2_method_13_code
def yX0_isFit : MethodName := ⟨RX0, "isFit", "(LFleetController$Task;I)Z"⟩
abbrev cX0_nearestRefuge : ByteArray := prog_2_method_14_code
def yX0_nearestRefuge : MethodName := ⟨RX0, "nearestRefuge", "(II)I"⟩
abbrev cX0_countWay : ByteArray := prog_2_method_15_code
def yX0_countWay : MethodName := ⟨RX0, "countWay", "(I)Z"⟩
abbrev cX0_take : ByteArray := prog_2_method_16_code
def yX0_take : MethodName := ⟨RX0, "take", "(III)V"⟩
abbrev cX0_goOn : ByteArray := prog_2_method_17_code
def yX0_goOn : MethodName := ⟨RX0, "goOn", "(I)V"⟩
abbrev cX0_workOn : ByteArray := prog_2_method_18_code
def yX0_workOn : MethodName := ⟨RX0, "workOn", "(IILFleetController$Task;)V"⟩
abbrev cX0_tellRobot : ByteArray := prog_2_method_19_code
def yX0_tellRobot : MethodName := ⟨RX0, "tellRobot", "(II)I"⟩
abbrev cX0_hasPicked : ByteArray := prog_2_method_20_code
def yX0_hasPicked : MethodName := ⟨RX0, "hasPicked", "(I)Z"⟩
abbrev cX0_cellIn : ByteArray := prog_2_method_21_code
def yX0_cellIn : MethodName := ⟨RX0, "cellIn", "(II)I"⟩
abbrev cX0_cellAt : ByteArray := prog_2_method_22_code
def yX0_cellAt : MethodName := ⟨RX0, "cellAt", "(II)I"⟩
def RX1 : String := "FleetController$Grid"
def TX1 : u_T := fun k => match k with
  | 0 => ("FleetController$Grid", "steps", "[I", true)
  | 1 => ("FleetController$Grid", "open", "[J", true)
  | 2 => ("FleetController$Grid", "kinds", "[I", true)
  | 3 => ("FleetController$Grid", "far", "[I", true)
  | 4 => ("FleetController$Grid", "queue", "[I", true)
  | 5 => ("FleetController$Grid", "size", "I", false)
  | _ => ("FleetController$Grid", "width", "I", false)
def tyX1 : Nat → FieldType := fun k => match k with
  | 0 => .array .int
  | 1 => .array .long
  | 2 => .array .int
  | 3 => .array .int
  | 4 => .array .int
  | 5 => .int
  | _ => .int
theorem nmX1 : ∀ a, a < 7 → ∀ b, b < 7 → a ≠ b → (TX1 a).2.1 ≠ (TX1 b).2.1 := by decide +kernel
theorem tyX1_ok : ∀ k, k < 7 → parseFieldDescriptor (TX1 k).2.2.1 = some (tyX1 k) := by decide +kernel
abbrev cX1_init : ByteArray := prog_3_method_1_code
def yX1_init : MethodName := ⟨RX1, "<init>", "()V"⟩
abbrev cX1_size : ByteArray := prog_3_method_2_code
def yX1_size : MethodName := ⟨RX1, "size", "()I"⟩
abbrev cX1_has : ByteArray := prog_3_method_3_code
def yX1_has : MethodName := ⟨RX1, "has", "(I)Z"⟩
abbrev cX1_kindAt : ByteArray := prog_3_method_4_code
def yX1_kindAt : MethodName := ⟨RX1, "kindAt", "(I)I"⟩
abbrev cX1_isPlace : ByteArray := prog_3_method_5_code
def yX1_isPlace : MethodName := ⟨RX1, "isPlace", "(I)Z"⟩
abbrev cX1_measured : ByteArray := prog_3_method_6_code
def yX1_measured : MethodName := ⟨RX1, "measured", "(I)I"⟩
abbrev cX1_placeInText : ByteArray := prog_3_method_7_code
def yX1_placeInText : MethodName := ⟨RX1, "placeInText", "(I)I"⟩
abbrev cX1_load : ByteArray := prog_3_method_8_code
def yX1_load : MethodName := ⟨RX1, "load", "(LFleetController$MapText;)V"⟩
abbrev cX1_findOpenMoves : ByteArray := prog_3_method_9_code
def yX1_findOpenMoves : MethodName := ⟨RX1, "findOpenMoves", "()V"⟩
abbrev cX1_leadsOn : ByteArray := prog_3_method_10_code
def yX1_leadsOn : MethodName := ⟨RX1, "leadsOn", "(II)Z"⟩
abbrev cX1_isOpen : ByteArray := prog_3_method_11_code
def yX1_isOpen : MethodName := ⟨RX1, "isOpen", "(II)Z"⟩
abbrev cX1_isMove : ByteArray := prog_3_method_12_code
def yX1_isMove : MethodName := ⟨RX1, "isMove", "(II)Z"⟩
abbrev cX1_hasAllKinds : ByteArray := prog_3_method_13_code
def yX1_hasAllKinds : MethodName := ⟨RX1, "hasAllKinds", "()Z"⟩
abbrev cX1_firstPlaceApart : ByteArray := prog_3_method_14_code
def yX1_firstPlaceApart : MethodName := ⟨RX1, "firstPlaceApart", "()I"⟩
abbrev cX1_isJoinedToAll : ByteArray := prog_3_method_15_code
def yX1_isJoinedToAll : MethodName := ⟨RX1, "isJoinedToAll", "(I)Z"⟩
abbrev cX1_measureFrom : ByteArray := prog_3_method_16_code
def yX1_measureFrom : MethodName := ⟨RX1, "measureFrom", "(IZ)V"⟩
abbrev cX1_measureAround : ByteArray := prog_3_method_17_code
def yX1_measureAround : MethodName := ⟨RX1, "measureAround", "(II)I"⟩
def RX2 : String := "FleetController$MapText"
def TX2 : u_T := fun k => match k with
  | 0 => ("FleetController$MapText", "signs", "[I", true)
  | 1 => ("FleetController$MapText", "length", "I", false)
  | 2 => ("FleetController$MapText", "width", "I", false)
  | 3 => ("FleetController$MapText", "lines", "I", false)
  | 4 => ("FleetController$MapText", "column", "I", false)
  | _ => ("FleetController$MapText", "faultPlace", "I", false)
def tyX2 : Nat → FieldType := fun k => match k with
  | 0 => .array .int
  | 1 => .int
  | 2 => .int
  | 3 => .int
  | 4 => .int
  | _ => .int
theorem nmX2 : ∀ a, a < 6 → ∀ b, b < 6 → a ≠ b → (TX2 a).2.1 ≠ (TX2 b).2.1 := by decide +kernel
theorem tyX2_ok : ∀ k, k < 6 → parseFieldDescriptor (TX2 k).2.2.1 = some (tyX2 k) := by decide +kernel
abbrev cX2_init : ByteArray := prog_4_method_1_code
def yX2_init : MethodName := ⟨RX2, "<init>", "()V"⟩
abbrev cX2_length : ByteArray := prog_4_method_2_code
def yX2_length : MethodName := ⟨RX2, "length", "()I"⟩
abbrev cX2_width : ByteArray := prog_4_method_3_code
def yX2_width : MethodName := ⟨RX2, "width", "()I"⟩
abbrev cX2_faultPlace : ByteArray := prog_4_method_4_code
def yX2_faultPlace : MethodName := ⟨RX2, "faultPlace", "()I"⟩
abbrev cX2_append : ByteArray := prog_4_method_5_code
def yX2_append : MethodName := ⟨RX2, "append", "(J)I"⟩
abbrev cX2_wipe : ByteArray := prog_4_method_6_code
def yX2_wipe : MethodName := ⟨RX2, "wipe", "()I"⟩
abbrev cX2_kindOf : ByteArray := prog_4_method_7_code
def yX2_kindOf : MethodName := ⟨RX2, "kindOf", "(I)I"⟩
abbrev cX2_findFault : ByteArray := prog_4_method_8_code
def yX2_findFault : MethodName := ⟨RX2, "findFault", "()I"⟩
abbrev cX2_widenLine : ByteArray := prog_4_method_9_code
def yX2_widenLine : MethodName := ⟨RX2, "widenLine", "()Z"⟩
abbrev cX2_endLine : ByteArray := prog_4_method_10_code
def yX2_endLine : MethodName := ⟨RX2, "endLine", "()Z"⟩
abbrev cX2_byteOf : ByteArray := prog_4_method_11_code
def yX2_byteOf : MethodName := ⟨RX2, "byteOf", "(JI)I"⟩
def RX3 : String := "FleetController$Monitor"
def TX3 : u_T := fun k => match k with
  | _ => ("FleetController$Monitor", "alarms", "I", false)
def tyX3 : Nat → FieldType := fun k => match k with
  | _ => .int
theorem nmX3 : ∀ a, a < 1 → ∀ b, b < 1 → a ≠ b → (TX3 a).2.1 ≠ (TX3 b).2.1 := by decide +kernel
theorem tyX3_ok : ∀ k, k < 1 → parseFieldDescriptor (TX3 k).2.2.1 = some (tyX3 k) := by decide +kernel
abbrev cX3_init : ByteArray := prog_5_method_1_code
def yX3_init : MethodName := ⟨RX3, "<init>", "()V"⟩
abbrev cX3_alarms : ByteArray := prog_5_method_2_code
def yX3_alarms : MethodName := ⟨RX3, "alarms", "()I"⟩
abbrev cX3_clear : ByteArray := prog_5_method_3_code
def yX3_clear : MethodName := ⟨RX3, "clear", "()V"⟩
abbrev cX3_look : ByteArray := prog_5_method_4_code
def yX3_look : MethodName := ⟨RX3, "look", "(LFleetController$Grid;LFleetController$Timetable;I)V"⟩
abbrev cX3_lookAtTwo : ByteArray := prog_5_method_5_code
def yX3_lookAtTwo : MethodName := ⟨RX3, "lookAtTwo", "(IIII)V"⟩
def RX4 : String := "FleetController$Order"
def TX4 : u_T := fun k => match k with
  | 0 => ("FleetController$Order", "station", "I", false)
  | 1 => ("FleetController$Order", "tasks", "I", false)
  | 2 => ("FleetController$Order", "firstTask", "I", false)
  | 3 => ("FleetController$Order", "unfinished", "I", false)
  | 4 => ("FleetController$Order", "timeTold", "I", false)
  | _ => ("FleetController$Order", "timeClosed", "I", false)
def tyX4 : Nat → FieldType := fun k => match k with
  | 0 => .int
  | 1 => .int
  | 2 => .int
  | 3 => .int
  | 4 => .int
  | _ => .int
theorem nmX4 : ∀ a, a < 6 → ∀ b, b < 6 → a ≠ b → (TX4 a).2.1 ≠ (TX4 b).2.1 := by decide +kernel
theorem tyX4_ok : ∀ k, k < 6 → parseFieldDescriptor (TX4 k).2.2.1 = some (tyX4 k) := by decide +kernel
abbrev cX4_init : ByteArray := prog_6_method_1_code
def yX4_init : MethodName := ⟨RX4, "<init>", "()V"⟩
abbrev cX4_begin : ByteArray := prog_6_method_2_code
def yX4_begin : MethodName := ⟨RX4, "begin", "(IIII)V"⟩
abbrev cX4_tell : ByteArray := prog_6_method_3_code
def yX4_tell : MethodName := ⟨RX4, "tell", "(I)I"⟩
def RX5 : String := "FleetController$Orders"
def TX5 : u_T := fun k => match k with
  | 0 => ("FleetController$Orders", "orders", "[LFleetController$Order;", true)
  | 1 => ("FleetController$Orders", "tasks", "[LFleetController$Task;", true)
  | 2 => ("FleetController$Orders", "pendingFor", "[I", true)
  | 3 => ("FleetController$Orders", "orderCount", "I", false)
  | 4 => ("FleetController$Orders", "taskCount", "I", false)
  | 5 => ("FleetController$Orders", "openCount", "I", false)
  | _ => ("FleetController$Orders", "pendingCount", "I", false)
def tyX5 : Nat → FieldType := fun k => match k with
  | 0 => .array (.object "FleetController$Order")
  | 1 => .array (.object "FleetController$Task")
  | 2 => .array .int
  | 3 => .int
  | 4 => .int
  | 5 => .int
  | _ => .int
theorem nmX5 : ∀ a, a < 7 → ∀ b, b < 7 → a ≠ b → (TX5 a).2.1 ≠ (TX5 b).2.1 := by decide +kernel
theorem tyX5_ok : ∀ k, k < 7 → parseFieldDescriptor (TX5 k).2.2.1 = some (tyX5 k) := by decide +kernel
abbrev cX5_init : ByteArray := prog_7_method_1_code
def yX5_init : MethodName := ⟨RX5, "<init>", "()V"⟩
abbrev cX5_size : ByteArray := prog_7_method_2_code
def yX5_size : MethodName := ⟨RX5, "size", "()I"⟩
abbrev cX5_open : ByteArray := prog_7_method_3_code
def yX5_open : MethodName := ⟨RX5, "open", "()I"⟩
abbrev cX5_tasks : ByteArray := prog_7_method_4_code
def yX5_tasks : MethodName := ⟨RX5, "tasks", "()I"⟩
abbrev cX5_pending : ByteArray := prog_7_method_5_code
def yX5_pending : MethodName := ⟨RX5, "pending", "()I"⟩
abbrev cX5_arePendingFor : ByteArray := prog_7_method_6_code
def yX5_arePendingFor : MethodName := ⟨RX5, "arePendingFor", "(I)Z"⟩
abbrev cX5_taskAt : ByteArray := prog_7_method_7_code
def yX5_taskAt : MethodName := ⟨RX5, "taskAt", "(I)LFleetController$Task;"⟩
abbrev cX5_clear : ByteArray := prog_7_method_8_code
def yX5_clear : MethodName := ⟨RX5, "clear", "()V"⟩
abbrev cX5_haveRoomFor : ByteArray := prog_7_method_9_code
def yX5_haveRoomFor : MethodName := ⟨RX5, "haveRoomFor", "(I)Z"⟩
abbrev cX5_add : ByteArray := prog_7_method_10_code
def yX5_add : MethodName := ⟨RX5, "add", "(III)I"⟩
abbrev cX5_addTask : ByteArray := prog_7_method_11_code
def yX5_addTask : MethodName := ⟨RX5, "addTask", "(II)V"⟩
abbrev cX5_cancelPending : ByteArray := prog_7_method_12_code
def yX5_cancelPending : MethodName := ⟨RX5, "cancelPending", "(II)I"⟩
abbrev cX5_take : ByteArray := prog_7_method_13_code
def yX5_take : MethodName := ⟨RX5, "take", "(LFleetController$Task;II)V"⟩
abbrev cX5_pick : ByteArray := prog_7_method_14_code
def yX5_pick : MethodName := ⟨RX5, "pick", "(LFleetController$Task;I)V"⟩
abbrev cX5_bring : ByteArray := prog_7_method_15_code
def yX5_bring : MethodName := ⟨RX5, "bring", "(LFleetController$Task;I)V"⟩
abbrev cX5_leavePending : ByteArray := prog_7_method_16_code
def yX5_leavePending : MethodName := ⟨RX5, "leavePending", "(LFleetController$Task;I)V"⟩
abbrev cX5_finishOne : ByteArray := prog_7_method_17_code
def yX5_finishOne : MethodName := ⟨RX5, "finishOne", "(LFleetController$Order;I)V"⟩
abbrev cX5_tellTask : ByteArray := prog_7_method_18_code
def yX5_tellTask : MethodName := ⟨RX5, "tellTask", "(II)I"⟩
abbrev cX5_tellOrder : ByteArray := prog_7_method_19_code
def yX5_tellOrder : MethodName := ⟨RX5, "tellOrder", "(II)I"⟩
def RX6 : String := "FleetController$Robot"
def TX6 : u_T := fun k => match k with
  | 0 => ("FleetController$Robot", "task", "I", false)
  | 1 => ("FleetController$Robot", "moves", "I", false)
  | 2 => ("FleetController$Robot", "brought", "I", false)
  | _ => ("FleetController$Robot", "timesOff", "I", false)
def tyX6 : Nat → FieldType := fun k => match k with
  | 0 => .int
  | 1 => .int
  | 2 => .int
  | _ => .int
theorem nmX6 : ∀ a, a < 4 → ∀ b, b < 4 → a ≠ b → (TX6 a).2.1 ≠ (TX6 b).2.1 := by decide +kernel
theorem tyX6_ok : ∀ k, k < 4 → parseFieldDescriptor (TX6 k).2.2.1 = some (tyX6 k) := by decide +kernel
abbrev cX6_init : ByteArray := prog_8_method_1_code
def yX6_init : MethodName := ⟨RX6, "<init>", "()V"⟩
abbrev cX6_begin : ByteArray := prog_8_method_2_code
def yX6_begin : MethodName := ⟨RX6, "begin", "()V"⟩
def RX7 : String := "FleetController$Task"
def TX7 : u_T := fun k => match k with
  | 0 => ("FleetController$Task", "order", "I", false)
  | 1 => ("FleetController$Task", "shelf", "I", false)
  | 2 => ("FleetController$Task", "station", "I", false)
  | 3 => ("FleetController$Task", "state", "I", false)
  | 4 => ("FleetController$Task", "robot", "I", false)
  | 5 => ("FleetController$Task", "timeTold", "I", false)
  | 6 => ("FleetController$Task", "timeTaken", "I", false)
  | 7 => ("FleetController$Task", "timePicked", "I", false)
  | _ => ("FleetController$Task", "timeBrought", "I", false)
def tyX7 : Nat → FieldType := fun k => match k with
  | 0 => .int
  | 1 => .int
  | 2 => .int
  | 3 => .int
  | 4 => .int
  | 5 => .int
  | 6 => .int
  | 7 => .int
  | _ => .int
theorem nmX7 : ∀ a, a < 9 → ∀ b, b < 9 → a ≠ b → (TX7 a).2.1 ≠ (TX7 b).2.1 := by decide +kernel
theorem tyX7_ok : ∀ k, k < 9 → parseFieldDescriptor (TX7 k).2.2.1 = some (tyX7 k) := by decide +kernel
abbrev cX7_init : ByteArray := prog_9_method_1_code
def yX7_init : MethodName := ⟨RX7, "<init>", "()V"⟩
abbrev cX7_begin : ByteArray := prog_9_method_2_code
def yX7_begin : MethodName := ⟨RX7, "begin", "(IIII)V"⟩
abbrev cX7_tell : ByteArray := prog_9_method_3_code
def yX7_tell : MethodName := ⟨RX7, "tell", "(I)I"⟩
def RX8 : String := "FleetController$Timetable"
def TX8 : u_T := fun k => match k with
  | 0 => ("FleetController$Timetable", "rows", "[J", true)
  | 1 => ("FleetController$Timetable", "ends", "[I", true)
  | 2 => ("FleetController$Timetable", "endTimes", "[I", true)
  | 3 => ("FleetController$Timetable", "owners", "[I", true)
  | _ => ("FleetController$Timetable", "robots", "I", false)
def tyX8 : Nat → FieldType := fun k => match k with
  | 0 => .array .long
  | 1 => .array .int
  | 2 => .array .int
  | 3 => .array .int
  | _ => .int
theorem nmX8 : ∀ a, a < 5 → ∀ b, b < 5 → a ≠ b → (TX8 a).2.1 ≠ (TX8 b).2.1 := by decide +kernel
theorem tyX8_ok : ∀ k, k < 5 → parseFieldDescriptor (TX8 k).2.2.1 = some (tyX8 k) := by decide +kernel
abbrev cX8_init : ByteArray := prog_10_method_1_code
def yX8_init : MethodName := ⟨RX8, "<init>", "()V"⟩
abbrev cX8_robots : ByteArray := prog_10_method_2_code
def yX8_robots : MethodName := ⟨RX8, "robots", "()I"⟩
abbrev cX8_endOf : ByteArray := prog_10_method_3_code
def yX8_endOf : MethodName := ⟨RX8, "endOf", "(I)I"⟩
abbrev cX8_endTimeOf : ByteArray := prog_10_method_4_code
def yX8_endTimeOf : MethodName := ⟨RX8, "endTimeOf", "(I)I"⟩
abbrev cX8_ownerOf : ByteArray := prog_10_method_5_code
def yX8_ownerOf : MethodName := ⟨RX8, "ownerOf", "(I)I"⟩
abbrev cX8_isEndOfOther : ByteArray := prog_10_method_6_code
def yX8_isEndOfOther : MethodName := ⟨RX8, "isEndOfOther", "(II)Z"⟩
abbrev cX8_clear : ByteArray := prog_10_method_7_code
def yX8_clear : MethodName := ⟨RX8, "clear", "()V"⟩
abbrev cX8_add : ByteArray := prog_10_method_8_code
def yX8_add : MethodName := ⟨RX8, "add", "(I)V"⟩
abbrev cX8_cellAt : ByteArray := prog_10_method_9_code
def yX8_cellAt : MethodName := ⟨RX8, "cellAt", "(II)I"⟩
abbrev cX8_write : ByteArray := prog_10_method_10_code
def yX8_write : MethodName := ⟨RX8, "write", "(III)V"⟩
abbrev cX8_setEnd : ByteArray := prog_10_method_11_code
def yX8_setEnd : MethodName := ⟨RX8, "setEnd", "(III)V"⟩
abbrev cX8_keep : ByteArray := prog_10_method_12_code
def yX8_keep : MethodName := ⟨RX8, "keep", "(II)V"⟩
def RX9 : String := "FleetController$WaySearch"
def TX9 : u_T := fun k => match k with
  | 0 => ("FleetController$WaySearch", "table", "LFleetController$Timetable;", true)
  | 1 => ("FleetController$WaySearch", "reached", "[J", true)
  | 2 => ("FleetController$WaySearch", "allowed", "[J", true)
  | 3 => ("FleetController$WaySearch", "takenLow", "J", false)
  | 4 => ("FleetController$WaySearch", "takenHigh", "J", false)
  | 5 => ("FleetController$WaySearch", "map", "LFleetController$Grid;", false)
  | 6 => ("FleetController$WaySearch", "robot", "I", false)
  | 7 => ("FleetController$WaySearch", "start", "I", false)
  | 8 => ("FleetController$WaySearch", "shelf", "I", false)
  | _ => ("FleetController$WaySearch", "goal", "I", false)
def tyX9 : Nat → FieldType := fun k => match k with
  | 0 => .object "FleetController$Timetable"
  | 1 => .array .long
  | 2 => .array .long
  | 3 => .long
  | 4 => .long
  | 5 => .object "FleetController$Grid"
  | 6 => .int
  | 7 => .int
  | 8 => .int
  | _ => .int
theorem nmX9 : ∀ a, a < 10 → ∀ b, b < 10 → a ≠ b → (TX9 a).2.1 ≠ (TX9 b).2.1 := by decide +kernel
theorem tyX9_ok : ∀ k, k < 10 → parseFieldDescriptor (TX9 k).2.2.1 = some (tyX9 k) := by decide +kernel
abbrev cX9_init : ByteArray := prog_11_method_1_code
def yX9_init : MethodName := ⟨RX9, "<init>", "(LFleetController$Grid;LFleetController$Timetable;)V"⟩
abbrev cX9_begin : ByteArray := prog_11_method_2_code
def yX9_begin : MethodName := ⟨RX9, "begin", "(LFleetController$Grid;)V"⟩
abbrev cX9_find : ByteArray := prog_11_method_3_code
def yX9_find : MethodName := ⟨RX9, "find", "(IIII)I"⟩
abbrev cX9_reachGoal : ByteArray := prog_11_method_4_code
def yX9_reachGoal : MethodName := ⟨RX9, "reachGoal", "()I"⟩
abbrev cX9_ticksUntilGoalIsClear : ByteArray := prog_11_method_5_code
def yX9_ticksUntilGoalIsClear : MethodName := ⟨RX9, "ticksUntilGoalIsClear", "()I"⟩
abbrev cX9_lookAtOthers : ByteArray := prog_11_method_6_code
def yX9_lookAtOthers : MethodName := ⟨RX9, "lookAtOthers", "(I)V"⟩
abbrev cX9_avoid : ByteArray := prog_11_method_7_code
def yX9_avoid : MethodName := ⟨RX9, "avoid", "(II)V"⟩
abbrev cX9_spread : ByteArray := prog_11_method_8_code
def yX9_spread : MethodName := ⟨RX9, "spread", "(I)V"⟩
abbrev cX9_narrow : ByteArray := prog_11_method_9_code
def yX9_narrow : MethodName := ⟨RX9, "narrow", "(I)V"⟩
abbrev cX9_follow : ByteArray := prog_11_method_10_code
def yX9_follow : MethodName := ⟨RX9, "follow", "(III)V"⟩
abbrev cX9_leastMove : ByteArray := prog_11_method_11_code
def yX9_leastMove : MethodName := ⟨RX9, "leastMove", "(III)I"⟩
abbrev cX9_empty : ByteArray := prog_11_method_12_code
def yX9_empty : MethodName := ⟨RX9, "empty", "(I)V"⟩
abbrev cX9_add : ByteArray := prog_11_method_13_code
def yX9_add : MethodName := ⟨RX9, "add", "(II)V"⟩
abbrev cX9_holds : ByteArray := prog_11_method_14_code
def yX9_holds : MethodName := ⟨RX9, "holds", "(II)Z"⟩
abbrev cX9_shiftedLow : ByteArray := prog_11_method_15_code
def yX9_shiftedLow : MethodName := ⟨RX9, "shiftedLow", "(JJI)J"⟩
abbrev cX9_shiftedHigh : ByteArray := prog_11_method_16_code
def yX9_shiftedHigh : MethodName := ⟨RX9, "shiftedHigh", "(JJI)J"⟩
def RX10 : String := "FleetController"
def TX10 : u_T := fun k => match k with
  | 0 => ("FleetController", "map", "LFleetController$Grid;", false)
  | 1 => ("FleetController", "draft", "LFleetController$Grid;", false)
  | 2 => ("FleetController", "text", "LFleetController$MapText;", true)
  | 3 => ("FleetController", "orders", "LFleetController$Orders;", true)
  | 4 => ("FleetController", "fleet", "LFleetController$Fleet;", true)
  | _ => ("FleetController", "faultPlace", "I", false)
def tyX10 : Nat → FieldType := fun k => match k with
  | 0 => .object "FleetController$Grid"
  | 1 => .object "FleetController$Grid"
  | 2 => .object "FleetController$MapText"
  | 3 => .object "FleetController$Orders"
  | 4 => .object "FleetController$Fleet"
  | _ => .int
theorem nmX10 : ∀ a, a < 6 → ∀ b, b < 6 → a ≠ b → (TX10 a).2.1 ≠ (TX10 b).2.1 := by decide +kernel
theorem tyX10_ok : ∀ k, k < 6 → parseFieldDescriptor (TX10 k).2.2.1 = some (tyX10 k) := by decide +kernel
abbrev cX10_init : ByteArray := prog_1_method_1_code
def yX10_init : MethodName := ⟨RX10, "<init>", "()V"⟩
abbrev cX10_type : ByteArray := prog_1_method_2_code
def yX10_type : MethodName := ⟨RX10, "type", "(J)I"⟩
abbrev cX10_erase : ByteArray := prog_1_method_3_code
def yX10_erase : MethodName := ⟨RX10, "erase", "()I"⟩
abbrev cX10_read : ByteArray := prog_1_method_4_code
def yX10_read : MethodName := ⟨RX10, "read", "()I"⟩
abbrev cX10_place : ByteArray := prog_1_method_5_code
def yX10_place : MethodName := ⟨RX10, "place", "()I"⟩
abbrev cX10_cell : ByteArray := prog_1_method_6_code
def yX10_cell : MethodName := ⟨RX10, "cell", "(I)I"⟩
abbrev cX10_distance : ByteArray := prog_1_method_7_code
def yX10_distance : MethodName := ⟨RX10, "distance", "(II)I"⟩
abbrev cX10_robot : ByteArray := prog_1_method_8_code
def yX10_robot : MethodName := ⟨RX10, "robot", "(I)I"⟩
abbrev cX10_order : ByteArray := prog_1_method_9_code
def yX10_order : MethodName := ⟨RX10, "order", "(IIII)I"⟩
abbrev cX10_cancel : ByteArray := prog_1_method_10_code
def yX10_cancel : MethodName := ⟨RX10, "cancel", "(I)I"⟩
abbrev cX10_tick : ByteArray := prog_1_method_11_code
def yX10_tick : MethodName := ⟨RX10, "tick", "(I)I"⟩
abbrev cX10_settle : ByteArray := prog_1_method_12_code
def yX10_settle : MethodName := ⟨RX10, "settle", "(I)I"⟩
abbrev cX10_robotOf : ByteArray := prog_1_method_13_code
def yX10_robotOf : MethodName := ⟨RX10, "robotOf", "(II)I"⟩
abbrev cX10_ahead : ByteArray := prog_1_method_14_code
def yX10_ahead : MethodName := ⟨RX10, "ahead", "(II)I"⟩
abbrev cX10_was : ByteArray := prog_1_method_15_code
def yX10_was : MethodName := ⟨RX10, "was", "(II)I"⟩
abbrev cX10_task : ByteArray := prog_1_method_16_code
def yX10_task : MethodName := ⟨RX10, "task", "(II)I"⟩
abbrev cX10_orderOf : ByteArray := prog_1_method_17_code
def yX10_orderOf : MethodName := ⟨RX10, "orderOf", "(II)I"⟩
abbrev cX10_count : ByteArray := prog_1_method_18_code
def yX10_count : MethodName := ⟨RX10, "count", "(I)I"⟩
abbrev cX10_findFault : ByteArray := prog_1_method_19_code
def yX10_findFault : MethodName := ⟨RX10, "findFault", "()I"⟩
abbrev cX10_areShelves : ByteArray := prog_1_method_20_code
def yX10_areShelves : MethodName := ⟨RX10, "areShelves", "(III)Z"⟩
abbrev cX10_refusalOfTicks : ByteArray := prog_1_method_21_code
def yX10_refusalOfTicks : MethodName := ⟨RX10, "refusalOfTicks", "(I)I"⟩
def RX11 : String := "FleetControllerModel"
def TX11 : u_T := fun k => match k with
  | 0 => ("FleetControllerModel", "size", "I", false)
  | 1 => ("FleetControllerModel", "text", "[I", true)
  | 2 => ("FleetControllerModel", "faultPlace", "I", false)
  | 3 => ("FleetControllerModel", "cells", "I", false)
  | 4 => ("FleetControllerModel", "width", "I", false)
  | 5 => ("FleetControllerModel", "kinds", "[I", true)
  | 6 => ("FleetControllerModel", "draft", "[I", true)
  | 7 => ("FleetControllerModel", "draftCells", "I", false)
  | 8 => ("FleetControllerModel", "draftWidth", "I", false)
  | 9 => ("FleetControllerModel", "far", "[I", true)
  | 10 => ("FleetControllerModel", "isSeen", "[Z", true)
  | 11 => ("FleetControllerModel", "time", "I", false)
  | 12 => ("FleetControllerModel", "robots", "I", false)
  | 13 => ("FleetControllerModel", "where", "[I", true)
  | 14 => ("FleetControllerModel", "ends", "[I", true)
  | 15 => ("FleetControllerModel", "tasksOf", "[I", true)
  | 16 => ("FleetControllerModel", "moves", "[I", true)
  | 17 => ("FleetControllerModel", "brought", "[I", true)
  | 18 => ("FleetControllerModel", "offs", "[I", true)
  | 19 => ("FleetControllerModel", "watched", "I", false)
  | 20 => ("FleetControllerModel", "ways", "I", false)
  | 21 => ("FleetControllerModel", "longest", "I", false)
  | 22 => ("FleetControllerModel", "orders", "I", false)
  | 23 => ("FleetControllerModel", "stations", "[I", true)
  | 24 => ("FleetControllerModel", "counts", "[I", true)
  | 25 => ("FleetControllerModel", "firsts", "[I", true)
  | 26 => ("FleetControllerModel", "orderTold", "[I", true)
  | 27 => ("FleetControllerModel", "orderOver", "[I", true)
  | 28 => ("FleetControllerModel", "tasks", "I", false)
  | 29 => ("FleetControllerModel", "taskOrder", "[I", true)
  | 30 => ("FleetControllerModel", "shelves", "[I", true)
  | 31 => ("FleetControllerModel", "states", "[I", true)
  | 32 => ("FleetControllerModel", "takers", "[I", true)
  | 33 => ("FleetControllerModel", "taskTold", "[I", true)
  | 34 => ("FleetControllerModel", "taskTaken", "[I", true)
  | 35 => ("FleetControllerModel", "taskPicked", "[I", true)
  | 36 => ("FleetControllerModel", "taskBrought", "[I", true)
  | 37 => ("FleetControllerModel", "reached", "[Z", true)
  | _ => ("FleetControllerModel", "leads", "[Z", true)
def tyX11 : Nat → FieldType := fun k => match k with
  | 0 => .int
  | 1 => .array .int
  | 2 => .int
  | 3 => .int
  | 4 => .int
  | 5 => .array .int
  | 6 => .array .int
  | 7 => .int
  | 8 => .int
  | 9 => .array .int
  | 10 => .array .boolean
  | 11 => .int
  | 12 => .int
  | 13 => .array .int
  | 14 => .array .int
  | 15 => .array .int
  | 16 => .array .int
  | 17 => .array .int
  | 18 => .array .int
  | 19 => .int
  | 20 => .int
  | 21 => .int
  | 22 => .int
  | 23 => .array .int
  | 24 => .array .int
  | 25 => .array .int
  | 26 => .array .int
  | 27 => .array .int
  | 28 => .int
  | 29 => .array .int
  | 30 => .array .int
  | 31 => .array .int
  | 32 => .array .int
  | 33 => .array .int
  | 34 => .array .int
  | 35 => .array .int
  | 36 => .array .int
  | 37 => .array .boolean
  | _ => .array .boolean
theorem nmX11 : ∀ a, a < 39 → ∀ b, b < 39 → a ≠ b → (TX11 a).2.1 ≠ (TX11 b).2.1 := by decide +kernel
theorem tyX11_ok : ∀ k, k < 39 → parseFieldDescriptor (TX11 k).2.2.1 = some (tyX11 k) := by decide +kernel
abbrev cX11_init : ByteArray := prog_13_method_1_code
def yX11_init : MethodName := ⟨RX11, "<init>", "()V"⟩
abbrev cX11_in : ByteArray := prog_13_method_2_code
def yX11_in : MethodName := ⟨RX11, "in", "(III)Z"⟩
abbrev cX11_type : ByteArray := prog_13_method_3_code
def yX11_type : MethodName := ⟨RX11, "type", "(J)I"⟩
abbrev cX11_erase : ByteArray := prog_13_method_4_code
def yX11_erase : MethodName := ⟨RX11, "erase", "()I"⟩
abbrev cX11_kindOf : ByteArray := prog_13_method_5_code
def yX11_kindOf : MethodName := ⟨RX11, "kindOf", "(I)I"⟩
abbrev cX11_wrong : ByteArray := prog_13_method_6_code
def yX11_wrong : MethodName := ⟨RX11, "wrong", "(II)I"⟩
abbrev cX11_readLines : ByteArray := prog_13_method_7_code
def yX11_readLines : MethodName := ⟨RX11, "readLines", "()I"⟩
abbrev cX11_hasKind : ByteArray := prog_13_method_8_code
def yX11_hasKind : MethodName := ⟨RX11, "hasKind", "(I)Z"⟩
abbrev cX11_beside : ByteArray := prog_13_method_9_code
def yX11_beside : MethodName := ⟨RX11, "beside", "(IIII)I"⟩
abbrev cX11_look : ByteArray := prog_13_method_10_code
def yX11_look : MethodName := ⟨RX11, "look", "(I)V"⟩
abbrev cX11_isApart : ByteArray := prog_13_method_11_code
def yX11_isApart : MethodName := ⟨RX11, "isApart", "(I)Z"⟩
abbrev cX11_read : ByteArray := prog_13_method_12_code
def yX11_read : MethodName := ⟨RX11, "read", "()I"⟩
abbrev cX11_measure : ByteArray := prog_13_method_13_code
def yX11_measure : MethodName := ⟨RX11, "measure", "(I)V"⟩
abbrev cX11_place : ByteArray := prog_13_method_14_code
def yX11_place : MethodName := ⟨RX11, "place", "()I"⟩
abbrev cX11_cell : ByteArray := prog_13_method_15_code
def yX11_cell : MethodName := ⟨RX11, "cell", "(I)I"⟩
abbrev cX11_distance : ByteArray := prog_13_method_16_code
def yX11_distance : MethodName := ⟨RX11, "distance", "(II)I"⟩
abbrev cX11_isKind : ByteArray := prog_13_method_17_code
def yX11_isKind : MethodName := ⟨RX11, "isKind", "(II)Z"⟩
abbrev cX11_at : ByteArray := prog_13_method_18_code
def yX11_at : MethodName := ⟨RX11, "at", "(II)I"⟩
abbrev cX11_endOf : ByteArray := prog_13_method_19_code
def yX11_endOf : MethodName := ⟨RX11, "endOf", "(I)I"⟩
abbrev cX11_robot : ByteArray := prog_13_method_20_code
def yX11_robot : MethodName := ⟨RX11, "robot", "(I)I"⟩
abbrev cX11_addTask : ByteArray := prog_13_method_21_code
def yX11_addTask : MethodName := ⟨RX11, "addTask", "(I)V"⟩
abbrev cX11_order : ByteArray := prog_13_method_22_code
def yX11_order : MethodName := ⟨RX11, "order", "(IIII)I"⟩
abbrev cX11_isOpen : ByteArray := prog_13_method_23_code
def yX11_isOpen : MethodName := ⟨RX11, "isOpen", "(I)Z"⟩
abbrev cX11_close : ByteArray := prog_13_method_24_code
def yX11_close : MethodName := ⟨RX11, "close", "(I)V"⟩
abbrev cX11_cancel : ByteArray := prog_13_method_25_code
def yX11_cancel : MethodName := ⟨RX11, "cancel", "(I)I"⟩
abbrev cX11_lastIn : ByteArray := prog_13_method_26_code
def yX11_lastIn : MethodName := ⟨RX11, "lastIn", "(II)I"⟩
abbrev cX11_mayGo : ByteArray := prog_13_method_27_code
def yX11_mayGo : MethodName := ⟨RX11, "mayGo", "(IIII)Z"⟩
abbrev cX11_state : ByteArray := prog_13_method_28_code
def yX11_state : MethodName := ⟨RX11, "state", "(IZI)I"⟩
abbrev cX11_spread : ByteArray := prog_13_method_29_code
def yX11_spread : MethodName := ⟨RX11, "spread", "(III)V"⟩
abbrev cX11_trace : ByteArray := prog_13_method_30_code
def yX11_trace : MethodName := ⟨RX11, "trace", "(III)V"⟩
abbrev cX11_findWay : ByteArray := prog_13_method_31_code
def yX11_findWay : MethodName := ⟨RX11, "findWay", "(III)V"⟩
abbrev cX11_follow : ByteArray := prog_13_method_32_code
def yX11_follow : MethodName := ⟨RX11, "follow", "(IIIZ)V"⟩
abbrev cX11_isOthersEnd : ByteArray := prog_13_method_33_code
def yX11_isOthersEnd : MethodName := ⟨RX11, "isOthersEnd", "(II)Z"⟩
abbrev cX11_fitTask : ByteArray := prog_13_method_34_code
def yX11_fitTask : MethodName := ⟨RX11, "fitTask", "(I)I"⟩
abbrev cX11_isWanted : ByteArray := prog_13_method_35_code
def yX11_isWanted : MethodName := ⟨RX11, "isWanted", "(I)Z"⟩
abbrev cX11_aside : ByteArray := prog_13_method_36_code
def yX11_aside : MethodName := ⟨RX11, "aside", "(I)I"⟩
abbrev cX11_seek : ByteArray := prog_13_method_37_code
def yX11_seek : MethodName := ⟨RX11, "seek", "(I)V"⟩
abbrev cX11_settleRobot : ByteArray := prog_13_method_38_code
def yX11_settleRobot : MethodName := ⟨RX11, "settleRobot", "(I)V"⟩
abbrev cX11_watch : ByteArray := prog_13_method_39_code
def yX11_watch : MethodName := ⟨RX11, "watch", "()V"⟩
abbrev cX11_tickOnce : ByteArray := prog_13_method_40_code
def yX11_tickOnce : MethodName := ⟨RX11, "tickOnce", "()V"⟩
abbrev cX11_stay : ByteArray := prog_13_method_41_code
def yX11_stay : MethodName := ⟨RX11, "stay", "(I)V"⟩
abbrev cX11_refusal : ByteArray := prog_13_method_42_code
def yX11_refusal : MethodName := ⟨RX11, "refusal", "(I)I"⟩
abbrev cX11_tick : ByteArray := prog_13_method_43_code
def yX11_tick : MethodName := ⟨RX11, "tick", "(I)I"⟩
abbrev cX11_openOrders : ByteArray := prog_13_method_44_code
def yX11_openOrders : MethodName := ⟨RX11, "openOrders", "()I"⟩
abbrev cX11_settle : ByteArray := prog_13_method_45_code
def yX11_settle : MethodName := ⟨RX11, "settle", "(I)I"⟩
abbrev cX11_robotOf : ByteArray := prog_13_method_46_code
def yX11_robotOf : MethodName := ⟨RX11, "robotOf", "(II)I"⟩
abbrev cX11_ahead : ByteArray := prog_13_method_47_code
def yX11_ahead : MethodName := ⟨RX11, "ahead", "(II)I"⟩
abbrev cX11_was : ByteArray := prog_13_method_48_code
def yX11_was : MethodName := ⟨RX11, "was", "(II)I"⟩
abbrev cX11_task : ByteArray := prog_13_method_49_code
def yX11_task : MethodName := ⟨RX11, "task", "(II)I"⟩
abbrev cX11_orderOf : ByteArray := prog_13_method_50_code
def yX11_orderOf : MethodName := ⟨RX11, "orderOf", "(II)I"⟩
abbrev cX11_pending : ByteArray := prog_13_method_51_code
def yX11_pending : MethodName := ⟨RX11, "pending", "()I"⟩
abbrev cX11_allMoves : ByteArray := prog_13_method_52_code
def yX11_allMoves : MethodName := ⟨RX11, "allMoves", "()I"⟩
abbrev cX11_count : ByteArray := prog_13_method_53_code
def yX11_count : MethodName := ⟨RX11, "count", "(I)I"⟩
def RJ9 : String := "java/lang/Math"
def TJ9 : u_T := fun k => match k with
  | _ => ("", "", "", false)
def tyJ9 : Nat → FieldType := fun k => match k with
  | _ => .int
theorem nmJ9 : ∀ a, a < 0 → ∀ b, b < 0 → a ≠ b → (TJ9 a).2.1 ≠ (TJ9 b).2.1 := by decide +kernel
theorem tyJ9_ok : ∀ k, k < 0 → parseFieldDescriptor (TJ9 k).2.2.1 = some (tyJ9 k) := by decide +kernel
abbrev cJ9_max_7cf53 : ByteArray := prog_14_method_65_code
def yJ9_max_7cf53 : MethodName := ⟨RJ9, "max", "(II)I"⟩
abbrev cJ9_min_7cf53 : ByteArray := prog_14_method_69_code
def yJ9_min_7cf53 : MethodName := ⟨RJ9, "min", "(II)I"⟩
def RJ10 : String := "java/lang/System"
def TJ10 : u_T := fun k => match k with
  | _ => ("", "", "", false)
def tyJ10 : Nat → FieldType := fun k => match k with
  | _ => .int
theorem nmJ10 : ∀ a, a < 0 → ∀ b, b < 0 → a ≠ b → (TJ10 a).2.1 ≠ (TJ10 b).2.1 := by decide +kernel
theorem tyJ10_ok : ∀ k, k < 0 → parseFieldDescriptor (TJ10 k).2.2.1 = some (tyJ10 k) := by decide +kernel
def RJ7 : String := "java/util/Arrays"
def TJ7 : u_T := fun k => match k with
  | _ => ("", "", "", false)
def tyJ7 : Nat → FieldType := fun k => match k with
  | _ => .int
theorem nmJ7 : ∀ a, a < 0 → ∀ b, b < 0 → a ≠ b → (TJ7 a).2.1 ≠ (TJ7 b).2.1 := by decide +kernel
theorem tyJ7_ok : ∀ k, k < 0 → parseFieldDescriptor (TJ7 k).2.2.1 = some (tyJ7 k) := by decide +kernel
abbrev cJ7_fill_d0a16 : ByteArray := prog_16_method_101_code
def yJ7_fill_d0a16 : MethodName := ⟨RJ7, "fill", "([JJ)V"⟩
abbrev cJ7_fill_53178 : ByteArray := prog_16_method_103_code
def yJ7_fill_53178 : MethodName := ⟨RJ7, "fill", "([II)V"⟩
def RL : String := "FleetControllerLaw"
abbrev cL_law : ByteArray := code
def yL_law : MethodName := ⟨RL, "law", "([I)Z"⟩
end
section
theorem dX0_init_0 : decode cX0_init 0 = .ok (.aload_n 0, 1) := by decide +kernel
theorem dX0_init_1 : decode cX0_init 1 = .ok (.invokespecial 3, 3) := by decide +kernel
theorem dX0_init_4 : decode cX0_init 4 = .ok (.aload_n 0, 1) := by decide +kernel
theorem dX0_init_5 : decode cX0_init 5 = .ok (.bipush 6, 2) := by decide +kernel
theorem dX0_init_7 : decode cX0_init 7 = .ok (.anewarray 9, 3) := by decide +kernel
theorem dX0_init_10 : decode cX0_init 10 = .ok (.putfield 11, 3) := by decide +kernel
theorem dX0_init_13 : decode cX0_init 13 = .ok (.aload_n 0, 1) := by decide +kernel
theorem dX0_init_14 : decode cX0_init 14 = .ok (.new 17, 3) := by decide +kernel
theorem dX0_init_17 : decode cX0_init 17 = .ok (.dup, 1) := by decide +kernel
theorem dX0_init_18 : decode cX0_init 18 = .ok (.invokespecial 19, 3) := by decide +kernel
theorem dX0_init_21 : decode cX0_init 21 = .ok (.putfield 20, 3) := by decide +kernel
theorem dX0_init_24 : decode cX0_init 24 = .ok (.aload_n 0, 1) := by decide +kernel
theorem dX0_init_25 : decode cX0_init 25 = .ok (.new 24, 3) := by decide +kernel
theorem dX0_init_28 : decode cX0_init 28 = .ok (.dup, 1) := by decide +kernel
theorem dX0_init_29 : decode cX0_init 29 = .ok (.invokespecial 26, 3) := by decide +kernel
theorem dX0_init_32 : decode cX0_init 32 = .ok (.putfield 27, 3) := by decide +kernel
theorem dX0_init_35 : decode cX0_init 35 = .ok (.aload_n 0, 1) := by decide +kernel
theorem dX0_init_36 : decode cX0_init 36 = .ok (.aload_n 1, 1) := by decide +kernel
theorem dX0_init_37 : decode cX0_init 37 = .ok (.putfield 31, 3) := by decide +kernel
theorem dX0_init_40 : decode cX0_init 40 = .ok (.aload_n 0, 1) := by decide +kernel
theorem dX0_init_41 : decode cX0_init 41 = .ok (.aload_n 2, 1) := by decide +kernel
theorem dX0_init_42 : decode cX0_init 42 = .ok (.putfield 35, 3) := by decide +kernel
theorem dX0_init_45 : decode cX0_init 45 = .ok (.aload_n 0, 1) := by decide +kernel
theorem dX0_init_46 : decode cX0_init 46 = .ok (.new 39, 3) := by decide +kernel
theorem dX0_init_49 : decode cX0_init 49 = .ok (.dup, 1) := by decide +kernel
theorem dX0_init_50 : decode cX0_init 50 = .ok (.aload_n 1, 1) := by decide +kernel
theorem dX0_init_51 : decode cX0_init 51 = .ok (.aload_n 0, 1) := by decide +kernel
theorem dX0_init_52 : decode cX0_init 52 = .ok (.getfield 20, 3) := by decide +kernel
theorem dX0_init_55 : decode cX0_init 55 = .ok (.invokespecial 41, 3) := by decide +kernel
theorem dX0_init_58 : decode cX0_init 58 = .ok (.putfield 44, 3) := by decide +kernel
theorem dX0_init_61 : decode cX0_init 61 = .ok (.iconst 0, 1) := by decide +kernel
theorem dX0_init_62 : decode cX0_init 62 = .ok (.istore_n 3, 1) := by decide +kernel
theorem dX0_init_63 : decode cX0_init 63 = .ok (.iload_n 3, 1) := by decide +kernel
theorem dX0_init_64 : decode cX0_init 64 = .ok (.bipush 6, 2) := by decide +kernel
theorem dX0_init_66 : decode cX0_init 66 = .ok (.if_icmp .ge 22, 3) := by decide +kernel
theorem dX0_init_69 : decode cX0_init 69 = .ok (.aload_n 0, 1) := by decide +kernel
theorem dX0_init_70 : decode cX0_init 70 = .ok (.getfield 11, 3) := by decide +kernel
theorem dX0_init_73 : decode cX0_init 73 = .ok (.iload_n 3, 1) := by decide +kernel
theorem dX0_init_74 : decode cX0_init 74 = .ok (.new 9, 3) := by decide +kernel
theorem dX0_init_77 : decode cX0_init 77 = .ok (.dup, 1) := by decide +kernel
theorem dX0_init_78 : decode cX0_init 78 = .ok (.invokespecial 48, 3) := by decide +kernel
theorem dX0_init_81 : decode cX0_init 81 = .ok (.aastore, 1) := by decide +kernel
theorem dX0_init_82 : decode cX0_init 82 = .ok (.iinc 3 1, 3) := by decide +kernel
theorem dX0_init_85 : decode cX0_init 85 = .ok (.goto (-22), 3) := by decide +kernel
theorem dX0_init_88 : decode cX0_init 88 = .ok (.return_, 1) := by decide +kernel
theorem dX0_size_0 : decode cX0_size 0 = .ok (.aload_n 0, 1) := by decide +kernel
theorem dX0_size_1 : decode cX0_size 1 = .ok (.getfield 49, 3) := by decide +kernel
theorem dX0_size_4 : decode cX0_size 4 = .ok (.ireturn, 1) := by decide +kernel
theorem dX0_now_0 : decode cX0_now 0 = .ok (.aload_n 0, 1) := by decide +kernel
theorem dX0_now_1 : decode cX0_now 1 = .ok (.getfield 53, 3) := by decide +kernel
theorem dX0_now_4 : decode cX0_now 4 = .ok (.ireturn, 1) := by decide +kernel
theorem dX0_ways_0 : decode cX0_ways 0 = .ok (.aload_n 0, 1) := by decide +kernel
theorem dX0_ways_1 : decode cX0_ways 1 = .ok (.getfield 56, 3) := by decide +kernel
theorem dX0_ways_4 : decode cX0_ways 4 = .ok (.ireturn, 1) := by decide +kernel
theorem dX0_longestWay_0 : decode cX0_longestWay 0 = .ok (.aload_n 0, 1) := by decide +kernel
theorem dX0_longestWay_1 : decode cX0_longestWay 1 = .ok (.getfield 59, 3) := by decide +kernel
theorem dX0_longestWay_4 : decode cX0_longestWay 4 = .ok (.ireturn, 1) := by decide +kernel
theorem dX0_alarms_0 : decode cX0_alarms 0 = .ok (.aload_n 0, 1) := by decide +kernel
theorem dX0_alarms_1 : decode cX0_alarms 1 = .ok (.getfield 27, 3) := by decide +kernel
theorem dX0_alarms_4 : decode cX0_alarms 4 = .ok (.invokevirtual 62, 3) := by decide +kernel
theorem dX0_alarms_7 : decode cX0_alarms 7 = .ok (.ireturn, 1) := by decide +kernel
theorem dX0_moves_0 : decode cX0_moves 0 = .ok (.iconst 0, 1) := by decide +kernel
theorem dX0_moves_1 : decode cX0_moves 1 = .ok (.istore_n 1, 1) := by decide +kernel
theorem dX0_moves_2 : decode cX0_moves 2 = .ok (.iconst 0, 1) := by decide +kernel
theorem dX0_moves_3 : decode cX0_moves 3 = .ok (.istore_n 2, 1) := by decide +kernel
theorem dX0_moves_4 : decode cX0_moves 4 = .ok (.iload_n 2, 1) := by decide +kernel
theorem dX0_moves_5 : decode cX0_moves 5 = .ok (.aload_n 0, 1) := by decide +kernel
theorem dX0_moves_6 : decode cX0_moves 6 = .ok (.getfield 49, 3) := by decide +kernel
theorem dX0_moves_9 : decode cX0_moves 9 = .ok (.if_icmp .ge 21, 3) := by decide +kernel
theorem dX0_moves_12 : decode cX0_moves 12 = .ok (.iload_n 1, 1) := by decide +kernel
theorem dX0_moves_13 : decode cX0_moves 13 = .ok (.aload_n 0, 1) := by decide +kernel
theorem dX0_moves_14 : decode cX0_moves 14 = .ok (.getfield 11, 3) := by decide +kernel
theorem dX0_moves_17 : decode cX0_moves 17 = .ok (.iload_n 2, 1) := by decide +kernel
theorem dX0_moves_18 : decode cX0_moves 18 = .ok (.aaload, 1) := by decide +kernel
theorem dX0_moves_19 : decode cX0_moves 19 = .ok (.getfield 66, 3) := by decide +kernel
theorem dX0_moves_22 : decode cX0_moves 22 = .ok (.iadd, 1) := by decide +kernel
theorem dX0_moves_23 : decode cX0_moves 23 = .ok (.istore_n 1, 1) := by decide +kernel
theorem dX0_moves_24 : decode cX0_moves 24 = .ok (.iinc 2 1, 3) := by decide +kernel
theorem dX0_moves_27 : decode cX0_moves 27 = .ok (.goto (-23), 3) := by decide +kernel
theorem dX0_moves_30 : decode cX0_moves 30 = .ok (.iload_n 1, 1) := by decide +kernel
theorem dX0_moves_31 : decode cX0_moves 31 = .ok (.ireturn, 1) := by decide +kernel
theorem dX0_begin_0 : decode cX0_begin 0 = .ok (.aload_n 0, 1) := by decide +kernel
theorem dX0_begin_1 : decode cX0_begin 1 = .ok (.aload_n 1, 1) := by decide +kernel
theorem dX0_begin_2 : decode cX0_begin 2 = .ok (.putfield 31, 3) := by decide +kernel
theorem dX0_begin_5 : decode cX0_begin 5 = .ok (.aload_n 0, 1) := by decide +kernel
theorem dX0_begin_6 : decode cX0_begin 6 = .ok (.getfield 44, 3) := by decide +kernel
theorem dX0_begin_9 : decode cX0_begin 9 = .ok (.aload_n 1, 1) := by decide +kernel
theorem dX0_begin_10 : decode cX0_begin 10 = .ok (.invokevirtual 69, 3) := by decide +kernel
theorem dX0_begin_13 : decode cX0_begin 13 = .ok (.aload_n 0, 1) := by decide +kernel
theorem dX0_begin_14 : decode cX0_begin 14 = .ok (.getfield 20, 3) := by decide +kernel
theorem dX0_begin_17 : decode cX0_begin 17 = .ok (.invokevirtual 73, 3) := by decide +kernel
theorem dX0_begin_20 : decode cX0_begin 20 = .ok (.aload_n 0, 1) := by decide +kernel
theorem dX0_begin_21 : decode cX0_begin 21 = .ok (.getfield 27, 3) := by decide +kernel
theorem dX0_begin_24 : decode cX0_begin 24 = .ok (.invokevirtual 76, 3) := by decide +kernel
theorem dX0_begin_27 : decode cX0_begin 27 = .ok (.aload_n 0, 1) := by decide +kernel
theorem dX0_begin_28 : decode cX0_begin 28 = .ok (.iconst 0, 1) := by decide +kernel
theorem dX0_begin_29 : decode cX0_begin 29 = .ok (.putfield 49, 3) := by decide +kernel
theorem dX0_begin_32 : decode cX0_begin 32 = .ok (.aload_n 0, 1) := by decide +kernel
theorem dX0_begin_33 : decode cX0_begin 33 = .ok (.iconst 0, 1) := by decide +kernel
theorem dX0_begin_34 : decode cX0_begin 34 = .ok (.putfield 53, 3) := by decide +kernel
theorem dX0_begin_37 : decode cX0_begin 37 = .ok (.aload_n 0, 1) := by decide +kernel
theorem dX0_begin_38 : decode cX0_begin 38 = .ok (.iconst 0, 1) := by decide +kernel
theorem dX0_begin_39 : decode cX0_begin 39 = .ok (.putfield 56, 3) := by decide +kernel
theorem dX0_begin_42 : decode cX0_begin 42 = .ok (.aload_n 0, 1) := by decide +kernel
theorem dX0_begin_43 : decode cX0_begin 43 = .ok (.iconst 0, 1) := by decide +kernel
theorem dX0_begin_44 : decode cX0_begin 44 = .ok (.putfield 59, 3) := by decide +kernel
theorem dX0_begin_47 : decode cX0_begin 47 = .ok (.return_, 1) := by decide +kernel
theorem dX0_put_0 : decode cX0_put 0 = .ok (.aload_n 0, 1) := by decide +kernel
theorem dX0_put_1 : decode cX0_put 1 = .ok (.getfield 49, 3) := by decide +kernel
theorem dX0_put_4 : decode cX0_put 4 = .ok (.bipush 6, 2) := by decide +kernel
theorem dX0_put_6 : decode cX0_put 6 = .ok (.if_icmp .ne 6, 3) := by decide +kernel
theorem dX0_put_9 : decode cX0_put 9 = .ok (.bipush (-3), 2) := by decide +kernel
theorem dX0_put_11 : decode cX0_put 11 = .ok (.ireturn, 1) := by decide +kernel
theorem dX0_put_12 : decode cX0_put 12 = .ok (.aload_n 0, 1) := by decide +kernel
theorem dX0_put_13 : decode cX0_put 13 = .ok (.getfield 20, 3) := by decide +kernel
theorem dX0_put_16 : decode cX0_put 16 = .ok (.iload_n 1, 1) := by decide +kernel
theorem dX0_put_17 : decode cX0_put 17 = .ok (.invokevirtual 77, 3) := by decide +kernel
theorem dX0_put_20 : decode cX0_put 20 = .ok (.iconst (-1), 1) := by decide +kernel
theorem dX0_put_21 : decode cX0_put 21 = .ok (.if_icmp .eq 5, 3) := by decide +kernel
theorem dX0_put_24 : decode cX0_put 24 = .ok (.iconst (-1), 1) := by decide +kernel
theorem dX0_put_25 : decode cX0_put 25 = .ok (.ireturn, 1) := by decide +kernel
theorem dX0_put_26 : decode cX0_put 26 = .ok (.aload_n 0, 1) := by decide +kernel
theorem dX0_put_27 : decode cX0_put 27 = .ok (.getfield 11, 3) := by decide +kernel
theorem dX0_put_30 : decode cX0_put 30 = .ok (.aload_n 0, 1) := by decide +kernel
theorem dX0_put_31 : decode cX0_put 31 = .ok (.getfield 49, 3) := by decide +kernel
theorem dX0_put_34 : decode cX0_put 34 = .ok (.aaload, 1) := by decide +kernel
theorem dX0_put_35 : decode cX0_put 35 = .ok (.invokevirtual 81, 3) := by decide +kernel
theorem dX0_put_38 : decode cX0_put 38 = .ok (.aload_n 0, 1) := by decide +kernel
theorem dX0_put_39 : decode cX0_put 39 = .ok (.getfield 20, 3) := by decide +kernel
theorem dX0_put_42 : decode cX0_put 42 = .ok (.iload_n 1, 1) := by decide +kernel
theorem dX0_put_43 : decode cX0_put 43 = .ok (.invokevirtual 83, 3) := by decide +kernel
theorem dX0_put_46 : decode cX0_put 46 = .ok (.aload_n 0, 1) := by decide +kernel
theorem dX0_put_47 : decode cX0_put 47 = .ok (.dup, 1) := by decide +kernel
theorem dX0_put_48 : decode cX0_put 48 = .ok (.getfield 49, 3) := by decide +kernel
theorem dX0_put_51 : decode cX0_put 51 = .ok (.iconst 1, 1) := by decide +kernel
theorem dX0_put_52 : decode cX0_put 52 = .ok (.iadd, 1) := by decide +kernel
theorem dX0_put_53 : decode cX0_put 53 = .ok (.putfield 49, 3) := by decide +kernel
theorem dX0_put_56 : decode cX0_put 56 = .ok (.aload_n 0, 1) := by decide +kernel
theorem dX0_put_57 : decode cX0_put 57 = .ok (.getfield 49, 3) := by decide +kernel
theorem dX0_put_60 : decode cX0_put 60 = .ok (.iconst 1, 1) := by decide +kernel
theorem dX0_put_61 : decode cX0_put 61 = .ok (.isub, 1) := by decide +kernel
theorem dX0_put_62 : decode cX0_put 62 = .ok (.ireturn, 1) := by decide +kernel
theorem dX0_step_0 : decode cX0_step 0 = .ok (.iconst 0, 1) := by decide +kernel
theorem dX0_step_1 : decode cX0_step 1 = .ok (.istore_n 1, 1) := by decide +kernel
theorem dX0_step_2 : decode cX0_step 2 = .ok (.iload_n 1, 1) := by decide +kernel
theorem dX0_step_3 : decode cX0_step 3 = .ok (.aload_n 0, 1) := by decide +kernel
theorem dX0_step_4 : decode cX0_step 4 = .ok (.getfield 49, 3) := by decide +kernel
theorem dX0_step_7 : decode cX0_step 7 = .ok (.if_icmp .ge 39, 3) := by decide +kernel
theorem dX0_step_10 : decode cX0_step 10 = .ok (.aload_n 0, 1) := by decide +kernel
theorem dX0_step_11 : decode cX0_step 11 = .ok (.getfield 35, 3) := by decide +kernel
theorem dX0_step_14 : decode cX0_step 14 = .ok (.invokevirtual 87, 3) := by decide +kernel
theorem dX0_step_17 : decode cX0_step 17 = .ok (.ifCond .le 23, 3) := by decide +kernel
theorem dX0_step_20 : decode cX0_step 20 = .ok (.aload_n 0, 1) := by decide +kernel
theorem dX0_step_21 : decode cX0_step 21 = .ok (.getfield 20, 3) := by decide +kernel
theorem dX0_step_24 : decode cX0_step 24 = .ok (.iload_n 1, 1) := by decide +kernel
theorem dX0_step_25 : decode cX0_step 25 = .ok (.invokevirtual 92, 3) := by decide +kernel
theorem dX0_step_28 : decode cX0_step 28 = .ok (.aload_n 0, 1) := by decide +kernel
theorem dX0_step_29 : decode cX0_step 29 = .ok (.getfield 53, 3) := by decide +kernel
theorem dX0_step_32 : decode cX0_step 32 = .ok (.if_icmp .gt 8, 3) := by decide +kernel
theorem dX0_step_35 : decode cX0_step 35 = .ok (.aload_n 0, 1) := by decide +kernel
theorem dX0_step_36 : decode cX0_step 36 = .ok (.iload_n 1, 1) := by decide +kernel
theorem dX0_step_37 : decode cX0_step 37 = .ok (.invokevirtual 95, 3) := by decide +kernel
theorem dX0_step_40 : decode cX0_step 40 = .ok (.iinc 1 1, 3) := by decide +kernel
theorem dX0_step_43 : decode cX0_step 43 = .ok (.goto (-41), 3) := by decide +kernel
theorem dX0_step_46 : decode cX0_step 46 = .ok (.aload_n 0, 1) := by decide +kernel
theorem dX0_step_47 : decode cX0_step 47 = .ok (.dup, 1) := by decide +kernel
theorem dX0_step_48 : decode cX0_step 48 = .ok (.getfield 53, 3) := by decide +kernel
theorem dX0_step_51 : decode cX0_step 51 = .ok (.iconst 1, 1) := by decide +kernel
theorem dX0_step_52 : decode cX0_step 52 = .ok (.iadd, 1) := by decide +kernel
theorem dX0_step_53 : decode cX0_step 53 = .ok (.putfield 53, 3) := by decide +kernel
theorem dX0_step_56 : decode cX0_step 56 = .ok (.iconst 0, 1) := by decide +kernel
theorem dX0_step_57 : decode cX0_step 57 = .ok (.istore_n 1, 1) := by decide +kernel
theorem dX0_step_58 : decode cX0_step 58 = .ok (.iload_n 1, 1) := by decide +kernel
theorem dX0_step_59 : decode cX0_step 59 = .ok (.aload_n 0, 1) := by decide +kernel
theorem dX0_step_60 : decode cX0_step 60 = .ok (.getfield 49, 3) := by decide +kernel
theorem dX0_step_63 : decode cX0_step 63 = .ok (.if_icmp .ge 14, 3) := by decide +kernel
theorem dX0_step_66 : decode cX0_step 66 = .ok (.aload_n 0, 1) := by decide +kernel
theorem dX0_step_67 : decode cX0_step 67 = .ok (.iload_n 1, 1) := by decide +kernel
theorem dX0_step_68 : decode cX0_step 68 = .ok (.invokevirtual 98, 3) := by decide +kernel
theorem dX0_step_71 : decode cX0_step 71 = .ok (.iinc 1 1, 3) := by decide +kernel
theorem dX0_step_74 : decode cX0_step 74 = .ok (.goto (-16), 3) := by decide +kernel
theorem dX0_step_77 : decode cX0_step 77 = .ok (.aload_n 0, 1) := by decide +kernel
theorem dX0_step_78 : decode cX0_step 78 = .ok (.getfield 27, 3) := by decide +kernel
theorem dX0_step_81 : decode cX0_step 81 = .ok (.aload_n 0, 1) := by decide +kernel
theorem dX0_step_82 : decode cX0_step 82 = .ok (.getfield 31, 3) := by decide +kernel
theorem dX0_step_85 : decode cX0_step 85 = .ok (.aload_n 0, 1) := by decide +kernel
theorem dX0_step_86 : decode cX0_step 86 = .ok (.getfield 20, 3) := by decide +kernel
theorem dX0_step_89 : decode cX0_step 89 = .ok (.aload_n 0, 1) := by decide +kernel
theorem dX0_step_90 : decode cX0_step 90 = .ok (.getfield 53, 3) := by decide +kernel
theorem dX0_step_93 : decode cX0_step 93 = .ok (.invokevirtual 101, 3) := by decide +kernel
theorem dX0_step_96 : decode cX0_step 96 = .ok (.return_, 1) := by decide +kernel
theorem dX0_lookForWork_0 : decode cX0_lookForWork 0 = .ok (.aload_n 0, 1) := by decide +kernel
theorem dX0_lookForWork_1 : decode cX0_lookForWork 1 = .ok (.getfield 20, 3) := by decide +kernel
theorem dX0_lookForWork_4 : decode cX0_lookForWork 4 = .ok (.iload_n 1, 1) := by decide +kernel
theorem dX0_lookForWork_5 : decode cX0_lookForWork 5 = .ok (.aload_n 0, 1) := by decide +kernel
theorem dX0_lookForWork_6 : decode cX0_lookForWork 6 = .ok (.getfield 53, 3) := by decide +kernel
theorem dX0_lookForWork_9 : decode cX0_lookForWork 9 = .ok (.invokevirtual 105, 3) := by decide +kernel
theorem dX0_lookForWork_12 : decode cX0_lookForWork 12 = .ok (.istore_n 2, 1) := by decide +kernel
theorem dX0_lookForWork_13 : decode cX0_lookForWork 13 = .ok (.aload_n 0, 1) := by decide +kernel
theorem dX0_lookForWork_14 : decode cX0_lookForWork 14 = .ok (.iload_n 1, 1) := by decide +kernel
theorem dX0_lookForWork_15 : decode cX0_lookForWork 15 = .ok (.iload_n 2, 1) := by decide +kernel
theorem dX0_lookForWork_16 : decode cX0_lookForWork 16 = .ok (.invokevirtual 109, 3) := by decide +kernel
theorem dX0_lookForWork_19 : decode cX0_lookForWork 19 = .ok (.istore_n 3, 1) := by decide +kernel
theorem dX0_lookForWork_20 : decode cX0_lookForWork 20 = .ok (.iload_n 3, 1) := by decide +kernel
theorem dX0_lookForWork_21 : decode cX0_lookForWork 21 = .ok (.iconst (-1), 1) := by decide +kernel
theorem dX0_lookForWork_22 : decode cX0_lookForWork 22 = .ok (.if_icmp .eq 52, 3) := by decide +kernel
theorem dX0_lookForWork_25 : decode cX0_lookForWork 25 = .ok (.aload_n 0, 1) := by decide +kernel
theorem dX0_lookForWork_26 : decode cX0_lookForWork 26 = .ok (.getfield 35, 3) := by decide +kernel
theorem dX0_lookForWork_29 : decode cX0_lookForWork 29 = .ok (.iload_n 3, 1) := by decide +kernel
theorem dX0_lookForWork_30 : decode cX0_lookForWork 30 = .ok (.invokevirtual 112, 3) := by decide +kernel
theorem dX0_lookForWork_33 : decode cX0_lookForWork 33 = .ok (.astore 4, 2) := by decide +kernel
theorem dX0_lookForWork_35 : decode cX0_lookForWork 35 = .ok (.aload_n 0, 1) := by decide +kernel
theorem dX0_lookForWork_36 : decode cX0_lookForWork 36 = .ok (.aload_n 0, 1) := by decide +kernel
theorem dX0_lookForWork_37 : decode cX0_lookForWork 37 = .ok (.getfield 44, 3) := by decide +kernel
theorem dX0_lookForWork_40 : decode cX0_lookForWork 40 = .ok (.iload_n 1, 1) := by decide +kernel
theorem dX0_lookForWork_41 : decode cX0_lookForWork 41 = .ok (.aload_n 0, 1) := by decide +kernel
theorem dX0_lookForWork_42 : decode cX0_lookForWork 42 = .ok (.getfield 53, 3) := by decide +kernel
theorem dX0_lookForWork_45 : decode cX0_lookForWork 45 = .ok (.aload 4, 2) := by decide +kernel
theorem dX0_lookForWork_47 : decode cX0_lookForWork 47 = .ok (.getfield 116, 3) := by decide +kernel
theorem dX0_lookForWork_50 : decode cX0_lookForWork 50 = .ok (.aload 4, 2) := by decide +kernel
theorem dX0_lookForWork_52 : decode cX0_lookForWork 52 = .ok (.getfield 121, 3) := by decide +kernel
theorem dX0_lookForWork_55 : decode cX0_lookForWork 55 = .ok (.invokevirtual 124, 3) := by decide +kernel
theorem dX0_lookForWork_58 : decode cX0_lookForWork 58 = .ok (.invokevirtual 128, 3) := by decide +kernel
theorem dX0_lookForWork_61 : decode cX0_lookForWork 61 = .ok (.ifCond .eq 10, 3) := by decide +kernel
theorem dX0_lookForWork_64 : decode cX0_lookForWork 64 = .ok (.aload_n 0, 1) := by decide +kernel
theorem dX0_lookForWork_65 : decode cX0_lookForWork 65 = .ok (.iload_n 1, 1) := by decide +kernel
theorem dX0_lookForWork_66 : decode cX0_lookForWork 66 = .ok (.iload_n 2, 1) := by decide +kernel
theorem dX0_lookForWork_67 : decode cX0_lookForWork 67 = .ok (.iload_n 3, 1) := by decide +kernel
theorem dX0_lookForWork_68 : decode cX0_lookForWork 68 = .ok (.invokevirtual 132, 3) := by decide +kernel
theorem dX0_lookForWork_71 : decode cX0_lookForWork 71 = .ok (.goto 65, 3) := by decide +kernel
theorem dX0_lookForWork_74 : decode cX0_lookForWork 74 = .ok (.aload_n 0, 1) := by decide +kernel
theorem dX0_lookForWork_75 : decode cX0_lookForWork 75 = .ok (.getfield 35, 3) := by decide +kernel
theorem dX0_lookForWork_78 : decode cX0_lookForWork 78 = .ok (.iload_n 2, 1) := by decide +kernel
theorem dX0_lookForWork_79 : decode cX0_lookForWork 79 = .ok (.invokevirtual 136, 3) := by decide +kernel
theorem dX0_lookForWork_82 : decode cX0_lookForWork 82 = .ok (.ifCond .eq 54, 3) := by decide +kernel
theorem dX0_lookForWork_85 : decode cX0_lookForWork 85 = .ok (.aload_n 0, 1) := by decide +kernel
theorem dX0_lookForWork_86 : decode cX0_lookForWork 86 = .ok (.iload_n 1, 1) := by decide +kernel
theorem dX0_lookForWork_87 : decode cX0_lookForWork 87 = .ok (.iload_n 2, 1) := by decide +kernel
theorem dX0_lookForWork_88 : decode cX0_lookForWork 88 = .ok (.invokevirtual 139, 3) := by decide +kernel
theorem dX0_lookForWork_91 : decode cX0_lookForWork 91 = .ok (.istore 4, 2) := by decide +kernel
theorem dX0_lookForWork_93 : decode cX0_lookForWork 93 = .ok (.iload 4, 2) := by decide +kernel
theorem dX0_lookForWork_95 : decode cX0_lookForWork 95 = .ok (.iconst (-1), 1) := by decide +kernel
theorem dX0_lookForWork_96 : decode cX0_lookForWork 96 = .ok (.if_icmp .eq 40, 3) := by decide +kernel
theorem dX0_lookForWork_99 : decode cX0_lookForWork 99 = .ok (.aload_n 0, 1) := by decide +kernel
theorem dX0_lookForWork_100 : decode cX0_lookForWork 100 = .ok (.aload_n 0, 1) := by decide +kernel
theorem dX0_lookForWork_101 : decode cX0_lookForWork 101 = .ok (.getfield 44, 3) := by decide +kernel
theorem dX0_lookForWork_104 : decode cX0_lookForWork 104 = .ok (.iload_n 1, 1) := by decide +kernel
theorem dX0_lookForWork_105 : decode cX0_lookForWork 105 = .ok (.aload_n 0, 1) := by decide +kernel
theorem dX0_lookForWork_106 : decode cX0_lookForWork 106 = .ok (.getfield 53, 3) := by decide +kernel
theorem dX0_lookForWork_109 : decode cX0_lookForWork 109 = .ok (.iconst (-1), 1) := by decide +kernel
theorem dX0_lookForWork_110 : decode cX0_lookForWork 110 = .ok (.iload 4, 2) := by decide +kernel
theorem dX0_lookForWork_112 : decode cX0_lookForWork 112 = .ok (.invokevirtual 124, 3) := by decide +kernel
theorem dX0_lookForWork_115 : decode cX0_lookForWork 115 = .ok (.invokevirtual 128, 3) := by decide +kernel
theorem dX0_lookForWork_118 : decode cX0_lookForWork 118 = .ok (.ifCond .eq 18, 3) := by decide +kernel
theorem dX0_lookForWork_121 : decode cX0_lookForWork 121 = .ok (.aload_n 0, 1) := by decide +kernel
theorem dX0_lookForWork_122 : decode cX0_lookForWork 122 = .ok (.getfield 11, 3) := by decide +kernel
theorem dX0_lookForWork_125 : decode cX0_lookForWork 125 = .ok (.iload_n 1, 1) := by decide +kernel
theorem dX0_lookForWork_126 : decode cX0_lookForWork 126 = .ok (.aaload, 1) := by decide +kernel
theorem dX0_lookForWork_127 : decode cX0_lookForWork 127 = .ok (.dup, 1) := by decide +kernel
theorem dX0_lookForWork_128 : decode cX0_lookForWork 128 = .ok (.getfield 142, 3) := by decide +kernel
theorem dX0_lookForWork_131 : decode cX0_lookForWork 131 = .ok (.iconst 1, 1) := by decide +kernel
theorem dX0_lookForWork_132 : decode cX0_lookForWork 132 = .ok (.iadd, 1) := by decide +kernel
theorem dX0_lookForWork_133 : decode cX0_lookForWork 133 = .ok (.putfield 142, 3) := by decide +kernel
theorem dX0_lookForWork_136 : decode cX0_lookForWork 136 = .ok (.return_, 1) := by decide +kernel
theorem dX0_nearestFit_0 : decode cX0_nearestFit 0 = .ok (.iconst (-1), 1) := by decide +kernel
theorem dX0_nearestFit_1 : decode cX0_nearestFit 1 = .ok (.istore_n 3, 1) := by decide +kernel
theorem dX0_nearestFit_2 : decode cX0_nearestFit 2 = .ok (.iconst 0, 1) := by decide +kernel
theorem dX0_nearestFit_3 : decode cX0_nearestFit 3 = .ok (.istore 4, 2) := by decide +kernel
theorem dX0_nearestFit_5 : decode cX0_nearestFit 5 = .ok (.iconst 0, 1) := by decide +kernel
theorem dX0_nearestFit_6 : decode cX0_nearestFit 6 = .ok (.istore 5, 2) := by decide +kernel
theorem dX0_nearestFit_8 : decode cX0_nearestFit 8 = .ok (.iload 5, 2) := by decide +kernel
theorem dX0_nearestFit_10 : decode cX0_nearestFit 10 = .ok (.aload_n 0, 1) := by decide +kernel
theorem dX0_nearestFit_11 : decode cX0_nearestFit 11 = .ok (.getfield 35, 3) := by decide +kernel
theorem dX0_nearestFit_14 : decode cX0_nearestFit 14 = .ok (.invokevirtual 145, 3) := by decide +kernel
theorem dX0_nearestFit_17 : decode cX0_nearestFit 17 = .ok (.if_icmp .ge 80, 3) := by decide +kernel
theorem dX0_nearestFit_20 : decode cX0_nearestFit 20 = .ok (.aload_n 0, 1) := by decide +kernel
theorem dX0_nearestFit_21 : decode cX0_nearestFit 21 = .ok (.aload_n 0, 1) := by decide +kernel
theorem dX0_nearestFit_22 : decode cX0_nearestFit 22 = .ok (.getfield 35, 3) := by decide +kernel
theorem dX0_nearestFit_25 : decode cX0_nearestFit 25 = .ok (.iload 5, 2) := by decide +kernel
theorem dX0_nearestFit_27 : decode cX0_nearestFit 27 = .ok (.invokevirtual 112, 3) := by decide +kernel
theorem dX0_nearestFit_30 : decode cX0_nearestFit 30 = .ok (.iload_n 1, 1) := by decide +kernel
theorem dX0_nearestFit_31 : decode cX0_nearestFit 31 = .ok (.invokevirtual 148, 3) := by decide +kernel
theorem dX0_nearestFit_34 : decode cX0_nearestFit 34 = .ok (.ifCond .eq 57, 3) := by decide +kernel
theorem dX0_nearestFit_37 : decode cX0_nearestFit 37 = .ok (.iload_n 3, 1) := by decide +kernel
theorem dX0_nearestFit_38 : decode cX0_nearestFit 38 = .ok (.iconst (-1), 1) := by decide +kernel
theorem dX0_nearestFit_39 : decode cX0_nearestFit 39 = .ok (.if_icmp .ne 12, 3) := by decide +kernel
theorem dX0_nearestFit_42 : decode cX0_nearestFit 42 = .ok (.aload_n 0, 1) := by decide +kernel
theorem dX0_nearestFit_43 : decode cX0_nearestFit 43 = .ok (.getfield 31, 3) := by decide +kernel
theorem dX0_nearestFit_46 : decode cX0_nearestFit 46 = .ok (.iload_n 2, 1) := by decide +kernel
theorem dX0_nearestFit_47 : decode cX0_nearestFit 47 = .ok (.iconst 1, 1) := by decide +kernel
theorem dX0_nearestFit_48 : decode cX0_nearestFit 48 = .ok (.invokevirtual 152, 3) := by decide +kernel
theorem dX0_nearestFit_51 : decode cX0_nearestFit 51 = .ok (.aload_n 0, 1) := by decide +kernel
theorem dX0_nearestFit_52 : decode cX0_nearestFit 52 = .ok (.getfield 31, 3) := by decide +kernel
theorem dX0_nearestFit_55 : decode cX0_nearestFit 55 = .ok (.aload_n 0, 1) := by decide +kernel
theorem dX0_nearestFit_56 : decode cX0_nearestFit 56 = .ok (.getfield 35, 3) := by decide +kernel
theorem dX0_nearestFit_59 : decode cX0_nearestFit 59 = .ok (.iload 5, 2) := by decide +kernel
theorem dX0_nearestFit_61 : decode cX0_nearestFit 61 = .ok (.invokevirtual 112, 3) := by decide +kernel
theorem dX0_nearestFit_64 : decode cX0_nearestFit 64 = .ok (.getfield 116, 3) := by decide +kernel
theorem dX0_nearestFit_67 : decode cX0_nearestFit 67 = .ok (.invokevirtual 158, 3) := by decide +kernel
theorem dX0_nearestFit_70 : decode cX0_nearestFit 70 = .ok (.istore 6, 2) := by decide +kernel
theorem dX0_nearestFit_72 : decode cX0_nearestFit 72 = .ok (.iload_n 3, 1) := by decide +kernel
theorem dX0_nearestFit_73 : decode cX0_nearestFit 73 = .ok (.iconst (-1), 1) := by decide +kernel
theorem dX0_nearestFit_74 : decode cX0_nearestFit 74 = .ok (.if_icmp .eq 10, 3) := by decide +kernel
theorem dX0_nearestFit_77 : decode cX0_nearestFit 77 = .ok (.iload 6, 2) := by decide +kernel
theorem dX0_nearestFit_79 : decode cX0_nearestFit 79 = .ok (.iload 4, 2) := by decide +kernel
theorem dX0_nearestFit_81 : decode cX0_nearestFit 81 = .ok (.if_icmp .ge 10, 3) := by decide +kernel
theorem dX0_nearestFit_84 : decode cX0_nearestFit 84 = .ok (.iload 5, 2) := by decide +kernel
theorem dX0_nearestFit_86 : decode cX0_nearestFit 86 = .ok (.istore_n 3, 1) := by decide +kernel
theorem dX0_nearestFit_87 : decode cX0_nearestFit 87 = .ok (.iload 6, 2) := by decide +kernel
theorem dX0_nearestFit_89 : decode cX0_nearestFit 89 = .ok (.istore 4, 2) := by decide +kernel
theorem dX0_nearestFit_91 : decode cX0_nearestFit 91 = .ok (.iinc 5 1, 3) := by decide +kernel
theorem dX0_nearestFit_94 : decode cX0_nearestFit 94 = .ok (.goto (-86), 3) := by decide +kernel
theorem dX0_nearestFit_97 : decode cX0_nearestFit 97 = .ok (.iload_n 3, 1) := by decide +kernel
theorem dX0_nearestFit_98 : decode cX0_nearestFit 98 = .ok (.ireturn, 1) := by decide +kernel
theorem dX0_isFit_0 : decode cX0_isFit 0 = .ok (.aload_n 1, 1) := by decide +kernel
theorem dX0_isFit_1 : decode cX0_isFit 1 = .ok (.getfield 161, 3) := by decide +kernel
theorem dX0_isFit_4 : decode cX0_isFit 4 = .ok (.ifCond .ne 37, 3) := by decide +kernel
theorem dX0_isFit_7 : decode cX0_isFit 7 = .ok (.aload_n 0, 1) := by decide +kernel
theorem dX0_isFit_8 : decode cX0_isFit 8 = .ok (.getfield 20, 3) := by decide +kernel
theorem dX0_isFit_11 : decode cX0_isFit 11 = .ok (.aload_n 1, 1) := by decide +kernel
theorem dX0_isFit_12 : decode cX0_isFit 12 = .ok (.getfield 116, 3) := by decide +kernel
theorem dX0_isFit_15 : decode cX0_isFit 15 = .ok (.iload_n 2, 1) := by decide +kernel
theorem dX0_isFit_16 : decode cX0_isFit 16 = .ok (.invokevirtual 164, 3) := by decide +kernel
theorem dX0_isFit_19 : decode cX0_isFit 19 = .ok (.ifCond .ne 22, 3) := by decide +kernel
theorem dX0_isFit_22 : decode cX0_isFit 22 = .ok (.aload_n 0, 1) := by decide +kernel
theorem dX0_isFit_23 : decode cX0_isFit 23 = .ok (.getfield 20, 3) := by decide +kernel
theorem dX0_isFit_26 : decode cX0_isFit 26 = .ok (.aload_n 1, 1) := by decide +kernel
theorem dX0_isFit_27 : decode cX0_isFit 27 = .ok (.getfield 121, 3) := by decide +kernel
theorem dX0_isFit_30 : decode cX0_isFit 30 = .ok (.iload_n 2, 1) := by decide +kernel
theorem dX0_isFit_31 : decode cX0_isFit 31 = .ok (.invokevirtual 164, 3) := by decide +kernel
theorem dX0_isFit_34 : decode cX0_isFit 34 = .ok (.ifCond .ne 7, 3) := by decide +kernel
theorem dX0_isFit_37 : decode cX0_isFit 37 = .ok (.iconst 1, 1) := by decide +kernel
theorem dX0_isFit_38 : decode cX0_isFit 38 = .ok (.goto 4, 3) := by decide +kernel
theorem dX0_isFit_41 : decode cX0_isFit 41 = .ok (.iconst 0, 1) := by decide +kernel
theorem dX0_isFit_42 : decode cX0_isFit 42 = .ok (.ireturn, 1) := by decide +kernel
theorem dX0_nearestRefuge_0 : decode cX0_nearestRefuge 0 = .ok (.aload_n 0, 1) := by decide +kernel
theorem dX0_nearestRefuge_1 : decode cX0_nearestRefuge 1 = .ok (.getfield 31, 3) := by decide +kernel
theorem dX0_nearestRefuge_4 : decode cX0_nearestRefuge 4 = .ok (.iload_n 2, 1) := by decide +kernel
theorem dX0_nearestRefuge_5 : decode cX0_nearestRefuge 5 = .ok (.iconst 1, 1) := by decide +kernel
theorem dX0_nearestRefuge_6 : decode cX0_nearestRefuge 6 = .ok (.invokevirtual 152, 3) := by decide +kernel
theorem dX0_nearestRefuge_9 : decode cX0_nearestRefuge 9 = .ok (.iconst (-1), 1) := by decide +kernel
theorem dX0_nearestRefuge_10 : decode cX0_nearestRefuge 10 = .ok (.istore_n 3, 1) := by decide +kernel
theorem dX0_nearestRefuge_11 : decode cX0_nearestRefuge 11 = .ok (.iconst 0, 1) := by decide +kernel
theorem dX0_nearestRefuge_12 : decode cX0_nearestRefuge 12 = .ok (.istore 4, 2) := by decide +kernel
theorem dX0_nearestRefuge_14 : decode cX0_nearestRefuge 14 = .ok (.iload 4, 2) := by decide +kernel
theorem dX0_nearestRefuge_16 : decode cX0_nearestRefuge 16 = .ok (.aload_n 0, 1) := by decide +kernel
theorem dX0_nearestRefuge_17 : decode cX0_nearestRefuge 17 = .ok (.getfield 31, 3) := by decide +kernel
theorem dX0_nearestRefuge_20 : decode cX0_nearestRefuge 20 = .ok (.invokevirtual 168, 3) := by decide +kernel
theorem dX0_nearestRefuge_23 : decode cX0_nearestRefuge 23 = .ok (.if_icmp .ge 86, 3) := by decide +kernel
theorem dX0_nearestRefuge_26 : decode cX0_nearestRefuge 26 = .ok (.aload_n 0, 1) := by decide +kernel
theorem dX0_nearestRefuge_27 : decode cX0_nearestRefuge 27 = .ok (.getfield 31, 3) := by decide +kernel
theorem dX0_nearestRefuge_30 : decode cX0_nearestRefuge 30 = .ok (.iload 4, 2) := by decide +kernel
theorem dX0_nearestRefuge_32 : decode cX0_nearestRefuge 32 = .ok (.invokevirtual 170, 3) := by decide +kernel
theorem dX0_nearestRefuge_35 : decode cX0_nearestRefuge 35 = .ok (.ifCond .eq 32, 3) := by decide +kernel
theorem dX0_nearestRefuge_38 : decode cX0_nearestRefuge 38 = .ok (.aload_n 0, 1) := by decide +kernel
theorem dX0_nearestRefuge_39 : decode cX0_nearestRefuge 39 = .ok (.getfield 35, 3) := by decide +kernel
theorem dX0_nearestRefuge_42 : decode cX0_nearestRefuge 42 = .ok (.iload 4, 2) := by decide +kernel
theorem dX0_nearestRefuge_44 : decode cX0_nearestRefuge 44 = .ok (.invokevirtual 136, 3) := by decide +kernel
theorem dX0_nearestRefuge_47 : decode cX0_nearestRefuge 47 = .ok (.ifCond .ne 20, 3) := by decide +kernel
theorem dX0_nearestRefuge_50 : decode cX0_nearestRefuge 50 = .ok (.aload_n 0, 1) := by decide +kernel
theorem dX0_nearestRefuge_51 : decode cX0_nearestRefuge 51 = .ok (.getfield 20, 3) := by decide +kernel
theorem dX0_nearestRefuge_54 : decode cX0_nearestRefuge 54 = .ok (.iload 4, 2) := by decide +kernel
theorem dX0_nearestRefuge_56 : decode cX0_nearestRefuge 56 = .ok (.iload_n 1, 1) := by decide +kernel
theorem dX0_nearestRefuge_57 : decode cX0_nearestRefuge 57 = .ok (.invokevirtual 164, 3) := by decide +kernel
theorem dX0_nearestRefuge_60 : decode cX0_nearestRefuge 60 = .ok (.ifCond .ne 7, 3) := by decide +kernel
theorem dX0_nearestRefuge_63 : decode cX0_nearestRefuge 63 = .ok (.iconst 1, 1) := by decide +kernel
theorem dX0_nearestRefuge_64 : decode cX0_nearestRefuge 64 = .ok (.goto 4, 3) := by decide +kernel
theorem dX0_nearestRefuge_67 : decode cX0_nearestRefuge 67 = .ok (.iconst 0, 1) := by decide +kernel
theorem dX0_nearestRefuge_68 : decode cX0_nearestRefuge 68 = .ok (.istore 5, 2) := by decide +kernel
theorem dX0_nearestRefuge_70 : decode cX0_nearestRefuge 70 = .ok (.iload 5, 2) := by decide +kernel
theorem dX0_nearestRefuge_72 : decode cX0_nearestRefuge 72 = .ok (.ifCond .eq 31, 3) := by decide +kernel
theorem dX0_nearestRefuge_75 : decode cX0_nearestRefuge 75 = .ok (.iload_n 3, 1) := by decide +kernel
theorem dX0_nearestRefuge_76 : decode cX0_nearestRefuge 76 = .ok (.iconst (-1), 1) := by decide +kernel
theorem dX0_nearestRefuge_77 : decode cX0_nearestRefuge 77 = .ok (.if_icmp .eq 23, 3) := by decide +kernel
theorem dX0_nearestRefuge_80 : decode cX0_nearestRefuge 80 = .ok (.aload_n 0, 1) := by decide +kernel
theorem dX0_nearestRefuge_81 : decode cX0_nearestRefuge 81 = .ok (.getfield 31, 3) := by decide +kernel
theorem dX0_nearestRefuge_84 : decode cX0_nearestRefuge 84 = .ok (.iload 4, 2) := by decide +kernel
theorem dX0_nearestRefuge_86 : decode cX0_nearestRefuge 86 = .ok (.invokevirtual 158, 3) := by decide +kernel
theorem dX0_nearestRefuge_89 : decode cX0_nearestRefuge 89 = .ok (.aload_n 0, 1) := by decide +kernel
theorem dX0_nearestRefuge_90 : decode cX0_nearestRefuge 90 = .ok (.getfield 31, 3) := by decide +kernel
theorem dX0_nearestRefuge_93 : decode cX0_nearestRefuge 93 = .ok (.iload_n 3, 1) := by decide +kernel
theorem dX0_nearestRefuge_94 : decode cX0_nearestRefuge 94 = .ok (.invokevirtual 158, 3) := by decide +kernel
theorem dX0_nearestRefuge_97 : decode cX0_nearestRefuge 97 = .ok (.if_icmp .ge 6, 3) := by decide +kernel
theorem dX0_nearestRefuge_100 : decode cX0_nearestRefuge 100 = .ok (.iload 4, 2) := by decide +kernel
theorem dX0_nearestRefuge_102 : decode cX0_nearestRefuge 102 = .ok (.istore_n 3, 1) := by decide +kernel
theorem dX0_nearestRefuge_103 : decode cX0_nearestRefuge 103 = .ok (.iinc 4 1, 3) := by decide +kernel
theorem dX0_nearestRefuge_106 : decode cX0_nearestRefuge 106 = .ok (.goto (-92), 3) := by decide +kernel
theorem dX0_nearestRefuge_109 : decode cX0_nearestRefuge 109 = .ok (.iload_n 3, 1) := by decide +kernel
theorem dX0_nearestRefuge_110 : decode cX0_nearestRefuge 110 = .ok (.ireturn, 1) := by decide +kernel
theorem dX0_countWay_0 : decode cX0_countWay 0 = .ok (.iload_n 1, 1) := by decide +kernel
theorem dX0_countWay_1 : decode cX0_countWay 1 = .ok (.iconst (-1), 1) := by decide +kernel
theorem dX0_countWay_2 : decode cX0_countWay 2 = .ok (.if_icmp .ne 5, 3) := by decide +kernel
theorem dX0_countWay_5 : decode cX0_countWay 5 = .ok (.iconst 0, 1) := by decide +kernel
theorem dX0_countWay_6 : decode cX0_countWay 6 = .ok (.ireturn, 1) := by decide +kernel
theorem dX0_countWay_7 : decode cX0_countWay 7 = .ok (.aload_n 0, 1) := by decide +kernel
theorem dX0_countWay_8 : decode cX0_countWay 8 = .ok (.dup, 1) := by decide +kernel
theorem dX0_countWay_9 : decode cX0_countWay 9 = .ok (.getfield 56, 3) := by decide +kernel
theorem dX0_countWay_12 : decode cX0_countWay 12 = .ok (.iconst 1, 1) := by decide +kernel
theorem dX0_countWay_13 : decode cX0_countWay 13 = .ok (.iadd, 1) := by decide +kernel
theorem dX0_countWay_14 : decode cX0_countWay 14 = .ok (.putfield 56, 3) := by decide +kernel
theorem dX0_countWay_17 : decode cX0_countWay 17 = .ok (.aload_n 0, 1) := by decide +kernel
theorem dX0_countWay_18 : decode cX0_countWay 18 = .ok (.aload_n 0, 1) := by decide +kernel
theorem dX0_countWay_19 : decode cX0_countWay 19 = .ok (.getfield 59, 3) := by decide +kernel
theorem dX0_countWay_22 : decode cX0_countWay 22 = .ok (.iload_n 1, 1) := by decide +kernel
theorem dX0_countWay_23 : decode cX0_countWay 23 = .ok (.invokestatic 173, 3) := by decide +kernel
theorem dX0_countWay_26 : decode cX0_countWay 26 = .ok (.putfield 59, 3) := by decide +kernel
theorem dX0_countWay_29 : decode cX0_countWay 29 = .ok (.iconst 1, 1) := by decide +kernel
theorem dX0_countWay_30 : decode cX0_countWay 30 = .ok (.ireturn, 1) := by decide +kernel
theorem dX0_take_0 : decode cX0_take 0 = .ok (.aload_n 0, 1) := by decide +kernel
theorem dX0_take_1 : decode cX0_take 1 = .ok (.getfield 35, 3) := by decide +kernel
theorem dX0_take_4 : decode cX0_take 4 = .ok (.iload_n 3, 1) := by decide +kernel
theorem dX0_take_5 : decode cX0_take 5 = .ok (.invokevirtual 112, 3) := by decide +kernel
theorem dX0_take_8 : decode cX0_take 8 = .ok (.astore 4, 2) := by decide +kernel
theorem dX0_take_10 : decode cX0_take 10 = .ok (.aload_n 0, 1) := by decide +kernel
theorem dX0_take_11 : decode cX0_take 11 = .ok (.getfield 11, 3) := by decide +kernel
theorem dX0_take_14 : decode cX0_take 14 = .ok (.iload_n 1, 1) := by decide +kernel
theorem dX0_take_15 : decode cX0_take 15 = .ok (.aaload, 1) := by decide +kernel
theorem dX0_take_16 : decode cX0_take 16 = .ok (.iload_n 3, 1) := by decide +kernel
theorem dX0_take_17 : decode cX0_take 17 = .ok (.putfield 178, 3) := by decide +kernel
theorem dX0_take_20 : decode cX0_take 20 = .ok (.aload_n 0, 1) := by decide +kernel
theorem dX0_take_21 : decode cX0_take 21 = .ok (.getfield 35, 3) := by decide +kernel
theorem dX0_take_24 : decode cX0_take 24 = .ok (.aload 4, 2) := by decide +kernel
theorem dX0_take_26 : decode cX0_take 26 = .ok (.iload_n 1, 1) := by decide +kernel
theorem dX0_take_27 : decode cX0_take 27 = .ok (.aload_n 0, 1) := by decide +kernel
theorem dX0_take_28 : decode cX0_take 28 = .ok (.getfield 53, 3) := by decide +kernel
theorem dX0_take_31 : decode cX0_take 31 = .ok (.invokevirtual 181, 3) := by decide +kernel
theorem dX0_take_34 : decode cX0_take 34 = .ok (.iload_n 2, 1) := by decide +kernel
theorem dX0_take_35 : decode cX0_take 35 = .ok (.aload 4, 2) := by decide +kernel
theorem dX0_take_37 : decode cX0_take 37 = .ok (.getfield 116, 3) := by decide +kernel
theorem dX0_take_40 : decode cX0_take 40 = .ok (.if_icmp .ne 16, 3) := by decide +kernel
theorem dX0_take_43 : decode cX0_take 43 = .ok (.aload_n 0, 1) := by decide +kernel
theorem dX0_take_44 : decode cX0_take 44 = .ok (.getfield 35, 3) := by decide +kernel
theorem dX0_take_47 : decode cX0_take 47 = .ok (.aload 4, 2) := by decide +kernel
theorem dX0_take_49 : decode cX0_take 49 = .ok (.aload_n 0, 1) := by decide +kernel
theorem dX0_take_50 : decode cX0_take 50 = .ok (.getfield 53, 3) := by decide +kernel
theorem dX0_take_53 : decode cX0_take 53 = .ok (.invokevirtual 184, 3) := by decide +kernel
theorem dX0_take_56 : decode cX0_take 56 = .ok (.return_, 1) := by decide +kernel
theorem dX0_goOn_0 : decode cX0_goOn 0 = .ok (.aload_n 0, 1) := by decide +kernel
theorem dX0_goOn_1 : decode cX0_goOn 1 = .ok (.getfield 20, 3) := by decide +kernel
theorem dX0_goOn_4 : decode cX0_goOn 4 = .ok (.iload_n 1, 1) := by decide +kernel
theorem dX0_goOn_5 : decode cX0_goOn 5 = .ok (.aload_n 0, 1) := by decide +kernel
theorem dX0_goOn_6 : decode cX0_goOn 6 = .ok (.getfield 53, 3) := by decide +kernel
theorem dX0_goOn_9 : decode cX0_goOn 9 = .ok (.iconst 1, 1) := by decide +kernel
theorem dX0_goOn_10 : decode cX0_goOn 10 = .ok (.isub, 1) := by decide +kernel
theorem dX0_goOn_11 : decode cX0_goOn 11 = .ok (.invokevirtual 105, 3) := by decide +kernel
theorem dX0_goOn_14 : decode cX0_goOn 14 = .ok (.istore_n 2, 1) := by decide +kernel
theorem dX0_goOn_15 : decode cX0_goOn 15 = .ok (.aload_n 0, 1) := by decide +kernel
theorem dX0_goOn_16 : decode cX0_goOn 16 = .ok (.getfield 20, 3) := by decide +kernel
theorem dX0_goOn_19 : decode cX0_goOn 19 = .ok (.iload_n 1, 1) := by decide +kernel
theorem dX0_goOn_20 : decode cX0_goOn 20 = .ok (.aload_n 0, 1) := by decide +kernel
theorem dX0_goOn_21 : decode cX0_goOn 21 = .ok (.getfield 53, 3) := by decide +kernel
theorem dX0_goOn_24 : decode cX0_goOn 24 = .ok (.invokevirtual 105, 3) := by decide +kernel
theorem dX0_goOn_27 : decode cX0_goOn 27 = .ok (.istore_n 3, 1) := by decide +kernel
theorem dX0_goOn_28 : decode cX0_goOn 28 = .ok (.aload_n 0, 1) := by decide +kernel
theorem dX0_goOn_29 : decode cX0_goOn 29 = .ok (.getfield 20, 3) := by decide +kernel
theorem dX0_goOn_32 : decode cX0_goOn 32 = .ok (.iload_n 1, 1) := by decide +kernel
theorem dX0_goOn_33 : decode cX0_goOn 33 = .ok (.aload_n 0, 1) := by decide +kernel
theorem dX0_goOn_34 : decode cX0_goOn 34 = .ok (.getfield 53, 3) := by decide +kernel
theorem dX0_goOn_37 : decode cX0_goOn 37 = .ok (.invokevirtual 188, 3) := by decide +kernel
theorem dX0_goOn_40 : decode cX0_goOn 40 = .ok (.iload_n 3, 1) := by decide +kernel
theorem dX0_goOn_41 : decode cX0_goOn 41 = .ok (.iload_n 2, 1) := by decide +kernel
theorem dX0_goOn_42 : decode cX0_goOn 42 = .ok (.if_icmp .eq 18, 3) := by decide +kernel
theorem dX0_goOn_45 : decode cX0_goOn 45 = .ok (.aload_n 0, 1) := by decide +kernel
theorem dX0_goOn_46 : decode cX0_goOn 46 = .ok (.getfield 11, 3) := by decide +kernel
theorem dX0_goOn_49 : decode cX0_goOn 49 = .ok (.iload_n 1, 1) := by decide +kernel
theorem dX0_goOn_50 : decode cX0_goOn 50 = .ok (.aaload, 1) := by decide +kernel
theorem dX0_goOn_51 : decode cX0_goOn 51 = .ok (.dup, 1) := by decide +kernel
theorem dX0_goOn_52 : decode cX0_goOn 52 = .ok (.getfield 66, 3) := by decide +kernel
theorem dX0_goOn_55 : decode cX0_goOn 55 = .ok (.iconst 1, 1) := by decide +kernel
theorem dX0_goOn_56 : decode cX0_goOn 56 = .ok (.iadd, 1) := by decide +kernel
theorem dX0_goOn_57 : decode cX0_goOn 57 = .ok (.putfield 66, 3) := by decide +kernel
theorem dX0_goOn_60 : decode cX0_goOn 60 = .ok (.aload_n 0, 1) := by decide +kernel
theorem dX0_goOn_61 : decode cX0_goOn 61 = .ok (.getfield 11, 3) := by decide +kernel
theorem dX0_goOn_64 : decode cX0_goOn 64 = .ok (.iload_n 1, 1) := by decide +kernel
theorem dX0_goOn_65 : decode cX0_goOn 65 = .ok (.aaload, 1) := by decide +kernel
theorem dX0_goOn_66 : decode cX0_goOn 66 = .ok (.getfield 178, 3) := by decide +kernel
theorem dX0_goOn_69 : decode cX0_goOn 69 = .ok (.iconst (-1), 1) := by decide +kernel
theorem dX0_goOn_70 : decode cX0_goOn 70 = .ok (.if_icmp .eq 25, 3) := by decide +kernel
theorem dX0_goOn_73 : decode cX0_goOn 73 = .ok (.aload_n 0, 1) := by decide +kernel
theorem dX0_goOn_74 : decode cX0_goOn 74 = .ok (.iload_n 1, 1) := by decide +kernel
theorem dX0_goOn_75 : decode cX0_goOn 75 = .ok (.iload_n 3, 1) := by decide +kernel
theorem dX0_goOn_76 : decode cX0_goOn 76 = .ok (.aload_n 0, 1) := by decide +kernel
theorem dX0_goOn_77 : decode cX0_goOn 77 = .ok (.getfield 35, 3) := by decide +kernel
theorem dX0_goOn_80 : decode cX0_goOn 80 = .ok (.aload_n 0, 1) := by decide +kernel
theorem dX0_goOn_81 : decode cX0_goOn 81 = .ok (.getfield 11, 3) := by decide +kernel
theorem dX0_goOn_84 : decode cX0_goOn 84 = .ok (.iload_n 1, 1) := by decide +kernel
theorem dX0_goOn_85 : decode cX0_goOn 85 = .ok (.aaload, 1) := by decide +kernel
theorem dX0_goOn_86 : decode cX0_goOn 86 = .ok (.getfield 178, 3) := by decide +kernel
theorem dX0_goOn_89 : decode cX0_goOn 89 = .ok (.invokevirtual 112, 3) := by decide +kernel
theorem dX0_goOn_92 : decode cX0_goOn 92 = .ok (.invokevirtual 192, 3) := by decide +kernel
theorem dX0_goOn_95 : decode cX0_goOn 95 = .ok (.return_, 1) := by decide +kernel
theorem dX0_workOn_0 : decode cX0_workOn 0 = .ok (.aload_n 3, 1) := by decide +kernel
theorem dX0_workOn_1 : decode cX0_workOn 1 = .ok (.getfield 161, 3) := by decide +kernel
theorem dX0_workOn_4 : decode cX0_workOn 4 = .ok (.iconst 1, 1) := by decide +kernel
theorem dX0_workOn_5 : decode cX0_workOn 5 = .ok (.if_icmp .ne 23, 3) := by decide +kernel
theorem dX0_workOn_8 : decode cX0_workOn 8 = .ok (.iload_n 2, 1) := by decide +kernel
theorem dX0_workOn_9 : decode cX0_workOn 9 = .ok (.aload_n 3, 1) := by decide +kernel
theorem dX0_workOn_10 : decode cX0_workOn 10 = .ok (.getfield 116, 3) := by decide +kernel
theorem dX0_workOn_13 : decode cX0_workOn 13 = .ok (.if_icmp .ne 15, 3) := by decide +kernel
theorem dX0_workOn_16 : decode cX0_workOn 16 = .ok (.aload_n 0, 1) := by decide +kernel
theorem dX0_workOn_17 : decode cX0_workOn 17 = .ok (.getfield 35, 3) := by decide +kernel
theorem dX0_workOn_20 : decode cX0_workOn 20 = .ok (.aload_n 3, 1) := by decide +kernel
theorem dX0_workOn_21 : decode cX0_workOn 21 = .ok (.aload_n 0, 1) := by decide +kernel
theorem dX0_workOn_22 : decode cX0_workOn 22 = .ok (.getfield 53, 3) := by decide +kernel
theorem dX0_workOn_25 : decode cX0_workOn 25 = .ok (.invokevirtual 184, 3) := by decide +kernel
theorem dX0_workOn_28 : decode cX0_workOn 28 = .ok (.aload_n 3, 1) := by decide +kernel
theorem dX0_workOn_29 : decode cX0_workOn 29 = .ok (.getfield 161, 3) := by decide +kernel
theorem dX0_workOn_32 : decode cX0_workOn 32 = .ok (.iconst 2, 1) := by decide +kernel
theorem dX0_workOn_33 : decode cX0_workOn 33 = .ok (.if_icmp .ne 55, 3) := by decide +kernel
theorem dX0_workOn_36 : decode cX0_workOn 36 = .ok (.aload_n 0, 1) := by decide +kernel
theorem dX0_workOn_37 : decode cX0_workOn 37 = .ok (.getfield 20, 3) := by decide +kernel
theorem dX0_workOn_40 : decode cX0_workOn 40 = .ok (.iload_n 1, 1) := by decide +kernel
theorem dX0_workOn_41 : decode cX0_workOn 41 = .ok (.invokevirtual 92, 3) := by decide +kernel
theorem dX0_workOn_44 : decode cX0_workOn 44 = .ok (.aload_n 0, 1) := by decide +kernel
theorem dX0_workOn_45 : decode cX0_workOn 45 = .ok (.getfield 53, 3) := by decide +kernel
theorem dX0_workOn_48 : decode cX0_workOn 48 = .ok (.if_icmp .gt 40, 3) := by decide +kernel
theorem dX0_workOn_51 : decode cX0_workOn 51 = .ok (.aload_n 0, 1) := by decide +kernel
theorem dX0_workOn_52 : decode cX0_workOn 52 = .ok (.getfield 35, 3) := by decide +kernel
theorem dX0_workOn_55 : decode cX0_workOn 55 = .ok (.aload_n 3, 1) := by decide +kernel
theorem dX0_workOn_56 : decode cX0_workOn 56 = .ok (.aload_n 0, 1) := by decide +kernel
theorem dX0_workOn_57 : decode cX0_workOn 57 = .ok (.getfield 53, 3) := by decide +kernel
theorem dX0_workOn_60 : decode cX0_workOn 60 = .ok (.invokevirtual 196, 3) := by decide +kernel
theorem dX0_workOn_63 : decode cX0_workOn 63 = .ok (.aload_n 0, 1) := by decide +kernel
theorem dX0_workOn_64 : decode cX0_workOn 64 = .ok (.getfield 11, 3) := by decide +kernel
theorem dX0_workOn_67 : decode cX0_workOn 67 = .ok (.iload_n 1, 1) := by decide +kernel
theorem dX0_workOn_68 : decode cX0_workOn 68 = .ok (.aaload, 1) := by decide +kernel
theorem dX0_workOn_69 : decode cX0_workOn 69 = .ok (.iconst (-1), 1) := by decide +kernel
theorem dX0_workOn_70 : decode cX0_workOn 70 = .ok (.putfield 178, 3) := by decide +kernel
theorem dX0_workOn_73 : decode cX0_workOn 73 = .ok (.aload_n 0, 1) := by decide +kernel
theorem dX0_workOn_74 : decode cX0_workOn 74 = .ok (.getfield 11, 3) := by decide +kernel
theorem dX0_workOn_77 : decode cX0_workOn 77 = .ok (.iload_n 1, 1) := by decide +kernel
theorem dX0_workOn_78 : decode cX0_workOn 78 = .ok (.aaload, 1) := by decide +kernel
theorem dX0_workOn_79 : decode cX0_workOn 79 = .ok (.dup, 1) := by decide +kernel
theorem dX0_workOn_80 : decode cX0_workOn 80 = .ok (.getfield 199, 3) := by decide +kernel
theorem dX0_workOn_83 : decode cX0_workOn 83 = .ok (.iconst 1, 1) := by decide +kernel
theorem dX0_workOn_84 : decode cX0_workOn 84 = .ok (.iadd, 1) := by decide +kernel
theorem dX0_workOn_85 : decode cX0_workOn 85 = .ok (.putfield 199, 3) := by decide +kernel
theorem dX0_workOn_88 : decode cX0_workOn 88 = .ok (.return_, 1) := by decide +kernel
theorem dX0_tellRobot_0 : decode cX0_tellRobot 0 = .ok (.iload_n 1, 1) := by decide +kernel
theorem dX0_tellRobot_1 : decode cX0_tellRobot 1 = .ok (.ifCond .lt 11, 3) := by decide +kernel
theorem dX0_tellRobot_4 : decode cX0_tellRobot 4 = .ok (.iload_n 1, 1) := by decide +kernel
theorem dX0_tellRobot_5 : decode cX0_tellRobot 5 = .ok (.aload_n 0, 1) := by decide +kernel
theorem dX0_tellRobot_6 : decode cX0_tellRobot 6 = .ok (.getfield 49, 3) := by decide +kernel
theorem dX0_tellRobot_9 : decode cX0_tellRobot 9 = .ok (.if_icmp .lt 5, 3) := by decide +kernel
theorem dX0_tellRobot_12 : decode cX0_tellRobot 12 = .ok (.iconst (-1), 1) := by decide +kernel
theorem dX0_tellRobot_13 : decode cX0_tellRobot 13 = .ok (.ireturn, 1) := by decide +kernel
theorem dX0_tellRobot_14 : decode cX0_tellRobot 14 = .ok (.iload_n 2, 1) := by decide +kernel
theorem dX0_tellRobot_15 : decode cX0_tellRobot 15 = .ok (.tableswitch 147 0 7 #[45, 58, 68, 90, 99, 117, 127, 137], 45) := by decide +kernel
theorem dX0_tellRobot_60 : decode cX0_tellRobot 60 = .ok (.aload_n 0, 1) := by decide +kernel
theorem dX0_tellRobot_61 : decode cX0_tellRobot 61 = .ok (.getfield 20, 3) := by decide +kernel
theorem dX0_tellRobot_64 : decode cX0_tellRobot 64 = .ok (.iload_n 1, 1) := by decide +kernel
theorem dX0_tellRobot_65 : decode cX0_tellRobot 65 = .ok (.aload_n 0, 1) := by decide +kernel
theorem dX0_tellRobot_66 : decode cX0_tellRobot 66 = .ok (.getfield 53, 3) := by decide +kernel
theorem dX0_tellRobot_69 : decode cX0_tellRobot 69 = .ok (.invokevirtual 105, 3) := by decide +kernel
theorem dX0_tellRobot_72 : decode cX0_tellRobot 72 = .ok (.ireturn, 1) := by decide +kernel
theorem dX0_tellRobot_73 : decode cX0_tellRobot 73 = .ok (.aload_n 0, 1) := by decide +kernel
theorem dX0_tellRobot_74 : decode cX0_tellRobot 74 = .ok (.getfield 11, 3) := by decide +kernel
theorem dX0_tellRobot_77 : decode cX0_tellRobot 77 = .ok (.iload_n 1, 1) := by decide +kernel
theorem dX0_tellRobot_78 : decode cX0_tellRobot 78 = .ok (.aaload, 1) := by decide +kernel
theorem dX0_tellRobot_79 : decode cX0_tellRobot 79 = .ok (.getfield 178, 3) := by decide +kernel
theorem dX0_tellRobot_82 : decode cX0_tellRobot 82 = .ok (.ireturn, 1) := by decide +kernel
theorem dX0_tellRobot_83 : decode cX0_tellRobot 83 = .ok (.aload_n 0, 1) := by decide +kernel
theorem dX0_tellRobot_84 : decode cX0_tellRobot 84 = .ok (.aload_n 0, 1) := by decide +kernel
theorem dX0_tellRobot_85 : decode cX0_tellRobot 85 = .ok (.getfield 11, 3) := by decide +kernel
theorem dX0_tellRobot_88 : decode cX0_tellRobot 88 = .ok (.iload_n 1, 1) := by decide +kernel
theorem dX0_tellRobot_89 : decode cX0_tellRobot 89 = .ok (.aaload, 1) := by decide +kernel
theorem dX0_tellRobot_90 : decode cX0_tellRobot 90 = .ok (.getfield 178, 3) := by decide +kernel
theorem dX0_tellRobot_93 : decode cX0_tellRobot 93 = .ok (.invokevirtual 202, 3) := by decide +kernel
theorem dX0_tellRobot_96 : decode cX0_tellRobot 96 = .ok (.ifCond .eq 7, 3) := by decide +kernel
theorem dX0_tellRobot_99 : decode cX0_tellRobot 99 = .ok (.iconst 1, 1) := by decide +kernel
theorem dX0_tellRobot_100 : decode cX0_tellRobot 100 = .ok (.goto 4, 3) := by decide +kernel
theorem dX0_tellRobot_103 : decode cX0_tellRobot 103 = .ok (.iconst 0, 1) := by decide +kernel
theorem dX0_tellRobot_104 : decode cX0_tellRobot 104 = .ok (.ireturn, 1) := by decide +kernel
theorem dX0_tellRobot_105 : decode cX0_tellRobot 105 = .ok (.aload_n 0, 1) := by decide +kernel
theorem dX0_tellRobot_106 : decode cX0_tellRobot 106 = .ok (.getfield 20, 3) := by decide +kernel
theorem dX0_tellRobot_109 : decode cX0_tellRobot 109 = .ok (.iload_n 1, 1) := by decide +kernel
theorem dX0_tellRobot_110 : decode cX0_tellRobot 110 = .ok (.invokevirtual 205, 3) := by decide +kernel
theorem dX0_tellRobot_113 : decode cX0_tellRobot 113 = .ok (.ireturn, 1) := by decide +kernel
theorem dX0_tellRobot_114 : decode cX0_tellRobot 114 = .ok (.iconst 0, 1) := by decide +kernel
theorem dX0_tellRobot_115 : decode cX0_tellRobot 115 = .ok (.aload_n 0, 1) := by decide +kernel
theorem dX0_tellRobot_116 : decode cX0_tellRobot 116 = .ok (.getfield 20, 3) := by decide +kernel
theorem dX0_tellRobot_119 : decode cX0_tellRobot 119 = .ok (.iload_n 1, 1) := by decide +kernel
theorem dX0_tellRobot_120 : decode cX0_tellRobot 120 = .ok (.invokevirtual 92, 3) := by decide +kernel
theorem dX0_tellRobot_123 : decode cX0_tellRobot 123 = .ok (.aload_n 0, 1) := by decide +kernel
theorem dX0_tellRobot_124 : decode cX0_tellRobot 124 = .ok (.getfield 53, 3) := by decide +kernel
theorem dX0_tellRobot_127 : decode cX0_tellRobot 127 = .ok (.isub, 1) := by decide +kernel
theorem dX0_tellRobot_128 : decode cX0_tellRobot 128 = .ok (.invokestatic 173, 3) := by decide +kernel
theorem dX0_tellRobot_131 : decode cX0_tellRobot 131 = .ok (.ireturn, 1) := by decide +kernel
theorem dX0_tellRobot_132 : decode cX0_tellRobot 132 = .ok (.aload_n 0, 1) := by decide +kernel
theorem dX0_tellRobot_133 : decode cX0_tellRobot 133 = .ok (.getfield 11, 3) := by decide +kernel
theorem dX0_tellRobot_136 : decode cX0_tellRobot 136 = .ok (.iload_n 1, 1) := by decide +kernel
theorem dX0_tellRobot_137 : decode cX0_tellRobot 137 = .ok (.aaload, 1) := by decide +kernel
theorem dX0_tellRobot_138 : decode cX0_tellRobot 138 = .ok (.getfield 66, 3) := by decide +kernel
theorem dX0_tellRobot_141 : decode cX0_tellRobot 141 = .ok (.ireturn, 1) := by decide +kernel
theorem dX0_tellRobot_142 : decode cX0_tellRobot 142 = .ok (.aload_n 0, 1) := by decide +kernel
theorem dX0_tellRobot_143 : decode cX0_tellRobot 143 = .ok (.getfield 11, 3) := by decide +kernel
theorem dX0_tellRobot_146 : decode cX0_tellRobot 146 = .ok (.iload_n 1, 1) := by decide +kernel
theorem dX0_tellRobot_147 : decode cX0_tellRobot 147 = .ok (.aaload, 1) := by decide +kernel
theorem dX0_tellRobot_148 : decode cX0_tellRobot 148 = .ok (.getfield 199, 3) := by decide +kernel
theorem dX0_tellRobot_151 : decode cX0_tellRobot 151 = .ok (.ireturn, 1) := by decide +kernel
theorem dX0_tellRobot_152 : decode cX0_tellRobot 152 = .ok (.aload_n 0, 1) := by decide +kernel
theorem dX0_tellRobot_153 : decode cX0_tellRobot 153 = .ok (.getfield 11, 3) := by decide +kernel
theorem dX0_tellRobot_156 : decode cX0_tellRobot 156 = .ok (.iload_n 1, 1) := by decide +kernel
theorem dX0_tellRobot_157 : decode cX0_tellRobot 157 = .ok (.aaload, 1) := by decide +kernel
theorem dX0_tellRobot_158 : decode cX0_tellRobot 158 = .ok (.getfield 142, 3) := by decide +kernel
theorem dX0_tellRobot_161 : decode cX0_tellRobot 161 = .ok (.ireturn, 1) := by decide +kernel
theorem dX0_tellRobot_162 : decode cX0_tellRobot 162 = .ok (.bipush (-2), 2) := by decide +kernel
theorem dX0_tellRobot_164 : decode cX0_tellRobot 164 = .ok (.ireturn, 1) := by decide +kernel
theorem dX0_hasPicked_0 : decode cX0_hasPicked 0 = .ok (.iload_n 1, 1) := by decide +kernel
theorem dX0_hasPicked_1 : decode cX0_hasPicked 1 = .ok (.iconst (-1), 1) := by decide +kernel
theorem dX0_hasPicked_2 : decode cX0_hasPicked 2 = .ok (.if_icmp .eq 22, 3) := by decide +kernel
theorem dX0_hasPicked_5 : decode cX0_hasPicked 5 = .ok (.aload_n 0, 1) := by decide +kernel
theorem dX0_hasPicked_6 : decode cX0_hasPicked 6 = .ok (.getfield 35, 3) := by decide +kernel
theorem dX0_hasPicked_9 : decode cX0_hasPicked 9 = .ok (.iload_n 1, 1) := by decide +kernel
theorem dX0_hasPicked_10 : decode cX0_hasPicked 10 = .ok (.invokevirtual 112, 3) := by decide +kernel
theorem dX0_hasPicked_13 : decode cX0_hasPicked 13 = .ok (.getfield 161, 3) := by decide +kernel
theorem dX0_hasPicked_16 : decode cX0_hasPicked 16 = .ok (.iconst 2, 1) := by decide +kernel
theorem dX0_hasPicked_17 : decode cX0_hasPicked 17 = .ok (.if_icmp .ne 7, 3) := by decide +kernel
theorem dX0_hasPicked_20 : decode cX0_hasPicked 20 = .ok (.iconst 1, 1) := by decide +kernel
theorem dX0_hasPicked_21 : decode cX0_hasPicked 21 = .ok (.goto 4, 3) := by decide +kernel
theorem dX0_hasPicked_24 : decode cX0_hasPicked 24 = .ok (.iconst 0, 1) := by decide +kernel
theorem dX0_hasPicked_25 : decode cX0_hasPicked 25 = .ok (.ireturn, 1) := by decide +kernel
theorem dX0_cellIn_0 : decode cX0_cellIn 0 = .ok (.iload_n 1, 1) := by decide +kernel
theorem dX0_cellIn_1 : decode cX0_cellIn 1 = .ok (.ifCond .lt 15, 3) := by decide +kernel
theorem dX0_cellIn_4 : decode cX0_cellIn 4 = .ok (.iload_n 1, 1) := by decide +kernel
theorem dX0_cellIn_5 : decode cX0_cellIn 5 = .ok (.aload_n 0, 1) := by decide +kernel
theorem dX0_cellIn_6 : decode cX0_cellIn 6 = .ok (.getfield 49, 3) := by decide +kernel
theorem dX0_cellIn_9 : decode cX0_cellIn 9 = .ok (.if_icmp .ge 7, 3) := by decide +kernel
theorem dX0_cellIn_12 : decode cX0_cellIn 12 = .ok (.iload_n 2, 1) := by decide +kernel
theorem dX0_cellIn_13 : decode cX0_cellIn 13 = .ok (.ifCond .ge 5, 3) := by decide +kernel
theorem dX0_cellIn_16 : decode cX0_cellIn 16 = .ok (.iconst (-1), 1) := by decide +kernel
theorem dX0_cellIn_17 : decode cX0_cellIn 17 = .ok (.ireturn, 1) := by decide +kernel
theorem dX0_cellIn_18 : decode cX0_cellIn 18 = .ok (.aload_n 0, 1) := by decide +kernel
theorem dX0_cellIn_19 : decode cX0_cellIn 19 = .ok (.getfield 20, 3) := by decide +kernel
theorem dX0_cellIn_22 : decode cX0_cellIn 22 = .ok (.iload_n 1, 1) := by decide +kernel
theorem dX0_cellIn_23 : decode cX0_cellIn 23 = .ok (.aload_n 0, 1) := by decide +kernel
theorem dX0_cellIn_24 : decode cX0_cellIn 24 = .ok (.getfield 53, 3) := by decide +kernel
theorem dX0_cellIn_27 : decode cX0_cellIn 27 = .ok (.iload_n 2, 1) := by decide +kernel
theorem dX0_cellIn_28 : decode cX0_cellIn 28 = .ok (.sipush 1000, 3) := by decide +kernel
theorem dX0_cellIn_31 : decode cX0_cellIn 31 = .ok (.invokestatic 208, 3) := by decide +kernel
theorem dX0_cellIn_34 : decode cX0_cellIn 34 = .ok (.iadd, 1) := by decide +kernel
theorem dX0_cellIn_35 : decode cX0_cellIn 35 = .ok (.invokevirtual 105, 3) := by decide +kernel
theorem dX0_cellIn_38 : decode cX0_cellIn 38 = .ok (.ireturn, 1) := by decide +kernel
theorem dX0_cellAt_0 : decode cX0_cellAt 0 = .ok (.iload_n 1, 1) := by decide +kernel
theorem dX0_cellAt_1 : decode cX0_cellAt 1 = .ok (.ifCond .lt 23, 3) := by decide +kernel
theorem dX0_cellAt_4 : decode cX0_cellAt 4 = .ok (.iload_n 1, 1) := by decide +kernel
theorem dX0_cellAt_5 : decode cX0_cellAt 5 = .ok (.aload_n 0, 1) := by decide +kernel
theorem dX0_cellAt_6 : decode cX0_cellAt 6 = .ok (.getfield 49, 3) := by decide +kernel
theorem dX0_cellAt_9 : decode cX0_cellAt 9 = .ok (.if_icmp .ge 15, 3) := by decide +kernel
theorem dX0_cellAt_12 : decode cX0_cellAt 12 = .ok (.iload_n 2, 1) := by decide +kernel
theorem dX0_cellAt_13 : decode cX0_cellAt 13 = .ok (.ifCond .lt 11, 3) := by decide +kernel
theorem dX0_cellAt_16 : decode cX0_cellAt 16 = .ok (.iload_n 2, 1) := by decide +kernel
theorem dX0_cellAt_17 : decode cX0_cellAt 17 = .ok (.aload_n 0, 1) := by decide +kernel
theorem dX0_cellAt_18 : decode cX0_cellAt 18 = .ok (.getfield 53, 3) := by decide +kernel
theorem dX0_cellAt_21 : decode cX0_cellAt 21 = .ok (.if_icmp .le 7, 3) := by decide +kernel
theorem dX0_cellAt_24 : decode cX0_cellAt 24 = .ok (.iconst (-1), 1) := by decide +kernel
theorem dX0_cellAt_25 : decode cX0_cellAt 25 = .ok (.goto 12, 3) := by decide +kernel
theorem dX0_cellAt_28 : decode cX0_cellAt 28 = .ok (.aload_n 0, 1) := by decide +kernel
theorem dX0_cellAt_29 : decode cX0_cellAt 29 = .ok (.getfield 20, 3) := by decide +kernel
theorem dX0_cellAt_32 : decode cX0_cellAt 32 = .ok (.iload_n 1, 1) := by decide +kernel
theorem dX0_cellAt_33 : decode cX0_cellAt 33 = .ok (.iload_n 2, 1) := by decide +kernel
theorem dX0_cellAt_34 : decode cX0_cellAt 34 = .ok (.invokevirtual 105, 3) := by decide +kernel
theorem dX0_cellAt_37 : decode cX0_cellAt 37 = .ok (.ireturn, 1) := by decide +kernel
end
section
theorem dX1_init_0 : decode cX1_init 0 = .ok (.aload_n 0, 1) := by decide +kernel
theorem dX1_init_1 : decode cX1_init 1 = .ok (.invokespecial 3, 3) := by decide +kernel
theorem dX1_init_4 : decode cX1_init 4 = .ok (.aload_n 0, 1) := by decide +kernel
theorem dX1_init_5 : decode cX1_init 5 = .ok (.iconst 5, 1) := by decide +kernel
theorem dX1_init_6 : decode cX1_init 6 = .ok (.newarray .int, 2) := by decide +kernel
theorem dX1_init_8 : decode cX1_init 8 = .ok (.putfield 9, 3) := by decide +kernel
theorem dX1_init_11 : decode cX1_init 11 = .ok (.aload_n 0, 1) := by decide +kernel
theorem dX1_init_12 : decode cX1_init 12 = .ok (.bipush 10, 2) := by decide +kernel
theorem dX1_init_14 : decode cX1_init 14 = .ok (.newarray .long, 2) := by decide +kernel
theorem dX1_init_16 : decode cX1_init 16 = .ok (.putfield 15, 3) := by decide +kernel
theorem dX1_init_19 : decode cX1_init 19 = .ok (.aload_n 0, 1) := by decide +kernel
theorem dX1_init_20 : decode cX1_init 20 = .ok (.bipush 80, 2) := by decide +kernel
theorem dX1_init_22 : decode cX1_init 22 = .ok (.newarray .int, 2) := by decide +kernel
theorem dX1_init_24 : decode cX1_init 24 = .ok (.putfield 19, 3) := by decide +kernel
theorem dX1_init_27 : decode cX1_init 27 = .ok (.aload_n 0, 1) := by decide +kernel
theorem dX1_init_28 : decode cX1_init 28 = .ok (.bipush 80, 2) := by decide +kernel
theorem dX1_init_30 : decode cX1_init 30 = .ok (.newarray .int, 2) := by decide +kernel
theorem dX1_init_32 : decode cX1_init 32 = .ok (.putfield 22, 3) := by decide +kernel
theorem dX1_init_35 : decode cX1_init 35 = .ok (.aload_n 0, 1) := by decide +kernel
theorem dX1_init_36 : decode cX1_init 36 = .ok (.bipush 80, 2) := by decide +kernel
theorem dX1_init_38 : decode cX1_init 38 = .ok (.newarray .int, 2) := by decide +kernel
theorem dX1_init_40 : decode cX1_init 40 = .ok (.putfield 25, 3) := by decide +kernel
theorem dX1_init_43 : decode cX1_init 43 = .ok (.return_, 1) := by decide +kernel
theorem dX1_size_0 : decode cX1_size 0 = .ok (.aload_n 0, 1) := by decide +kernel
theorem dX1_size_1 : decode cX1_size 1 = .ok (.getfield 28, 3) := by decide +kernel
theorem dX1_size_4 : decode cX1_size 4 = .ok (.ireturn, 1) := by decide +kernel
theorem dX1_has_0 : decode cX1_has 0 = .ok (.iload_n 1, 1) := by decide +kernel
theorem dX1_has_1 : decode cX1_has 1 = .ok (.ifCond .lt 15, 3) := by decide +kernel
theorem dX1_has_4 : decode cX1_has 4 = .ok (.iload_n 1, 1) := by decide +kernel
theorem dX1_has_5 : decode cX1_has 5 = .ok (.aload_n 0, 1) := by decide +kernel
theorem dX1_has_6 : decode cX1_has 6 = .ok (.getfield 28, 3) := by decide +kernel
theorem dX1_has_9 : decode cX1_has 9 = .ok (.if_icmp .ge 7, 3) := by decide +kernel
theorem dX1_has_12 : decode cX1_has 12 = .ok (.iconst 1, 1) := by decide +kernel
theorem dX1_has_13 : decode cX1_has 13 = .ok (.goto 4, 3) := by decide +kernel
theorem dX1_has_16 : decode cX1_has 16 = .ok (.iconst 0, 1) := by decide +kernel
theorem dX1_has_17 : decode cX1_has 17 = .ok (.ireturn, 1) := by decide +kernel
theorem dX1_kindAt_0 : decode cX1_kindAt 0 = .ok (.aload_n 0, 1) := by decide +kernel
theorem dX1_kindAt_1 : decode cX1_kindAt 1 = .ok (.iload_n 1, 1) := by decide +kernel
theorem dX1_kindAt_2 : decode cX1_kindAt 2 = .ok (.invokevirtual 32, 3) := by decide +kernel
theorem dX1_kindAt_5 : decode cX1_kindAt 5 = .ok (.ifCond .eq 12, 3) := by decide +kernel
theorem dX1_kindAt_8 : decode cX1_kindAt 8 = .ok (.aload_n 0, 1) := by decide +kernel
theorem dX1_kindAt_9 : decode cX1_kindAt 9 = .ok (.getfield 19, 3) := by decide +kernel
theorem dX1_kindAt_12 : decode cX1_kindAt 12 = .ok (.iload_n 1, 1) := by decide +kernel
theorem dX1_kindAt_13 : decode cX1_kindAt 13 = .ok (.iaload, 1) := by decide +kernel
theorem dX1_kindAt_14 : decode cX1_kindAt 14 = .ok (.goto 4, 3) := by decide +kernel
theorem dX1_kindAt_17 : decode cX1_kindAt 17 = .ok (.iconst (-1), 1) := by decide +kernel
theorem dX1_kindAt_18 : decode cX1_kindAt 18 = .ok (.ireturn, 1) := by decide +kernel
theorem dX1_isPlace_0 : decode cX1_isPlace 0 = .ok (.aload_n 0, 1) := by decide +kernel
theorem dX1_isPlace_1 : decode cX1_isPlace 1 = .ok (.getfield 19, 3) := by decide +kernel
theorem dX1_isPlace_4 : decode cX1_isPlace 4 = .ok (.iload_n 1, 1) := by decide +kernel
theorem dX1_isPlace_5 : decode cX1_isPlace 5 = .ok (.iaload, 1) := by decide +kernel
theorem dX1_isPlace_6 : decode cX1_isPlace 6 = .ok (.iconst 1, 1) := by decide +kernel
theorem dX1_isPlace_7 : decode cX1_isPlace 7 = .ok (.if_icmp .le 7, 3) := by decide +kernel
theorem dX1_isPlace_10 : decode cX1_isPlace 10 = .ok (.iconst 1, 1) := by decide +kernel
theorem dX1_isPlace_11 : decode cX1_isPlace 11 = .ok (.goto 4, 3) := by decide +kernel
theorem dX1_isPlace_14 : decode cX1_isPlace 14 = .ok (.iconst 0, 1) := by decide +kernel
theorem dX1_isPlace_15 : decode cX1_isPlace 15 = .ok (.ireturn, 1) := by decide +kernel
theorem dX1_measured_0 : decode cX1_measured 0 = .ok (.aload_n 0, 1) := by decide +kernel
theorem dX1_measured_1 : decode cX1_measured 1 = .ok (.getfield 22, 3) := by decide +kernel
theorem dX1_measured_4 : decode cX1_measured 4 = .ok (.iload_n 1, 1) := by decide +kernel
theorem dX1_measured_5 : decode cX1_measured 5 = .ok (.iaload, 1) := by decide +kernel
theorem dX1_measured_6 : decode cX1_measured 6 = .ok (.ireturn, 1) := by decide +kernel
theorem dX1_placeInText_0 : decode cX1_placeInText 0 = .ok (.iload_n 1, 1) := by decide +kernel
theorem dX1_placeInText_1 : decode cX1_placeInText 1 = .ok (.iload_n 1, 1) := by decide +kernel
theorem dX1_placeInText_2 : decode cX1_placeInText 2 = .ok (.aload_n 0, 1) := by decide +kernel
theorem dX1_placeInText_3 : decode cX1_placeInText 3 = .ok (.getfield 36, 3) := by decide +kernel
theorem dX1_placeInText_6 : decode cX1_placeInText 6 = .ok (.iconst 1, 1) := by decide +kernel
theorem dX1_placeInText_7 : decode cX1_placeInText 7 = .ok (.invokestatic 39, 3) := by decide +kernel
theorem dX1_placeInText_10 : decode cX1_placeInText 10 = .ok (.idiv, 1) := by decide +kernel
theorem dX1_placeInText_11 : decode cX1_placeInText 11 = .ok (.iadd, 1) := by decide +kernel
theorem dX1_placeInText_12 : decode cX1_placeInText 12 = .ok (.ireturn, 1) := by decide +kernel
theorem dX1_load_0 : decode cX1_load 0 = .ok (.aload_n 0, 1) := by decide +kernel
theorem dX1_load_1 : decode cX1_load 1 = .ok (.iconst 0, 1) := by decide +kernel
theorem dX1_load_2 : decode cX1_load 2 = .ok (.putfield 28, 3) := by decide +kernel
theorem dX1_load_5 : decode cX1_load 5 = .ok (.aload_n 0, 1) := by decide +kernel
theorem dX1_load_6 : decode cX1_load 6 = .ok (.aload_n 1, 1) := by decide +kernel
theorem dX1_load_7 : decode cX1_load 7 = .ok (.invokevirtual 45, 3) := by decide +kernel
theorem dX1_load_10 : decode cX1_load 10 = .ok (.putfield 36, 3) := by decide +kernel
theorem dX1_load_13 : decode cX1_load 13 = .ok (.iconst 0, 1) := by decide +kernel
theorem dX1_load_14 : decode cX1_load 14 = .ok (.istore_n 2, 1) := by decide +kernel
theorem dX1_load_15 : decode cX1_load 15 = .ok (.iload_n 2, 1) := by decide +kernel
theorem dX1_load_16 : decode cX1_load 16 = .ok (.aload_n 1, 1) := by decide +kernel
theorem dX1_load_17 : decode cX1_load 17 = .ok (.invokevirtual 50, 3) := by decide +kernel
theorem dX1_load_20 : decode cX1_load 20 = .ok (.if_icmp .ge 49, 3) := by decide +kernel
theorem dX1_load_23 : decode cX1_load 23 = .ok (.aload_n 0, 1) := by decide +kernel
theorem dX1_load_24 : decode cX1_load 24 = .ok (.getfield 28, 3) := by decide +kernel
theorem dX1_load_27 : decode cX1_load 27 = .ok (.bipush 80, 2) := by decide +kernel
theorem dX1_load_29 : decode cX1_load 29 = .ok (.if_icmp .ge 40, 3) := by decide +kernel
theorem dX1_load_32 : decode cX1_load 32 = .ok (.aload_n 1, 1) := by decide +kernel
theorem dX1_load_33 : decode cX1_load 33 = .ok (.iload_n 2, 1) := by decide +kernel
theorem dX1_load_34 : decode cX1_load 34 = .ok (.invokevirtual 53, 3) := by decide +kernel
theorem dX1_load_37 : decode cX1_load 37 = .ok (.istore_n 3, 1) := by decide +kernel
theorem dX1_load_38 : decode cX1_load 38 = .ok (.iload_n 3, 1) := by decide +kernel
theorem dX1_load_39 : decode cX1_load 39 = .ok (.iconst 5, 1) := by decide +kernel
theorem dX1_load_40 : decode cX1_load 40 = .ok (.if_icmp .eq 23, 3) := by decide +kernel
theorem dX1_load_43 : decode cX1_load 43 = .ok (.aload_n 0, 1) := by decide +kernel
theorem dX1_load_44 : decode cX1_load 44 = .ok (.getfield 19, 3) := by decide +kernel
theorem dX1_load_47 : decode cX1_load 47 = .ok (.aload_n 0, 1) := by decide +kernel
theorem dX1_load_48 : decode cX1_load 48 = .ok (.getfield 28, 3) := by decide +kernel
theorem dX1_load_51 : decode cX1_load 51 = .ok (.iload_n 3, 1) := by decide +kernel
theorem dX1_load_52 : decode cX1_load 52 = .ok (.iastore, 1) := by decide +kernel
theorem dX1_load_53 : decode cX1_load 53 = .ok (.aload_n 0, 1) := by decide +kernel
theorem dX1_load_54 : decode cX1_load 54 = .ok (.dup, 1) := by decide +kernel
theorem dX1_load_55 : decode cX1_load 55 = .ok (.getfield 28, 3) := by decide +kernel
theorem dX1_load_58 : decode cX1_load 58 = .ok (.iconst 1, 1) := by decide +kernel
theorem dX1_load_59 : decode cX1_load 59 = .ok (.iadd, 1) := by decide +kernel
theorem dX1_load_60 : decode cX1_load 60 = .ok (.putfield 28, 3) := by decide +kernel
theorem dX1_load_63 : decode cX1_load 63 = .ok (.iinc 2 1, 3) := by decide +kernel
theorem dX1_load_66 : decode cX1_load 66 = .ok (.goto (-51), 3) := by decide +kernel
theorem dX1_load_69 : decode cX1_load 69 = .ok (.aload_n 0, 1) := by decide +kernel
theorem dX1_load_70 : decode cX1_load 70 = .ok (.getfield 9, 3) := by decide +kernel
theorem dX1_load_73 : decode cX1_load 73 = .ok (.iconst 0, 1) := by decide +kernel
theorem dX1_load_74 : decode cX1_load 74 = .ok (.iconst 0, 1) := by decide +kernel
theorem dX1_load_75 : decode cX1_load 75 = .ok (.iastore, 1) := by decide +kernel
theorem dX1_load_76 : decode cX1_load 76 = .ok (.aload_n 0, 1) := by decide +kernel
theorem dX1_load_77 : decode cX1_load 77 = .ok (.getfield 9, 3) := by decide +kernel
theorem dX1_load_80 : decode cX1_load 80 = .ok (.iconst 1, 1) := by decide +kernel
theorem dX1_load_81 : decode cX1_load 81 = .ok (.aload_n 0, 1) := by decide +kernel
theorem dX1_load_82 : decode cX1_load 82 = .ok (.getfield 36, 3) := by decide +kernel
theorem dX1_load_85 : decode cX1_load 85 = .ok (.ineg, 1) := by decide +kernel
theorem dX1_load_86 : decode cX1_load 86 = .ok (.iastore, 1) := by decide +kernel
theorem dX1_load_87 : decode cX1_load 87 = .ok (.aload_n 0, 1) := by decide +kernel
theorem dX1_load_88 : decode cX1_load 88 = .ok (.getfield 9, 3) := by decide +kernel
theorem dX1_load_91 : decode cX1_load 91 = .ok (.iconst 2, 1) := by decide +kernel
theorem dX1_load_92 : decode cX1_load 92 = .ok (.iconst 1, 1) := by decide +kernel
theorem dX1_load_93 : decode cX1_load 93 = .ok (.iastore, 1) := by decide +kernel
theorem dX1_load_94 : decode cX1_load 94 = .ok (.aload_n 0, 1) := by decide +kernel
theorem dX1_load_95 : decode cX1_load 95 = .ok (.getfield 9, 3) := by decide +kernel
theorem dX1_load_98 : decode cX1_load 98 = .ok (.iconst 3, 1) := by decide +kernel
theorem dX1_load_99 : decode cX1_load 99 = .ok (.aload_n 0, 1) := by decide +kernel
theorem dX1_load_100 : decode cX1_load 100 = .ok (.getfield 36, 3) := by decide +kernel
theorem dX1_load_103 : decode cX1_load 103 = .ok (.iastore, 1) := by decide +kernel
theorem dX1_load_104 : decode cX1_load 104 = .ok (.aload_n 0, 1) := by decide +kernel
theorem dX1_load_105 : decode cX1_load 105 = .ok (.getfield 9, 3) := by decide +kernel
theorem dX1_load_108 : decode cX1_load 108 = .ok (.iconst 4, 1) := by decide +kernel
theorem dX1_load_109 : decode cX1_load 109 = .ok (.iconst (-1), 1) := by decide +kernel
theorem dX1_load_110 : decode cX1_load 110 = .ok (.iastore, 1) := by decide +kernel
theorem dX1_load_111 : decode cX1_load 111 = .ok (.aload_n 0, 1) := by decide +kernel
theorem dX1_load_112 : decode cX1_load 112 = .ok (.invokevirtual 57, 3) := by decide +kernel
theorem dX1_load_115 : decode cX1_load 115 = .ok (.return_, 1) := by decide +kernel
theorem dX1_findOpenMoves_0 : decode cX1_findOpenMoves 0 = .ok (.aload_n 0, 1) := by decide +kernel
theorem dX1_findOpenMoves_1 : decode cX1_findOpenMoves 1 = .ok (.getfield 15, 3) := by decide +kernel
theorem dX1_findOpenMoves_4 : decode cX1_findOpenMoves 4 = .ok (.lconst 0, 1) := by decide +kernel
theorem dX1_findOpenMoves_5 : decode cX1_findOpenMoves 5 = .ok (.invokestatic 60, 3) := by decide +kernel
theorem dX1_findOpenMoves_8 : decode cX1_findOpenMoves 8 = .ok (.iconst 0, 1) := by decide +kernel
theorem dX1_findOpenMoves_9 : decode cX1_findOpenMoves 9 = .ok (.istore_n 1, 1) := by decide +kernel
theorem dX1_findOpenMoves_10 : decode cX1_findOpenMoves 10 = .ok (.iload_n 1, 1) := by decide +kernel
theorem dX1_findOpenMoves_11 : decode cX1_findOpenMoves 11 = .ok (.aload_n 0, 1) := by decide +kernel
theorem dX1_findOpenMoves_12 : decode cX1_findOpenMoves 12 = .ok (.getfield 28, 3) := by decide +kernel
theorem dX1_findOpenMoves_15 : decode cX1_findOpenMoves 15 = .ok (.if_icmp .ge 50, 3) := by decide +kernel
theorem dX1_findOpenMoves_18 : decode cX1_findOpenMoves 18 = .ok (.iconst 0, 1) := by decide +kernel
theorem dX1_findOpenMoves_19 : decode cX1_findOpenMoves 19 = .ok (.istore_n 2, 1) := by decide +kernel
theorem dX1_findOpenMoves_20 : decode cX1_findOpenMoves 20 = .ok (.iload_n 2, 1) := by decide +kernel
theorem dX1_findOpenMoves_21 : decode cX1_findOpenMoves 21 = .ok (.iconst 5, 1) := by decide +kernel
theorem dX1_findOpenMoves_22 : decode cX1_findOpenMoves 22 = .ok (.if_icmp .ge 37, 3) := by decide +kernel
theorem dX1_findOpenMoves_25 : decode cX1_findOpenMoves 25 = .ok (.aload_n 0, 1) := by decide +kernel
theorem dX1_findOpenMoves_26 : decode cX1_findOpenMoves 26 = .ok (.iload_n 1, 1) := by decide +kernel
theorem dX1_findOpenMoves_27 : decode cX1_findOpenMoves 27 = .ok (.iload_n 2, 1) := by decide +kernel
theorem dX1_findOpenMoves_28 : decode cX1_findOpenMoves 28 = .ok (.invokevirtual 66, 3) := by decide +kernel
theorem dX1_findOpenMoves_31 : decode cX1_findOpenMoves 31 = .ok (.ifCond .eq 22, 3) := by decide +kernel
theorem dX1_findOpenMoves_34 : decode cX1_findOpenMoves 34 = .ok (.aload_n 0, 1) := by decide +kernel
theorem dX1_findOpenMoves_35 : decode cX1_findOpenMoves 35 = .ok (.getfield 15, 3) := by decide +kernel
theorem dX1_findOpenMoves_38 : decode cX1_findOpenMoves 38 = .ok (.iconst 2, 1) := by decide +kernel
theorem dX1_findOpenMoves_39 : decode cX1_findOpenMoves 39 = .ok (.iload_n 2, 1) := by decide +kernel
theorem dX1_findOpenMoves_40 : decode cX1_findOpenMoves 40 = .ok (.imul, 1) := by decide +kernel
theorem dX1_findOpenMoves_41 : decode cX1_findOpenMoves 41 = .ok (.iload_n 1, 1) := by decide +kernel
theorem dX1_findOpenMoves_42 : decode cX1_findOpenMoves 42 = .ok (.bipush 6, 2) := by decide +kernel
theorem dX1_findOpenMoves_44 : decode cX1_findOpenMoves 44 = .ok (.ishr, 1) := by decide +kernel
theorem dX1_findOpenMoves_45 : decode cX1_findOpenMoves 45 = .ok (.iadd, 1) := by decide +kernel
theorem dX1_findOpenMoves_46 : decode cX1_findOpenMoves 46 = .ok (.dup2, 1) := by decide +kernel
theorem dX1_findOpenMoves_47 : decode cX1_findOpenMoves 47 = .ok (.laload, 1) := by decide +kernel
theorem dX1_findOpenMoves_48 : decode cX1_findOpenMoves 48 = .ok (.lconst 1, 1) := by decide +kernel
theorem dX1_findOpenMoves_49 : decode cX1_findOpenMoves 49 = .ok (.iload_n 1, 1) := by decide +kernel
theorem dX1_findOpenMoves_50 : decode cX1_findOpenMoves 50 = .ok (.lshl, 1) := by decide +kernel
theorem dX1_findOpenMoves_51 : decode cX1_findOpenMoves 51 = .ok (.lor, 1) := by decide +kernel
theorem dX1_findOpenMoves_52 : decode cX1_findOpenMoves 52 = .ok (.lastore, 1) := by decide +kernel
theorem dX1_findOpenMoves_53 : decode cX1_findOpenMoves 53 = .ok (.iinc 2 1, 3) := by decide +kernel
theorem dX1_findOpenMoves_56 : decode cX1_findOpenMoves 56 = .ok (.goto (-36), 3) := by decide +kernel
theorem dX1_findOpenMoves_59 : decode cX1_findOpenMoves 59 = .ok (.iinc 1 1, 3) := by decide +kernel
theorem dX1_findOpenMoves_62 : decode cX1_findOpenMoves 62 = .ok (.goto (-52), 3) := by decide +kernel
theorem dX1_findOpenMoves_65 : decode cX1_findOpenMoves 65 = .ok (.return_, 1) := by decide +kernel
theorem dX1_leadsOn_0 : decode cX1_leadsOn 0 = .ok (.iload_n 1, 1) := by decide +kernel
theorem dX1_leadsOn_1 : decode cX1_leadsOn 1 = .ok (.aload_n 0, 1) := by decide +kernel
theorem dX1_leadsOn_2 : decode cX1_leadsOn 2 = .ok (.getfield 36, 3) := by decide +kernel
theorem dX1_leadsOn_5 : decode cX1_leadsOn 5 = .ok (.iconst 1, 1) := by decide +kernel
theorem dX1_leadsOn_6 : decode cX1_leadsOn 6 = .ok (.invokestatic 39, 3) := by decide +kernel
theorem dX1_leadsOn_9 : decode cX1_leadsOn 9 = .ok (.irem, 1) := by decide +kernel
theorem dX1_leadsOn_10 : decode cX1_leadsOn 10 = .ok (.istore_n 3, 1) := by decide +kernel
theorem dX1_leadsOn_11 : decode cX1_leadsOn 11 = .ok (.aload_n 0, 1) := by decide +kernel
theorem dX1_leadsOn_12 : decode cX1_leadsOn 12 = .ok (.getfield 19, 3) := by decide +kernel
theorem dX1_leadsOn_15 : decode cX1_leadsOn 15 = .ok (.iload_n 1, 1) := by decide +kernel
theorem dX1_leadsOn_16 : decode cX1_leadsOn 16 = .ok (.iaload, 1) := by decide +kernel
theorem dX1_leadsOn_17 : decode cX1_leadsOn 17 = .ok (.ifCond .eq 27, 3) := by decide +kernel
theorem dX1_leadsOn_20 : decode cX1_leadsOn 20 = .ok (.iload_n 2, 1) := by decide +kernel
theorem dX1_leadsOn_21 : decode cX1_leadsOn 21 = .ok (.iconst 2, 1) := by decide +kernel
theorem dX1_leadsOn_22 : decode cX1_leadsOn 22 = .ok (.if_icmp .ne 13, 3) := by decide +kernel
theorem dX1_leadsOn_25 : decode cX1_leadsOn 25 = .ok (.iload_n 3, 1) := by decide +kernel
theorem dX1_leadsOn_26 : decode cX1_leadsOn 26 = .ok (.aload_n 0, 1) := by decide +kernel
theorem dX1_leadsOn_27 : decode cX1_leadsOn 27 = .ok (.getfield 36, 3) := by decide +kernel
theorem dX1_leadsOn_30 : decode cX1_leadsOn 30 = .ok (.iconst 1, 1) := by decide +kernel
theorem dX1_leadsOn_31 : decode cX1_leadsOn 31 = .ok (.isub, 1) := by decide +kernel
theorem dX1_leadsOn_32 : decode cX1_leadsOn 32 = .ok (.if_icmp .eq 12, 3) := by decide +kernel
theorem dX1_leadsOn_35 : decode cX1_leadsOn 35 = .ok (.iload_n 2, 1) := by decide +kernel
theorem dX1_leadsOn_36 : decode cX1_leadsOn 36 = .ok (.iconst 4, 1) := by decide +kernel
theorem dX1_leadsOn_37 : decode cX1_leadsOn 37 = .ok (.if_icmp .ne 9, 3) := by decide +kernel
theorem dX1_leadsOn_40 : decode cX1_leadsOn 40 = .ok (.iload_n 3, 1) := by decide +kernel
theorem dX1_leadsOn_41 : decode cX1_leadsOn 41 = .ok (.ifCond .ne 5, 3) := by decide +kernel
theorem dX1_leadsOn_44 : decode cX1_leadsOn 44 = .ok (.iconst 0, 1) := by decide +kernel
theorem dX1_leadsOn_45 : decode cX1_leadsOn 45 = .ok (.ireturn, 1) := by decide +kernel
theorem dX1_leadsOn_46 : decode cX1_leadsOn 46 = .ok (.aload_n 0, 1) := by decide +kernel
theorem dX1_leadsOn_47 : decode cX1_leadsOn 47 = .ok (.iload_n 1, 1) := by decide +kernel
theorem dX1_leadsOn_48 : decode cX1_leadsOn 48 = .ok (.aload_n 0, 1) := by decide +kernel
theorem dX1_leadsOn_49 : decode cX1_leadsOn 49 = .ok (.getfield 9, 3) := by decide +kernel
theorem dX1_leadsOn_52 : decode cX1_leadsOn 52 = .ok (.iload_n 2, 1) := by decide +kernel
theorem dX1_leadsOn_53 : decode cX1_leadsOn 53 = .ok (.iaload, 1) := by decide +kernel
theorem dX1_leadsOn_54 : decode cX1_leadsOn 54 = .ok (.iadd, 1) := by decide +kernel
theorem dX1_leadsOn_55 : decode cX1_leadsOn 55 = .ok (.invokevirtual 70, 3) := by decide +kernel
theorem dX1_leadsOn_58 : decode cX1_leadsOn 58 = .ok (.ifCond .le 7, 3) := by decide +kernel
theorem dX1_leadsOn_61 : decode cX1_leadsOn 61 = .ok (.iconst 1, 1) := by decide +kernel
theorem dX1_leadsOn_62 : decode cX1_leadsOn 62 = .ok (.goto 4, 3) := by decide +kernel
theorem dX1_leadsOn_65 : decode cX1_leadsOn 65 = .ok (.iconst 0, 1) := by decide +kernel
theorem dX1_leadsOn_66 : decode cX1_leadsOn 66 = .ok (.ireturn, 1) := by decide +kernel
theorem dX1_isOpen_0 : decode cX1_isOpen 0 = .ok (.aload_n 0, 1) := by decide +kernel
theorem dX1_isOpen_1 : decode cX1_isOpen 1 = .ok (.getfield 15, 3) := by decide +kernel
theorem dX1_isOpen_4 : decode cX1_isOpen 4 = .ok (.iconst 2, 1) := by decide +kernel
theorem dX1_isOpen_5 : decode cX1_isOpen 5 = .ok (.iload_n 2, 1) := by decide +kernel
theorem dX1_isOpen_6 : decode cX1_isOpen 6 = .ok (.imul, 1) := by decide +kernel
theorem dX1_isOpen_7 : decode cX1_isOpen 7 = .ok (.iload_n 1, 1) := by decide +kernel
theorem dX1_isOpen_8 : decode cX1_isOpen 8 = .ok (.bipush 6, 2) := by decide +kernel
theorem dX1_isOpen_10 : decode cX1_isOpen 10 = .ok (.ishr, 1) := by decide +kernel
theorem dX1_isOpen_11 : decode cX1_isOpen 11 = .ok (.iadd, 1) := by decide +kernel
theorem dX1_isOpen_12 : decode cX1_isOpen 12 = .ok (.laload, 1) := by decide +kernel
theorem dX1_isOpen_13 : decode cX1_isOpen 13 = .ok (.iload_n 1, 1) := by decide +kernel
theorem dX1_isOpen_14 : decode cX1_isOpen 14 = .ok (.lushr, 1) := by decide +kernel
theorem dX1_isOpen_15 : decode cX1_isOpen 15 = .ok (.lconst 1, 1) := by decide +kernel
theorem dX1_isOpen_16 : decode cX1_isOpen 16 = .ok (.land, 1) := by decide +kernel
theorem dX1_isOpen_17 : decode cX1_isOpen 17 = .ok (.lconst 0, 1) := by decide +kernel
theorem dX1_isOpen_18 : decode cX1_isOpen 18 = .ok (.lcmp, 1) := by decide +kernel
theorem dX1_isOpen_19 : decode cX1_isOpen 19 = .ok (.ifCond .eq 7, 3) := by decide +kernel
theorem dX1_isOpen_22 : decode cX1_isOpen 22 = .ok (.iconst 1, 1) := by decide +kernel
theorem dX1_isOpen_23 : decode cX1_isOpen 23 = .ok (.goto 4, 3) := by decide +kernel
theorem dX1_isOpen_26 : decode cX1_isOpen 26 = .ok (.iconst 0, 1) := by decide +kernel
theorem dX1_isOpen_27 : decode cX1_isOpen 27 = .ok (.ireturn, 1) := by decide +kernel
theorem dX1_isMove_0 : decode cX1_isMove 0 = .ok (.iconst 0, 1) := by decide +kernel
theorem dX1_isMove_1 : decode cX1_isMove 1 = .ok (.istore_n 3, 1) := by decide +kernel
theorem dX1_isMove_2 : decode cX1_isMove 2 = .ok (.iload_n 3, 1) := by decide +kernel
theorem dX1_isMove_3 : decode cX1_isMove 3 = .ok (.iconst 5, 1) := by decide +kernel
theorem dX1_isMove_4 : decode cX1_isMove 4 = .ok (.if_icmp .ge 32, 3) := by decide +kernel
theorem dX1_isMove_7 : decode cX1_isMove 7 = .ok (.aload_n 0, 1) := by decide +kernel
theorem dX1_isMove_8 : decode cX1_isMove 8 = .ok (.iload_n 1, 1) := by decide +kernel
theorem dX1_isMove_9 : decode cX1_isMove 9 = .ok (.iload_n 3, 1) := by decide +kernel
theorem dX1_isMove_10 : decode cX1_isMove 10 = .ok (.invokevirtual 73, 3) := by decide +kernel
theorem dX1_isMove_13 : decode cX1_isMove 13 = .ok (.ifCond .eq 17, 3) := by decide +kernel
theorem dX1_isMove_16 : decode cX1_isMove 16 = .ok (.iload_n 1, 1) := by decide +kernel
theorem dX1_isMove_17 : decode cX1_isMove 17 = .ok (.aload_n 0, 1) := by decide +kernel
theorem dX1_isMove_18 : decode cX1_isMove 18 = .ok (.getfield 9, 3) := by decide +kernel
theorem dX1_isMove_21 : decode cX1_isMove 21 = .ok (.iload_n 3, 1) := by decide +kernel
theorem dX1_isMove_22 : decode cX1_isMove 22 = .ok (.iaload, 1) := by decide +kernel
theorem dX1_isMove_23 : decode cX1_isMove 23 = .ok (.iadd, 1) := by decide +kernel
theorem dX1_isMove_24 : decode cX1_isMove 24 = .ok (.iload_n 2, 1) := by decide +kernel
theorem dX1_isMove_25 : decode cX1_isMove 25 = .ok (.if_icmp .ne 5, 3) := by decide +kernel
theorem dX1_isMove_28 : decode cX1_isMove 28 = .ok (.iconst 1, 1) := by decide +kernel
theorem dX1_isMove_29 : decode cX1_isMove 29 = .ok (.ireturn, 1) := by decide +kernel
theorem dX1_isMove_30 : decode cX1_isMove 30 = .ok (.iinc 3 1, 3) := by decide +kernel
theorem dX1_isMove_33 : decode cX1_isMove 33 = .ok (.goto (-31), 3) := by decide +kernel
theorem dX1_isMove_36 : decode cX1_isMove 36 = .ok (.iconst 0, 1) := by decide +kernel
theorem dX1_isMove_37 : decode cX1_isMove 37 = .ok (.ireturn, 1) := by decide +kernel
theorem dX1_hasAllKinds_0 : decode cX1_hasAllKinds 0 = .ok (.iconst 0, 1) := by decide +kernel
theorem dX1_hasAllKinds_1 : decode cX1_hasAllKinds 1 = .ok (.istore_n 1, 1) := by decide +kernel
theorem dX1_hasAllKinds_2 : decode cX1_hasAllKinds 2 = .ok (.iconst 0, 1) := by decide +kernel
theorem dX1_hasAllKinds_3 : decode cX1_hasAllKinds 3 = .ok (.istore_n 2, 1) := by decide +kernel
theorem dX1_hasAllKinds_4 : decode cX1_hasAllKinds 4 = .ok (.iload_n 2, 1) := by decide +kernel
theorem dX1_hasAllKinds_5 : decode cX1_hasAllKinds 5 = .ok (.aload_n 0, 1) := by decide +kernel
theorem dX1_hasAllKinds_6 : decode cX1_hasAllKinds 6 = .ok (.getfield 28, 3) := by decide +kernel
theorem dX1_hasAllKinds_9 : decode cX1_hasAllKinds 9 = .ok (.if_icmp .ge 20, 3) := by decide +kernel
theorem dX1_hasAllKinds_12 : decode cX1_hasAllKinds 12 = .ok (.iload_n 1, 1) := by decide +kernel
theorem dX1_hasAllKinds_13 : decode cX1_hasAllKinds 13 = .ok (.iconst 1, 1) := by decide +kernel
theorem dX1_hasAllKinds_14 : decode cX1_hasAllKinds 14 = .ok (.aload_n 0, 1) := by decide +kernel
theorem dX1_hasAllKinds_15 : decode cX1_hasAllKinds 15 = .ok (.getfield 19, 3) := by decide +kernel
theorem dX1_hasAllKinds_18 : decode cX1_hasAllKinds 18 = .ok (.iload_n 2, 1) := by decide +kernel
theorem dX1_hasAllKinds_19 : decode cX1_hasAllKinds 19 = .ok (.iaload, 1) := by decide +kernel
theorem dX1_hasAllKinds_20 : decode cX1_hasAllKinds 20 = .ok (.ishl, 1) := by decide +kernel
theorem dX1_hasAllKinds_21 : decode cX1_hasAllKinds 21 = .ok (.ior, 1) := by decide +kernel
theorem dX1_hasAllKinds_22 : decode cX1_hasAllKinds 22 = .ok (.istore_n 1, 1) := by decide +kernel
theorem dX1_hasAllKinds_23 : decode cX1_hasAllKinds 23 = .ok (.iinc 2 1, 3) := by decide +kernel
theorem dX1_hasAllKinds_26 : decode cX1_hasAllKinds 26 = .ok (.goto (-22), 3) := by decide +kernel
theorem dX1_hasAllKinds_29 : decode cX1_hasAllKinds 29 = .ok (.bipush 28, 2) := by decide +kernel
theorem dX1_hasAllKinds_31 : decode cX1_hasAllKinds 31 = .ok (.istore_n 2, 1) := by decide +kernel
theorem dX1_hasAllKinds_32 : decode cX1_hasAllKinds 32 = .ok (.iload_n 1, 1) := by decide +kernel
theorem dX1_hasAllKinds_33 : decode cX1_hasAllKinds 33 = .ok (.iload_n 2, 1) := by decide +kernel
theorem dX1_hasAllKinds_34 : decode cX1_hasAllKinds 34 = .ok (.iand, 1) := by decide +kernel
theorem dX1_hasAllKinds_35 : decode cX1_hasAllKinds 35 = .ok (.iload_n 2, 1) := by decide +kernel
theorem dX1_hasAllKinds_36 : decode cX1_hasAllKinds 36 = .ok (.if_icmp .ne 7, 3) := by decide +kernel
theorem dX1_hasAllKinds_39 : decode cX1_hasAllKinds 39 = .ok (.iconst 1, 1) := by decide +kernel
theorem dX1_hasAllKinds_40 : decode cX1_hasAllKinds 40 = .ok (.goto 4, 3) := by decide +kernel
theorem dX1_hasAllKinds_43 : decode cX1_hasAllKinds 43 = .ok (.iconst 0, 1) := by decide +kernel
theorem dX1_hasAllKinds_44 : decode cX1_hasAllKinds 44 = .ok (.ireturn, 1) := by decide +kernel
theorem dX1_firstPlaceApart_0 : decode cX1_firstPlaceApart 0 = .ok (.iconst 0, 1) := by decide +kernel
theorem dX1_firstPlaceApart_1 : decode cX1_firstPlaceApart 1 = .ok (.istore_n 1, 1) := by decide +kernel
theorem dX1_firstPlaceApart_2 : decode cX1_firstPlaceApart 2 = .ok (.iload_n 1, 1) := by decide +kernel
theorem dX1_firstPlaceApart_3 : decode cX1_firstPlaceApart 3 = .ok (.aload_n 0, 1) := by decide +kernel
theorem dX1_firstPlaceApart_4 : decode cX1_firstPlaceApart 4 = .ok (.getfield 28, 3) := by decide +kernel
theorem dX1_firstPlaceApart_7 : decode cX1_firstPlaceApart 7 = .ok (.if_icmp .ge 27, 3) := by decide +kernel
theorem dX1_firstPlaceApart_10 : decode cX1_firstPlaceApart 10 = .ok (.aload_n 0, 1) := by decide +kernel
theorem dX1_firstPlaceApart_11 : decode cX1_firstPlaceApart 11 = .ok (.iload_n 1, 1) := by decide +kernel
theorem dX1_firstPlaceApart_12 : decode cX1_firstPlaceApart 12 = .ok (.invokevirtual 76, 3) := by decide +kernel
theorem dX1_firstPlaceApart_15 : decode cX1_firstPlaceApart 15 = .ok (.ifCond .eq 13, 3) := by decide +kernel
theorem dX1_firstPlaceApart_18 : decode cX1_firstPlaceApart 18 = .ok (.aload_n 0, 1) := by decide +kernel
theorem dX1_firstPlaceApart_19 : decode cX1_firstPlaceApart 19 = .ok (.iload_n 1, 1) := by decide +kernel
theorem dX1_firstPlaceApart_20 : decode cX1_firstPlaceApart 20 = .ok (.invokevirtual 79, 3) := by decide +kernel
theorem dX1_firstPlaceApart_23 : decode cX1_firstPlaceApart 23 = .ok (.ifCond .ne 5, 3) := by decide +kernel
theorem dX1_firstPlaceApart_26 : decode cX1_firstPlaceApart 26 = .ok (.iload_n 1, 1) := by decide +kernel
theorem dX1_firstPlaceApart_27 : decode cX1_firstPlaceApart 27 = .ok (.ireturn, 1) := by decide +kernel
theorem dX1_firstPlaceApart_28 : decode cX1_firstPlaceApart 28 = .ok (.iinc 1 1, 3) := by decide +kernel
theorem dX1_firstPlaceApart_31 : decode cX1_firstPlaceApart 31 = .ok (.goto (-29), 3) := by decide +kernel
theorem dX1_firstPlaceApart_34 : decode cX1_firstPlaceApart 34 = .ok (.iconst (-1), 1) := by decide +kernel
theorem dX1_firstPlaceApart_35 : decode cX1_firstPlaceApart 35 = .ok (.ireturn, 1) := by decide +kernel
theorem dX1_isJoinedToAll_0 : decode cX1_isJoinedToAll 0 = .ok (.aload_n 0, 1) := by decide +kernel
theorem dX1_isJoinedToAll_1 : decode cX1_isJoinedToAll 1 = .ok (.iload_n 1, 1) := by decide +kernel
theorem dX1_isJoinedToAll_2 : decode cX1_isJoinedToAll 2 = .ok (.iconst 0, 1) := by decide +kernel
theorem dX1_isJoinedToAll_3 : decode cX1_isJoinedToAll 3 = .ok (.invokevirtual 82, 3) := by decide +kernel
theorem dX1_isJoinedToAll_6 : decode cX1_isJoinedToAll 6 = .ok (.iconst 0, 1) := by decide +kernel
theorem dX1_isJoinedToAll_7 : decode cX1_isJoinedToAll 7 = .ok (.istore_n 2, 1) := by decide +kernel
theorem dX1_isJoinedToAll_8 : decode cX1_isJoinedToAll 8 = .ok (.iload_n 2, 1) := by decide +kernel
theorem dX1_isJoinedToAll_9 : decode cX1_isJoinedToAll 9 = .ok (.aload_n 0, 1) := by decide +kernel
theorem dX1_isJoinedToAll_10 : decode cX1_isJoinedToAll 10 = .ok (.getfield 28, 3) := by decide +kernel
theorem dX1_isJoinedToAll_13 : decode cX1_isJoinedToAll 13 = .ok (.if_icmp .ge 29, 3) := by decide +kernel
theorem dX1_isJoinedToAll_16 : decode cX1_isJoinedToAll 16 = .ok (.aload_n 0, 1) := by decide +kernel
theorem dX1_isJoinedToAll_17 : decode cX1_isJoinedToAll 17 = .ok (.iload_n 2, 1) := by decide +kernel
theorem dX1_isJoinedToAll_18 : decode cX1_isJoinedToAll 18 = .ok (.invokevirtual 76, 3) := by decide +kernel
theorem dX1_isJoinedToAll_21 : decode cX1_isJoinedToAll 21 = .ok (.ifCond .eq 15, 3) := by decide +kernel
theorem dX1_isJoinedToAll_24 : decode cX1_isJoinedToAll 24 = .ok (.aload_n 0, 1) := by decide +kernel
theorem dX1_isJoinedToAll_25 : decode cX1_isJoinedToAll 25 = .ok (.getfield 22, 3) := by decide +kernel
theorem dX1_isJoinedToAll_28 : decode cX1_isJoinedToAll 28 = .ok (.iload_n 2, 1) := by decide +kernel
theorem dX1_isJoinedToAll_29 : decode cX1_isJoinedToAll 29 = .ok (.iaload, 1) := by decide +kernel
theorem dX1_isJoinedToAll_30 : decode cX1_isJoinedToAll 30 = .ok (.iconst (-1), 1) := by decide +kernel
theorem dX1_isJoinedToAll_31 : decode cX1_isJoinedToAll 31 = .ok (.if_icmp .ne 5, 3) := by decide +kernel
theorem dX1_isJoinedToAll_34 : decode cX1_isJoinedToAll 34 = .ok (.iconst 0, 1) := by decide +kernel
theorem dX1_isJoinedToAll_35 : decode cX1_isJoinedToAll 35 = .ok (.ireturn, 1) := by decide +kernel
theorem dX1_isJoinedToAll_36 : decode cX1_isJoinedToAll 36 = .ok (.iinc 2 1, 3) := by decide +kernel
theorem dX1_isJoinedToAll_39 : decode cX1_isJoinedToAll 39 = .ok (.goto (-31), 3) := by decide +kernel
theorem dX1_isJoinedToAll_42 : decode cX1_isJoinedToAll 42 = .ok (.iconst 1, 1) := by decide +kernel
theorem dX1_isJoinedToAll_43 : decode cX1_isJoinedToAll 43 = .ok (.ireturn, 1) := by decide +kernel
theorem dX1_measureFrom_0 : decode cX1_measureFrom 0 = .ok (.aload_n 0, 1) := by decide +kernel
theorem dX1_measureFrom_1 : decode cX1_measureFrom 1 = .ok (.getfield 22, 3) := by decide +kernel
theorem dX1_measureFrom_4 : decode cX1_measureFrom 4 = .ok (.iconst (-1), 1) := by decide +kernel
theorem dX1_measureFrom_5 : decode cX1_measureFrom 5 = .ok (.invokestatic 86, 3) := by decide +kernel
theorem dX1_measureFrom_8 : decode cX1_measureFrom 8 = .ok (.aload_n 0, 1) := by decide +kernel
theorem dX1_measureFrom_9 : decode cX1_measureFrom 9 = .ok (.getfield 19, 3) := by decide +kernel
theorem dX1_measureFrom_12 : decode cX1_measureFrom 12 = .ok (.iload_n 1, 1) := by decide +kernel
theorem dX1_measureFrom_13 : decode cX1_measureFrom 13 = .ok (.iaload, 1) := by decide +kernel
theorem dX1_measureFrom_14 : decode cX1_measureFrom 14 = .ok (.ifCond .ne 4, 3) := by decide +kernel
theorem dX1_measureFrom_17 : decode cX1_measureFrom 17 = .ok (.return_, 1) := by decide +kernel
theorem dX1_measureFrom_18 : decode cX1_measureFrom 18 = .ok (.aload_n 0, 1) := by decide +kernel
theorem dX1_measureFrom_19 : decode cX1_measureFrom 19 = .ok (.getfield 22, 3) := by decide +kernel
theorem dX1_measureFrom_22 : decode cX1_measureFrom 22 = .ok (.iload_n 1, 1) := by decide +kernel
theorem dX1_measureFrom_23 : decode cX1_measureFrom 23 = .ok (.iconst 0, 1) := by decide +kernel
theorem dX1_measureFrom_24 : decode cX1_measureFrom 24 = .ok (.iastore, 1) := by decide +kernel
theorem dX1_measureFrom_25 : decode cX1_measureFrom 25 = .ok (.aload_n 0, 1) := by decide +kernel
theorem dX1_measureFrom_26 : decode cX1_measureFrom 26 = .ok (.getfield 25, 3) := by decide +kernel
theorem dX1_measureFrom_29 : decode cX1_measureFrom 29 = .ok (.iconst 0, 1) := by decide +kernel
theorem dX1_measureFrom_30 : decode cX1_measureFrom 30 = .ok (.iload_n 1, 1) := by decide +kernel
theorem dX1_measureFrom_31 : decode cX1_measureFrom 31 = .ok (.iastore, 1) := by decide +kernel
theorem dX1_measureFrom_32 : decode cX1_measureFrom 32 = .ok (.iconst 1, 1) := by decide +kernel
theorem dX1_measureFrom_33 : decode cX1_measureFrom 33 = .ok (.istore_n 3, 1) := by decide +kernel
theorem dX1_measureFrom_34 : decode cX1_measureFrom 34 = .ok (.iconst 0, 1) := by decide +kernel
theorem dX1_measureFrom_35 : decode cX1_measureFrom 35 = .ok (.istore 4, 2) := by decide +kernel
theorem dX1_measureFrom_37 : decode cX1_measureFrom 37 = .ok (.iload 4, 2) := by decide +kernel
theorem dX1_measureFrom_39 : decode cX1_measureFrom 39 = .ok (.iload_n 3, 1) := by decide +kernel
theorem dX1_measureFrom_40 : decode cX1_measureFrom 40 = .ok (.if_icmp .ge 54, 3) := by decide +kernel
theorem dX1_measureFrom_43 : decode cX1_measureFrom 43 = .ok (.iload 4, 2) := by decide +kernel
theorem dX1_measureFrom_45 : decode cX1_measureFrom 45 = .ok (.aload_n 0, 1) := by decide +kernel
theorem dX1_measureFrom_46 : decode cX1_measureFrom 46 = .ok (.getfield 28, 3) := by decide +kernel
theorem dX1_measureFrom_49 : decode cX1_measureFrom 49 = .ok (.if_icmp .ge 45, 3) := by decide +kernel
theorem dX1_measureFrom_52 : decode cX1_measureFrom 52 = .ok (.aload_n 0, 1) := by decide +kernel
theorem dX1_measureFrom_53 : decode cX1_measureFrom 53 = .ok (.getfield 25, 3) := by decide +kernel
theorem dX1_measureFrom_56 : decode cX1_measureFrom 56 = .ok (.iload 4, 2) := by decide +kernel
theorem dX1_measureFrom_58 : decode cX1_measureFrom 58 = .ok (.iaload, 1) := by decide +kernel
theorem dX1_measureFrom_59 : decode cX1_measureFrom 59 = .ok (.istore 5, 2) := by decide +kernel
theorem dX1_measureFrom_61 : decode cX1_measureFrom 61 = .ok (.iload_n 2, 1) := by decide +kernel
theorem dX1_measureFrom_62 : decode cX1_measureFrom 62 = .ok (.ifCond .ne 18, 3) := by decide +kernel
theorem dX1_measureFrom_65 : decode cX1_measureFrom 65 = .ok (.iload 5, 2) := by decide +kernel
theorem dX1_measureFrom_67 : decode cX1_measureFrom 67 = .ok (.iload_n 1, 1) := by decide +kernel
theorem dX1_measureFrom_68 : decode cX1_measureFrom 68 = .ok (.if_icmp .eq 12, 3) := by decide +kernel
theorem dX1_measureFrom_71 : decode cX1_measureFrom 71 = .ok (.aload_n 0, 1) := by decide +kernel
theorem dX1_measureFrom_72 : decode cX1_measureFrom 72 = .ok (.iload 5, 2) := by decide +kernel
theorem dX1_measureFrom_74 : decode cX1_measureFrom 74 = .ok (.invokevirtual 76, 3) := by decide +kernel
theorem dX1_measureFrom_77 : decode cX1_measureFrom 77 = .ok (.ifCond .ne 11, 3) := by decide +kernel
theorem dX1_measureFrom_80 : decode cX1_measureFrom 80 = .ok (.aload_n 0, 1) := by decide +kernel
theorem dX1_measureFrom_81 : decode cX1_measureFrom 81 = .ok (.iload 5, 2) := by decide +kernel
theorem dX1_measureFrom_83 : decode cX1_measureFrom 83 = .ok (.iload_n 3, 1) := by decide +kernel
theorem dX1_measureFrom_84 : decode cX1_measureFrom 84 = .ok (.invokevirtual 89, 3) := by decide +kernel
theorem dX1_measureFrom_87 : decode cX1_measureFrom 87 = .ok (.istore_n 3, 1) := by decide +kernel
theorem dX1_measureFrom_88 : decode cX1_measureFrom 88 = .ok (.iinc 4 1, 3) := by decide +kernel
theorem dX1_measureFrom_91 : decode cX1_measureFrom 91 = .ok (.goto (-54), 3) := by decide +kernel
theorem dX1_measureFrom_94 : decode cX1_measureFrom 94 = .ok (.return_, 1) := by decide +kernel
theorem dX1_measureAround_0 : decode cX1_measureAround 0 = .ok (.iload_n 2, 1) := by decide +kernel
theorem dX1_measureAround_1 : decode cX1_measureAround 1 = .ok (.istore_n 3, 1) := by decide +kernel
theorem dX1_measureAround_2 : decode cX1_measureAround 2 = .ok (.iconst 1, 1) := by decide +kernel
theorem dX1_measureAround_3 : decode cX1_measureAround 3 = .ok (.istore 4, 2) := by decide +kernel
theorem dX1_measureAround_5 : decode cX1_measureAround 5 = .ok (.iload 4, 2) := by decide +kernel
theorem dX1_measureAround_7 : decode cX1_measureAround 7 = .ok (.iconst 5, 1) := by decide +kernel
theorem dX1_measureAround_8 : decode cX1_measureAround 8 = .ok (.if_icmp .ge 77, 3) := by decide +kernel
theorem dX1_measureAround_11 : decode cX1_measureAround 11 = .ok (.aload_n 0, 1) := by decide +kernel
theorem dX1_measureAround_12 : decode cX1_measureAround 12 = .ok (.iload_n 1, 1) := by decide +kernel
theorem dX1_measureAround_13 : decode cX1_measureAround 13 = .ok (.iload 4, 2) := by decide +kernel
theorem dX1_measureAround_15 : decode cX1_measureAround 15 = .ok (.invokevirtual 73, 3) := by decide +kernel
theorem dX1_measureAround_18 : decode cX1_measureAround 18 = .ok (.ifCond .eq 61, 3) := by decide +kernel
theorem dX1_measureAround_21 : decode cX1_measureAround 21 = .ok (.aload_n 0, 1) := by decide +kernel
theorem dX1_measureAround_22 : decode cX1_measureAround 22 = .ok (.getfield 22, 3) := by decide +kernel
theorem dX1_measureAround_25 : decode cX1_measureAround 25 = .ok (.iload_n 1, 1) := by decide +kernel
theorem dX1_measureAround_26 : decode cX1_measureAround 26 = .ok (.aload_n 0, 1) := by decide +kernel
theorem dX1_measureAround_27 : decode cX1_measureAround 27 = .ok (.getfield 9, 3) := by decide +kernel
theorem dX1_measureAround_30 : decode cX1_measureAround 30 = .ok (.iload 4, 2) := by decide +kernel
theorem dX1_measureAround_32 : decode cX1_measureAround 32 = .ok (.iaload, 1) := by decide +kernel
theorem dX1_measureAround_33 : decode cX1_measureAround 33 = .ok (.iadd, 1) := by decide +kernel
theorem dX1_measureAround_34 : decode cX1_measureAround 34 = .ok (.iaload, 1) := by decide +kernel
theorem dX1_measureAround_35 : decode cX1_measureAround 35 = .ok (.iconst (-1), 1) := by decide +kernel
theorem dX1_measureAround_36 : decode cX1_measureAround 36 = .ok (.if_icmp .ne 43, 3) := by decide +kernel
theorem dX1_measureAround_39 : decode cX1_measureAround 39 = .ok (.aload_n 0, 1) := by decide +kernel
theorem dX1_measureAround_40 : decode cX1_measureAround 40 = .ok (.getfield 22, 3) := by decide +kernel
theorem dX1_measureAround_43 : decode cX1_measureAround 43 = .ok (.iload_n 1, 1) := by decide +kernel
theorem dX1_measureAround_44 : decode cX1_measureAround 44 = .ok (.aload_n 0, 1) := by decide +kernel
theorem dX1_measureAround_45 : decode cX1_measureAround 45 = .ok (.getfield 9, 3) := by decide +kernel
theorem dX1_measureAround_48 : decode cX1_measureAround 48 = .ok (.iload 4, 2) := by decide +kernel
theorem dX1_measureAround_50 : decode cX1_measureAround 50 = .ok (.iaload, 1) := by decide +kernel
theorem dX1_measureAround_51 : decode cX1_measureAround 51 = .ok (.iadd, 1) := by decide +kernel
theorem dX1_measureAround_52 : decode cX1_measureAround 52 = .ok (.aload_n 0, 1) := by decide +kernel
theorem dX1_measureAround_53 : decode cX1_measureAround 53 = .ok (.getfield 22, 3) := by decide +kernel
theorem dX1_measureAround_56 : decode cX1_measureAround 56 = .ok (.iload_n 1, 1) := by decide +kernel
theorem dX1_measureAround_57 : decode cX1_measureAround 57 = .ok (.iaload, 1) := by decide +kernel
theorem dX1_measureAround_58 : decode cX1_measureAround 58 = .ok (.iconst 1, 1) := by decide +kernel
theorem dX1_measureAround_59 : decode cX1_measureAround 59 = .ok (.iadd, 1) := by decide +kernel
theorem dX1_measureAround_60 : decode cX1_measureAround 60 = .ok (.iastore, 1) := by decide +kernel
theorem dX1_measureAround_61 : decode cX1_measureAround 61 = .ok (.aload_n 0, 1) := by decide +kernel
theorem dX1_measureAround_62 : decode cX1_measureAround 62 = .ok (.getfield 25, 3) := by decide +kernel
theorem dX1_measureAround_65 : decode cX1_measureAround 65 = .ok (.iload_n 3, 1) := by decide +kernel
theorem dX1_measureAround_66 : decode cX1_measureAround 66 = .ok (.iload_n 1, 1) := by decide +kernel
theorem dX1_measureAround_67 : decode cX1_measureAround 67 = .ok (.aload_n 0, 1) := by decide +kernel
theorem dX1_measureAround_68 : decode cX1_measureAround 68 = .ok (.getfield 9, 3) := by decide +kernel
theorem dX1_measureAround_71 : decode cX1_measureAround 71 = .ok (.iload 4, 2) := by decide +kernel
theorem dX1_measureAround_73 : decode cX1_measureAround 73 = .ok (.iaload, 1) := by decide +kernel
theorem dX1_measureAround_74 : decode cX1_measureAround 74 = .ok (.iadd, 1) := by decide +kernel
theorem dX1_measureAround_75 : decode cX1_measureAround 75 = .ok (.iastore, 1) := by decide +kernel
theorem dX1_measureAround_76 : decode cX1_measureAround 76 = .ok (.iinc 3 1, 3) := by decide +kernel
theorem dX1_measureAround_79 : decode cX1_measureAround 79 = .ok (.iinc 4 1, 3) := by decide +kernel
theorem dX1_measureAround_82 : decode cX1_measureAround 82 = .ok (.goto (-77), 3) := by decide +kernel
theorem dX1_measureAround_85 : decode cX1_measureAround 85 = .ok (.iload_n 3, 1) := by decide +kernel
theorem dX1_measureAround_86 : decode cX1_measureAround 86 = .ok (.ireturn, 1) := by decide +kernel
end
section
theorem dX2_init_0 : decode cX2_init 0 = .ok (.aload_n 0, 1) := by decide +kernel
theorem dX2_init_1 : decode cX2_init 1 = .ok (.invokespecial 3, 3) := by decide +kernel
theorem dX2_init_4 : decode cX2_init 4 = .ok (.aload_n 0, 1) := by decide +kernel
theorem dX2_init_5 : decode cX2_init 5 = .ok (.bipush 90, 2) := by decide +kernel
theorem dX2_init_7 : decode cX2_init 7 = .ok (.newarray .int, 2) := by decide +kernel
theorem dX2_init_9 : decode cX2_init 9 = .ok (.putfield 9, 3) := by decide +kernel
theorem dX2_init_12 : decode cX2_init 12 = .ok (.return_, 1) := by decide +kernel
theorem dX2_length_0 : decode cX2_length 0 = .ok (.aload_n 0, 1) := by decide +kernel
theorem dX2_length_1 : decode cX2_length 1 = .ok (.getfield 15, 3) := by decide +kernel
theorem dX2_length_4 : decode cX2_length 4 = .ok (.ireturn, 1) := by decide +kernel
theorem dX2_width_0 : decode cX2_width 0 = .ok (.aload_n 0, 1) := by decide +kernel
theorem dX2_width_1 : decode cX2_width 1 = .ok (.getfield 19, 3) := by decide +kernel
theorem dX2_width_4 : decode cX2_width 4 = .ok (.ireturn, 1) := by decide +kernel
theorem dX2_faultPlace_0 : decode cX2_faultPlace 0 = .ok (.aload_n 0, 1) := by decide +kernel
theorem dX2_faultPlace_1 : decode cX2_faultPlace 1 = .ok (.getfield 22, 3) := by decide +kernel
theorem dX2_faultPlace_4 : decode cX2_faultPlace 4 = .ok (.ireturn, 1) := by decide +kernel
theorem dX2_append_0 : decode cX2_append 0 = .ok (.iconst 0, 1) := by decide +kernel
theorem dX2_append_1 : decode cX2_append 1 = .ok (.istore_n 3, 1) := by decide +kernel
theorem dX2_append_2 : decode cX2_append 2 = .ok (.iload_n 3, 1) := by decide +kernel
theorem dX2_append_3 : decode cX2_append 3 = .ok (.bipush 8, 2) := by decide +kernel
theorem dX2_append_5 : decode cX2_append 5 = .ok (.if_icmp .ge 17, 3) := by decide +kernel
theorem dX2_append_8 : decode cX2_append 8 = .ok (.lload_n 1, 1) := by decide +kernel
theorem dX2_append_9 : decode cX2_append 9 = .ok (.iload_n 3, 1) := by decide +kernel
theorem dX2_append_10 : decode cX2_append 10 = .ok (.invokestatic 25, 3) := by decide +kernel
theorem dX2_append_13 : decode cX2_append 13 = .ok (.ifCond .eq 9, 3) := by decide +kernel
theorem dX2_append_16 : decode cX2_append 16 = .ok (.iinc 3 1, 3) := by decide +kernel
theorem dX2_append_19 : decode cX2_append 19 = .ok (.goto (-17), 3) := by decide +kernel
theorem dX2_append_22 : decode cX2_append 22 = .ok (.aload_n 0, 1) := by decide +kernel
theorem dX2_append_23 : decode cX2_append 23 = .ok (.getfield 15, 3) := by decide +kernel
theorem dX2_append_26 : decode cX2_append 26 = .ok (.iload_n 3, 1) := by decide +kernel
theorem dX2_append_27 : decode cX2_append 27 = .ok (.iadd, 1) := by decide +kernel
theorem dX2_append_28 : decode cX2_append 28 = .ok (.bipush 90, 2) := by decide +kernel
theorem dX2_append_30 : decode cX2_append 30 = .ok (.if_icmp .le 6, 3) := by decide +kernel
theorem dX2_append_33 : decode cX2_append 33 = .ok (.bipush (-3), 2) := by decide +kernel
theorem dX2_append_35 : decode cX2_append 35 = .ok (.ireturn, 1) := by decide +kernel
theorem dX2_append_36 : decode cX2_append 36 = .ok (.iconst 0, 1) := by decide +kernel
theorem dX2_append_37 : decode cX2_append 37 = .ok (.istore 4, 2) := by decide +kernel
theorem dX2_append_39 : decode cX2_append 39 = .ok (.iload 4, 2) := by decide +kernel
theorem dX2_append_41 : decode cX2_append 41 = .ok (.iload_n 3, 1) := by decide +kernel
theorem dX2_append_42 : decode cX2_append 42 = .ok (.if_icmp .ge 27, 3) := by decide +kernel
theorem dX2_append_45 : decode cX2_append 45 = .ok (.aload_n 0, 1) := by decide +kernel
theorem dX2_append_46 : decode cX2_append 46 = .ok (.getfield 9, 3) := by decide +kernel
theorem dX2_append_49 : decode cX2_append 49 = .ok (.aload_n 0, 1) := by decide +kernel
theorem dX2_append_50 : decode cX2_append 50 = .ok (.getfield 15, 3) := by decide +kernel
theorem dX2_append_53 : decode cX2_append 53 = .ok (.iload 4, 2) := by decide +kernel
theorem dX2_append_55 : decode cX2_append 55 = .ok (.iadd, 1) := by decide +kernel
theorem dX2_append_56 : decode cX2_append 56 = .ok (.lload_n 1, 1) := by decide +kernel
theorem dX2_append_57 : decode cX2_append 57 = .ok (.iload 4, 2) := by decide +kernel
theorem dX2_append_59 : decode cX2_append 59 = .ok (.invokestatic 25, 3) := by decide +kernel
theorem dX2_append_62 : decode cX2_append 62 = .ok (.iastore, 1) := by decide +kernel
theorem dX2_append_63 : decode cX2_append 63 = .ok (.iinc 4 1, 3) := by decide +kernel
theorem dX2_append_66 : decode cX2_append 66 = .ok (.goto (-27), 3) := by decide +kernel
theorem dX2_append_69 : decode cX2_append 69 = .ok (.aload_n 0, 1) := by decide +kernel
theorem dX2_append_70 : decode cX2_append 70 = .ok (.dup, 1) := by decide +kernel
theorem dX2_append_71 : decode cX2_append 71 = .ok (.getfield 15, 3) := by decide +kernel
theorem dX2_append_74 : decode cX2_append 74 = .ok (.iload_n 3, 1) := by decide +kernel
theorem dX2_append_75 : decode cX2_append 75 = .ok (.iadd, 1) := by decide +kernel
theorem dX2_append_76 : decode cX2_append 76 = .ok (.putfield 15, 3) := by decide +kernel
theorem dX2_append_79 : decode cX2_append 79 = .ok (.aload_n 0, 1) := by decide +kernel
theorem dX2_append_80 : decode cX2_append 80 = .ok (.getfield 15, 3) := by decide +kernel
theorem dX2_append_83 : decode cX2_append 83 = .ok (.ireturn, 1) := by decide +kernel
theorem dX2_wipe_0 : decode cX2_wipe 0 = .ok (.aload_n 0, 1) := by decide +kernel
theorem dX2_wipe_1 : decode cX2_wipe 1 = .ok (.getfield 15, 3) := by decide +kernel
theorem dX2_wipe_4 : decode cX2_wipe 4 = .ok (.istore_n 1, 1) := by decide +kernel
theorem dX2_wipe_5 : decode cX2_wipe 5 = .ok (.aload_n 0, 1) := by decide +kernel
theorem dX2_wipe_6 : decode cX2_wipe 6 = .ok (.iconst 0, 1) := by decide +kernel
theorem dX2_wipe_7 : decode cX2_wipe 7 = .ok (.putfield 15, 3) := by decide +kernel
theorem dX2_wipe_10 : decode cX2_wipe 10 = .ok (.iload_n 1, 1) := by decide +kernel
theorem dX2_wipe_11 : decode cX2_wipe 11 = .ok (.ireturn, 1) := by decide +kernel
theorem dX2_kindOf_0 : decode cX2_kindOf 0 = .ok (.aload_n 0, 1) := by decide +kernel
theorem dX2_kindOf_1 : decode cX2_kindOf 1 = .ok (.getfield 9, 3) := by decide +kernel
theorem dX2_kindOf_4 : decode cX2_kindOf 4 = .ok (.iload_n 1, 1) := by decide +kernel
theorem dX2_kindOf_5 : decode cX2_kindOf 5 = .ok (.iaload, 1) := by decide +kernel
theorem dX2_kindOf_6 : decode cX2_kindOf 6 = .ok (.lookupswitch 70 #[(35, 58), (46, 60), (47, 68), (112, 66), (115, 62), (116, 64)], 58) := by decide +kernel
theorem dX2_kindOf_64 : decode cX2_kindOf 64 = .ok (.iconst 0, 1) := by decide +kernel
theorem dX2_kindOf_65 : decode cX2_kindOf 65 = .ok (.ireturn, 1) := by decide +kernel
theorem dX2_kindOf_66 : decode cX2_kindOf 66 = .ok (.iconst 1, 1) := by decide +kernel
theorem dX2_kindOf_67 : decode cX2_kindOf 67 = .ok (.ireturn, 1) := by decide +kernel
theorem dX2_kindOf_68 : decode cX2_kindOf 68 = .ok (.iconst 2, 1) := by decide +kernel
theorem dX2_kindOf_69 : decode cX2_kindOf 69 = .ok (.ireturn, 1) := by decide +kernel
theorem dX2_kindOf_70 : decode cX2_kindOf 70 = .ok (.iconst 3, 1) := by decide +kernel
theorem dX2_kindOf_71 : decode cX2_kindOf 71 = .ok (.ireturn, 1) := by decide +kernel
theorem dX2_kindOf_72 : decode cX2_kindOf 72 = .ok (.iconst 4, 1) := by decide +kernel
theorem dX2_kindOf_73 : decode cX2_kindOf 73 = .ok (.ireturn, 1) := by decide +kernel
theorem dX2_kindOf_74 : decode cX2_kindOf 74 = .ok (.iconst 5, 1) := by decide +kernel
theorem dX2_kindOf_75 : decode cX2_kindOf 75 = .ok (.ireturn, 1) := by decide +kernel
theorem dX2_kindOf_76 : decode cX2_kindOf 76 = .ok (.iconst (-1), 1) := by decide +kernel
theorem dX2_kindOf_77 : decode cX2_kindOf 77 = .ok (.ireturn, 1) := by decide +kernel
theorem dX2_findFault_0 : decode cX2_findFault 0 = .ok (.aload_n 0, 1) := by decide +kernel
theorem dX2_findFault_1 : decode cX2_findFault 1 = .ok (.iconst 0, 1) := by decide +kernel
theorem dX2_findFault_2 : decode cX2_findFault 2 = .ok (.putfield 29, 3) := by decide +kernel
theorem dX2_findFault_5 : decode cX2_findFault 5 = .ok (.aload_n 0, 1) := by decide +kernel
theorem dX2_findFault_6 : decode cX2_findFault 6 = .ok (.iconst 0, 1) := by decide +kernel
theorem dX2_findFault_7 : decode cX2_findFault 7 = .ok (.putfield 32, 3) := by decide +kernel
theorem dX2_findFault_10 : decode cX2_findFault 10 = .ok (.iconst 0, 1) := by decide +kernel
theorem dX2_findFault_11 : decode cX2_findFault 11 = .ok (.istore_n 1, 1) := by decide +kernel
theorem dX2_findFault_12 : decode cX2_findFault 12 = .ok (.iload_n 1, 1) := by decide +kernel
theorem dX2_findFault_13 : decode cX2_findFault 13 = .ok (.aload_n 0, 1) := by decide +kernel
theorem dX2_findFault_14 : decode cX2_findFault 14 = .ok (.getfield 15, 3) := by decide +kernel
theorem dX2_findFault_17 : decode cX2_findFault 17 = .ok (.if_icmp .ge 74, 3) := by decide +kernel
theorem dX2_findFault_20 : decode cX2_findFault 20 = .ok (.aload_n 0, 1) := by decide +kernel
theorem dX2_findFault_21 : decode cX2_findFault 21 = .ok (.iload_n 1, 1) := by decide +kernel
theorem dX2_findFault_22 : decode cX2_findFault 22 = .ok (.invokevirtual 35, 3) := by decide +kernel
theorem dX2_findFault_25 : decode cX2_findFault 25 = .ok (.istore_n 2, 1) := by decide +kernel
theorem dX2_findFault_26 : decode cX2_findFault 26 = .ok (.iload_n 2, 1) := by decide +kernel
theorem dX2_findFault_27 : decode cX2_findFault 27 = .ok (.iconst (-1), 1) := by decide +kernel
theorem dX2_findFault_28 : decode cX2_findFault 28 = .ok (.if_icmp .ne 11, 3) := by decide +kernel
theorem dX2_findFault_31 : decode cX2_findFault 31 = .ok (.aload_n 0, 1) := by decide +kernel
theorem dX2_findFault_32 : decode cX2_findFault 32 = .ok (.iload_n 1, 1) := by decide +kernel
theorem dX2_findFault_33 : decode cX2_findFault 33 = .ok (.putfield 22, 3) := by decide +kernel
theorem dX2_findFault_36 : decode cX2_findFault 36 = .ok (.bipush (-11), 2) := by decide +kernel
theorem dX2_findFault_38 : decode cX2_findFault 38 = .ok (.ireturn, 1) := by decide +kernel
theorem dX2_findFault_39 : decode cX2_findFault 39 = .ok (.iload_n 2, 1) := by decide +kernel
theorem dX2_findFault_40 : decode cX2_findFault 40 = .ok (.iconst 5, 1) := by decide +kernel
theorem dX2_findFault_41 : decode cX2_findFault 41 = .ok (.if_icmp .ne 27, 3) := by decide +kernel
theorem dX2_findFault_44 : decode cX2_findFault 44 = .ok (.aload_n 0, 1) := by decide +kernel
theorem dX2_findFault_45 : decode cX2_findFault 45 = .ok (.invokevirtual 39, 3) := by decide +kernel
theorem dX2_findFault_48 : decode cX2_findFault 48 = .ok (.ifCond .eq 16, 3) := by decide +kernel
theorem dX2_findFault_51 : decode cX2_findFault 51 = .ok (.aload_n 0, 1) := by decide +kernel
theorem dX2_findFault_52 : decode cX2_findFault 52 = .ok (.getfield 29, 3) := by decide +kernel
theorem dX2_findFault_55 : decode cX2_findFault 55 = .ok (.bipush 8, 2) := by decide +kernel
theorem dX2_findFault_57 : decode cX2_findFault 57 = .ok (.if_icmp .ge 7, 3) := by decide +kernel
theorem dX2_findFault_60 : decode cX2_findFault 60 = .ok (.iconst 1, 1) := by decide +kernel
theorem dX2_findFault_61 : decode cX2_findFault 61 = .ok (.goto 11, 3) := by decide +kernel
theorem dX2_findFault_64 : decode cX2_findFault 64 = .ok (.iconst 0, 1) := by decide +kernel
theorem dX2_findFault_65 : decode cX2_findFault 65 = .ok (.goto 7, 3) := by decide +kernel
theorem dX2_findFault_68 : decode cX2_findFault 68 = .ok (.aload_n 0, 1) := by decide +kernel
theorem dX2_findFault_69 : decode cX2_findFault 69 = .ok (.invokevirtual 43, 3) := by decide +kernel
theorem dX2_findFault_72 : decode cX2_findFault 72 = .ok (.istore_n 3, 1) := by decide +kernel
theorem dX2_findFault_73 : decode cX2_findFault 73 = .ok (.iload_n 3, 1) := by decide +kernel
theorem dX2_findFault_74 : decode cX2_findFault 74 = .ok (.ifCond .ne 11, 3) := by decide +kernel
theorem dX2_findFault_77 : decode cX2_findFault 77 = .ok (.aload_n 0, 1) := by decide +kernel
theorem dX2_findFault_78 : decode cX2_findFault 78 = .ok (.iload_n 1, 1) := by decide +kernel
theorem dX2_findFault_79 : decode cX2_findFault 79 = .ok (.putfield 22, 3) := by decide +kernel
theorem dX2_findFault_82 : decode cX2_findFault 82 = .ok (.bipush (-12), 2) := by decide +kernel
theorem dX2_findFault_84 : decode cX2_findFault 84 = .ok (.ireturn, 1) := by decide +kernel
theorem dX2_findFault_85 : decode cX2_findFault 85 = .ok (.iinc 1 1, 3) := by decide +kernel
theorem dX2_findFault_88 : decode cX2_findFault 88 = .ok (.goto (-76), 3) := by decide +kernel
theorem dX2_findFault_91 : decode cX2_findFault 91 = .ok (.aload_n 0, 1) := by decide +kernel
theorem dX2_findFault_92 : decode cX2_findFault 92 = .ok (.aload_n 0, 1) := by decide +kernel
theorem dX2_findFault_93 : decode cX2_findFault 93 = .ok (.getfield 15, 3) := by decide +kernel
theorem dX2_findFault_96 : decode cX2_findFault 96 = .ok (.putfield 22, 3) := by decide +kernel
theorem dX2_findFault_99 : decode cX2_findFault 99 = .ok (.aload_n 0, 1) := by decide +kernel
theorem dX2_findFault_100 : decode cX2_findFault 100 = .ok (.invokevirtual 39, 3) := by decide +kernel
theorem dX2_findFault_103 : decode cX2_findFault 103 = .ok (.ifCond .eq 7, 3) := by decide +kernel
theorem dX2_findFault_106 : decode cX2_findFault 106 = .ok (.iconst 0, 1) := by decide +kernel
theorem dX2_findFault_107 : decode cX2_findFault 107 = .ok (.goto 5, 3) := by decide +kernel
theorem dX2_findFault_110 : decode cX2_findFault 110 = .ok (.bipush (-12), 2) := by decide +kernel
theorem dX2_findFault_112 : decode cX2_findFault 112 = .ok (.ireturn, 1) := by decide +kernel
theorem dX2_widenLine_0 : decode cX2_widenLine 0 = .ok (.aload_n 0, 1) := by decide +kernel
theorem dX2_widenLine_1 : decode cX2_widenLine 1 = .ok (.dup, 1) := by decide +kernel
theorem dX2_widenLine_2 : decode cX2_widenLine 2 = .ok (.getfield 32, 3) := by decide +kernel
theorem dX2_widenLine_5 : decode cX2_widenLine 5 = .ok (.iconst 1, 1) := by decide +kernel
theorem dX2_widenLine_6 : decode cX2_widenLine 6 = .ok (.iadd, 1) := by decide +kernel
theorem dX2_widenLine_7 : decode cX2_widenLine 7 = .ok (.putfield 32, 3) := by decide +kernel
theorem dX2_widenLine_10 : decode cX2_widenLine 10 = .ok (.aload_n 0, 1) := by decide +kernel
theorem dX2_widenLine_11 : decode cX2_widenLine 11 = .ok (.getfield 32, 3) := by decide +kernel
theorem dX2_widenLine_14 : decode cX2_widenLine 14 = .ok (.aload_n 0, 1) := by decide +kernel
theorem dX2_widenLine_15 : decode cX2_widenLine 15 = .ok (.getfield 29, 3) := by decide +kernel
theorem dX2_widenLine_18 : decode cX2_widenLine 18 = .ok (.ifCond .ne 8, 3) := by decide +kernel
theorem dX2_widenLine_21 : decode cX2_widenLine 21 = .ok (.bipush 10, 2) := by decide +kernel
theorem dX2_widenLine_23 : decode cX2_widenLine 23 = .ok (.goto 7, 3) := by decide +kernel
theorem dX2_widenLine_26 : decode cX2_widenLine 26 = .ok (.aload_n 0, 1) := by decide +kernel
theorem dX2_widenLine_27 : decode cX2_widenLine 27 = .ok (.getfield 19, 3) := by decide +kernel
theorem dX2_widenLine_30 : decode cX2_widenLine 30 = .ok (.if_icmp .gt 7, 3) := by decide +kernel
theorem dX2_widenLine_33 : decode cX2_widenLine 33 = .ok (.iconst 1, 1) := by decide +kernel
theorem dX2_widenLine_34 : decode cX2_widenLine 34 = .ok (.goto 4, 3) := by decide +kernel
theorem dX2_widenLine_37 : decode cX2_widenLine 37 = .ok (.iconst 0, 1) := by decide +kernel
theorem dX2_widenLine_38 : decode cX2_widenLine 38 = .ok (.ireturn, 1) := by decide +kernel
theorem dX2_endLine_0 : decode cX2_endLine 0 = .ok (.aload_n 0, 1) := by decide +kernel
theorem dX2_endLine_1 : decode cX2_endLine 1 = .ok (.getfield 32, 3) := by decide +kernel
theorem dX2_endLine_4 : decode cX2_endLine 4 = .ok (.ifCond .eq 21, 3) := by decide +kernel
theorem dX2_endLine_7 : decode cX2_endLine 7 = .ok (.aload_n 0, 1) := by decide +kernel
theorem dX2_endLine_8 : decode cX2_endLine 8 = .ok (.getfield 29, 3) := by decide +kernel
theorem dX2_endLine_11 : decode cX2_endLine 11 = .ok (.ifCond .le 16, 3) := by decide +kernel
theorem dX2_endLine_14 : decode cX2_endLine 14 = .ok (.aload_n 0, 1) := by decide +kernel
theorem dX2_endLine_15 : decode cX2_endLine 15 = .ok (.getfield 32, 3) := by decide +kernel
theorem dX2_endLine_18 : decode cX2_endLine 18 = .ok (.aload_n 0, 1) := by decide +kernel
theorem dX2_endLine_19 : decode cX2_endLine 19 = .ok (.getfield 19, 3) := by decide +kernel
theorem dX2_endLine_22 : decode cX2_endLine 22 = .ok (.if_icmp .ge 5, 3) := by decide +kernel
theorem dX2_endLine_25 : decode cX2_endLine 25 = .ok (.iconst 0, 1) := by decide +kernel
theorem dX2_endLine_26 : decode cX2_endLine 26 = .ok (.ireturn, 1) := by decide +kernel
theorem dX2_endLine_27 : decode cX2_endLine 27 = .ok (.aload_n 0, 1) := by decide +kernel
theorem dX2_endLine_28 : decode cX2_endLine 28 = .ok (.aload_n 0, 1) := by decide +kernel
theorem dX2_endLine_29 : decode cX2_endLine 29 = .ok (.getfield 32, 3) := by decide +kernel
theorem dX2_endLine_32 : decode cX2_endLine 32 = .ok (.putfield 19, 3) := by decide +kernel
theorem dX2_endLine_35 : decode cX2_endLine 35 = .ok (.aload_n 0, 1) := by decide +kernel
theorem dX2_endLine_36 : decode cX2_endLine 36 = .ok (.iconst 0, 1) := by decide +kernel
theorem dX2_endLine_37 : decode cX2_endLine 37 = .ok (.putfield 32, 3) := by decide +kernel
theorem dX2_endLine_40 : decode cX2_endLine 40 = .ok (.aload_n 0, 1) := by decide +kernel
theorem dX2_endLine_41 : decode cX2_endLine 41 = .ok (.dup, 1) := by decide +kernel
theorem dX2_endLine_42 : decode cX2_endLine 42 = .ok (.getfield 29, 3) := by decide +kernel
theorem dX2_endLine_45 : decode cX2_endLine 45 = .ok (.iconst 1, 1) := by decide +kernel
theorem dX2_endLine_46 : decode cX2_endLine 46 = .ok (.iadd, 1) := by decide +kernel
theorem dX2_endLine_47 : decode cX2_endLine 47 = .ok (.putfield 29, 3) := by decide +kernel
theorem dX2_endLine_50 : decode cX2_endLine 50 = .ok (.iconst 1, 1) := by decide +kernel
theorem dX2_endLine_51 : decode cX2_endLine 51 = .ok (.ireturn, 1) := by decide +kernel
theorem dX2_byteOf_0 : decode cX2_byteOf 0 = .ok (.lload_n 0, 1) := by decide +kernel
theorem dX2_byteOf_1 : decode cX2_byteOf 1 = .ok (.bipush 8, 2) := by decide +kernel
theorem dX2_byteOf_3 : decode cX2_byteOf 3 = .ok (.iload_n 2, 1) := by decide +kernel
theorem dX2_byteOf_4 : decode cX2_byteOf 4 = .ok (.imul, 1) := by decide +kernel
theorem dX2_byteOf_5 : decode cX2_byteOf 5 = .ok (.lushr, 1) := by decide +kernel
theorem dX2_byteOf_6 : decode cX2_byteOf 6 = .ok (.l2i, 1) := by decide +kernel
theorem dX2_byteOf_7 : decode cX2_byteOf 7 = .ok (.sipush 255, 3) := by decide +kernel
theorem dX2_byteOf_10 : decode cX2_byteOf 10 = .ok (.iand, 1) := by decide +kernel
theorem dX2_byteOf_11 : decode cX2_byteOf 11 = .ok (.ireturn, 1) := by decide +kernel
end
section
theorem dX3_init_0 : decode cX3_init 0 = .ok (.aload_n 0, 1) := by decide +kernel
theorem dX3_init_1 : decode cX3_init 1 = .ok (.invokespecial 3, 3) := by decide +kernel
theorem dX3_init_4 : decode cX3_init 4 = .ok (.return_, 1) := by decide +kernel
theorem dX3_alarms_0 : decode cX3_alarms 0 = .ok (.aload_n 0, 1) := by decide +kernel
theorem dX3_alarms_1 : decode cX3_alarms 1 = .ok (.getfield 9, 3) := by decide +kernel
theorem dX3_alarms_4 : decode cX3_alarms 4 = .ok (.ireturn, 1) := by decide +kernel
theorem dX3_clear_0 : decode cX3_clear 0 = .ok (.aload_n 0, 1) := by decide +kernel
theorem dX3_clear_1 : decode cX3_clear 1 = .ok (.iconst 0, 1) := by decide +kernel
theorem dX3_clear_2 : decode cX3_clear 2 = .ok (.putfield 9, 3) := by decide +kernel
theorem dX3_clear_5 : decode cX3_clear 5 = .ok (.return_, 1) := by decide +kernel
theorem dX3_look_0 : decode cX3_look 0 = .ok (.iconst 0, 1) := by decide +kernel
theorem dX3_look_1 : decode cX3_look 1 = .ok (.istore 4, 2) := by decide +kernel
theorem dX3_look_3 : decode cX3_look 3 = .ok (.iload 4, 2) := by decide +kernel
theorem dX3_look_5 : decode cX3_look 5 = .ok (.aload_n 2, 1) := by decide +kernel
theorem dX3_look_6 : decode cX3_look 6 = .ok (.invokevirtual 15, 3) := by decide +kernel
theorem dX3_look_9 : decode cX3_look 9 = .ok (.if_icmp .ge 109, 3) := by decide +kernel
theorem dX3_look_12 : decode cX3_look 12 = .ok (.aload_n 2, 1) := by decide +kernel
theorem dX3_look_13 : decode cX3_look 13 = .ok (.iload 4, 2) := by decide +kernel
theorem dX3_look_15 : decode cX3_look 15 = .ok (.iload_n 3, 1) := by decide +kernel
theorem dX3_look_16 : decode cX3_look 16 = .ok (.iconst 1, 1) := by decide +kernel
theorem dX3_look_17 : decode cX3_look 17 = .ok (.isub, 1) := by decide +kernel
theorem dX3_look_18 : decode cX3_look 18 = .ok (.invokevirtual 21, 3) := by decide +kernel
theorem dX3_look_21 : decode cX3_look 21 = .ok (.istore 5, 2) := by decide +kernel
theorem dX3_look_23 : decode cX3_look 23 = .ok (.aload_n 2, 1) := by decide +kernel
theorem dX3_look_24 : decode cX3_look 24 = .ok (.iload 4, 2) := by decide +kernel
theorem dX3_look_26 : decode cX3_look 26 = .ok (.iload_n 3, 1) := by decide +kernel
theorem dX3_look_27 : decode cX3_look 27 = .ok (.invokevirtual 21, 3) := by decide +kernel
theorem dX3_look_30 : decode cX3_look 30 = .ok (.istore 6, 2) := by decide +kernel
theorem dX3_look_32 : decode cX3_look 32 = .ok (.aload_n 1, 1) := by decide +kernel
theorem dX3_look_33 : decode cX3_look 33 = .ok (.iload 6, 2) := by decide +kernel
theorem dX3_look_35 : decode cX3_look 35 = .ok (.invokevirtual 25, 3) := by decide +kernel
theorem dX3_look_38 : decode cX3_look 38 = .ok (.ifCond .ne 13, 3) := by decide +kernel
theorem dX3_look_41 : decode cX3_look 41 = .ok (.aload_n 0, 1) := by decide +kernel
theorem dX3_look_42 : decode cX3_look 42 = .ok (.dup, 1) := by decide +kernel
theorem dX3_look_43 : decode cX3_look 43 = .ok (.getfield 9, 3) := by decide +kernel
theorem dX3_look_46 : decode cX3_look 46 = .ok (.iconst 1, 1) := by decide +kernel
theorem dX3_look_47 : decode cX3_look 47 = .ok (.iadd, 1) := by decide +kernel
theorem dX3_look_48 : decode cX3_look 48 = .ok (.putfield 9, 3) := by decide +kernel
theorem dX3_look_51 : decode cX3_look 51 = .ok (.aload_n 1, 1) := by decide +kernel
theorem dX3_look_52 : decode cX3_look 52 = .ok (.iload 5, 2) := by decide +kernel
theorem dX3_look_54 : decode cX3_look 54 = .ok (.iload 6, 2) := by decide +kernel
theorem dX3_look_56 : decode cX3_look 56 = .ok (.invokevirtual 31, 3) := by decide +kernel
theorem dX3_look_59 : decode cX3_look 59 = .ok (.ifCond .ne 13, 3) := by decide +kernel
theorem dX3_look_62 : decode cX3_look 62 = .ok (.aload_n 0, 1) := by decide +kernel
theorem dX3_look_63 : decode cX3_look 63 = .ok (.dup, 1) := by decide +kernel
theorem dX3_look_64 : decode cX3_look 64 = .ok (.getfield 9, 3) := by decide +kernel
theorem dX3_look_67 : decode cX3_look 67 = .ok (.iconst 1, 1) := by decide +kernel
theorem dX3_look_68 : decode cX3_look 68 = .ok (.iadd, 1) := by decide +kernel
theorem dX3_look_69 : decode cX3_look 69 = .ok (.putfield 9, 3) := by decide +kernel
theorem dX3_look_72 : decode cX3_look 72 = .ok (.iconst 0, 1) := by decide +kernel
theorem dX3_look_73 : decode cX3_look 73 = .ok (.istore 7, 2) := by decide +kernel
theorem dX3_look_75 : decode cX3_look 75 = .ok (.iload 7, 2) := by decide +kernel
theorem dX3_look_77 : decode cX3_look 77 = .ok (.iload 4, 2) := by decide +kernel
theorem dX3_look_79 : decode cX3_look 79 = .ok (.if_icmp .ge 33, 3) := by decide +kernel
theorem dX3_look_82 : decode cX3_look 82 = .ok (.aload_n 0, 1) := by decide +kernel
theorem dX3_look_83 : decode cX3_look 83 = .ok (.iload 5, 2) := by decide +kernel
theorem dX3_look_85 : decode cX3_look 85 = .ok (.iload 6, 2) := by decide +kernel
theorem dX3_look_87 : decode cX3_look 87 = .ok (.aload_n 2, 1) := by decide +kernel
theorem dX3_look_88 : decode cX3_look 88 = .ok (.iload 7, 2) := by decide +kernel
theorem dX3_look_90 : decode cX3_look 90 = .ok (.iload_n 3, 1) := by decide +kernel
theorem dX3_look_91 : decode cX3_look 91 = .ok (.iconst 1, 1) := by decide +kernel
theorem dX3_look_92 : decode cX3_look 92 = .ok (.isub, 1) := by decide +kernel
theorem dX3_look_93 : decode cX3_look 93 = .ok (.invokevirtual 21, 3) := by decide +kernel
theorem dX3_look_96 : decode cX3_look 96 = .ok (.aload_n 2, 1) := by decide +kernel
theorem dX3_look_97 : decode cX3_look 97 = .ok (.iload 7, 2) := by decide +kernel
theorem dX3_look_99 : decode cX3_look 99 = .ok (.iload_n 3, 1) := by decide +kernel
theorem dX3_look_100 : decode cX3_look 100 = .ok (.invokevirtual 21, 3) := by decide +kernel
theorem dX3_look_103 : decode cX3_look 103 = .ok (.invokevirtual 35, 3) := by decide +kernel
theorem dX3_look_106 : decode cX3_look 106 = .ok (.iinc 7 1, 3) := by decide +kernel
theorem dX3_look_109 : decode cX3_look 109 = .ok (.goto (-34), 3) := by decide +kernel
theorem dX3_look_112 : decode cX3_look 112 = .ok (.iinc 4 1, 3) := by decide +kernel
theorem dX3_look_115 : decode cX3_look 115 = .ok (.goto (-112), 3) := by decide +kernel
theorem dX3_look_118 : decode cX3_look 118 = .ok (.return_, 1) := by decide +kernel
theorem dX3_lookAtTwo_0 : decode cX3_lookAtTwo 0 = .ok (.iload_n 2, 1) := by decide +kernel
theorem dX3_lookAtTwo_1 : decode cX3_lookAtTwo 1 = .ok (.iload 4, 2) := by decide +kernel
theorem dX3_lookAtTwo_3 : decode cX3_lookAtTwo 3 = .ok (.if_icmp .ne 13, 3) := by decide +kernel
theorem dX3_lookAtTwo_6 : decode cX3_lookAtTwo 6 = .ok (.aload_n 0, 1) := by decide +kernel
theorem dX3_lookAtTwo_7 : decode cX3_lookAtTwo 7 = .ok (.dup, 1) := by decide +kernel
theorem dX3_lookAtTwo_8 : decode cX3_lookAtTwo 8 = .ok (.getfield 9, 3) := by decide +kernel
theorem dX3_lookAtTwo_11 : decode cX3_lookAtTwo 11 = .ok (.iconst 1, 1) := by decide +kernel
theorem dX3_lookAtTwo_12 : decode cX3_lookAtTwo 12 = .ok (.iadd, 1) := by decide +kernel
theorem dX3_lookAtTwo_13 : decode cX3_lookAtTwo 13 = .ok (.putfield 9, 3) := by decide +kernel
theorem dX3_lookAtTwo_16 : decode cX3_lookAtTwo 16 = .ok (.iload_n 2, 1) := by decide +kernel
theorem dX3_lookAtTwo_17 : decode cX3_lookAtTwo 17 = .ok (.iload_n 1, 1) := by decide +kernel
theorem dX3_lookAtTwo_18 : decode cX3_lookAtTwo 18 = .ok (.if_icmp .eq 24, 3) := by decide +kernel
theorem dX3_lookAtTwo_21 : decode cX3_lookAtTwo 21 = .ok (.iload_n 2, 1) := by decide +kernel
theorem dX3_lookAtTwo_22 : decode cX3_lookAtTwo 22 = .ok (.iload_n 3, 1) := by decide +kernel
theorem dX3_lookAtTwo_23 : decode cX3_lookAtTwo 23 = .ok (.if_icmp .ne 19, 3) := by decide +kernel
theorem dX3_lookAtTwo_26 : decode cX3_lookAtTwo 26 = .ok (.iload_n 1, 1) := by decide +kernel
theorem dX3_lookAtTwo_27 : decode cX3_lookAtTwo 27 = .ok (.iload 4, 2) := by decide +kernel
theorem dX3_lookAtTwo_29 : decode cX3_lookAtTwo 29 = .ok (.if_icmp .ne 13, 3) := by decide +kernel
theorem dX3_lookAtTwo_32 : decode cX3_lookAtTwo 32 = .ok (.aload_n 0, 1) := by decide +kernel
theorem dX3_lookAtTwo_33 : decode cX3_lookAtTwo 33 = .ok (.dup, 1) := by decide +kernel
theorem dX3_lookAtTwo_34 : decode cX3_lookAtTwo 34 = .ok (.getfield 9, 3) := by decide +kernel
theorem dX3_lookAtTwo_37 : decode cX3_lookAtTwo 37 = .ok (.iconst 1, 1) := by decide +kernel
theorem dX3_lookAtTwo_38 : decode cX3_lookAtTwo 38 = .ok (.iadd, 1) := by decide +kernel
theorem dX3_lookAtTwo_39 : decode cX3_lookAtTwo 39 = .ok (.putfield 9, 3) := by decide +kernel
theorem dX3_lookAtTwo_42 : decode cX3_lookAtTwo 42 = .ok (.return_, 1) := by decide +kernel
end
section
theorem dX4_init_0 : decode cX4_init 0 = .ok (.aload_n 0, 1) := by decide +kernel
theorem dX4_init_1 : decode cX4_init 1 = .ok (.invokespecial 3, 3) := by decide +kernel
theorem dX4_init_4 : decode cX4_init 4 = .ok (.return_, 1) := by decide +kernel
theorem dX4_begin_0 : decode cX4_begin 0 = .ok (.aload_n 0, 1) := by decide +kernel
theorem dX4_begin_1 : decode cX4_begin 1 = .ok (.iload_n 1, 1) := by decide +kernel
theorem dX4_begin_2 : decode cX4_begin 2 = .ok (.putfield 9, 3) := by decide +kernel
theorem dX4_begin_5 : decode cX4_begin 5 = .ok (.aload_n 0, 1) := by decide +kernel
theorem dX4_begin_6 : decode cX4_begin 6 = .ok (.iload_n 2, 1) := by decide +kernel
theorem dX4_begin_7 : decode cX4_begin 7 = .ok (.putfield 15, 3) := by decide +kernel
theorem dX4_begin_10 : decode cX4_begin 10 = .ok (.aload_n 0, 1) := by decide +kernel
theorem dX4_begin_11 : decode cX4_begin 11 = .ok (.iload_n 3, 1) := by decide +kernel
theorem dX4_begin_12 : decode cX4_begin 12 = .ok (.putfield 18, 3) := by decide +kernel
theorem dX4_begin_15 : decode cX4_begin 15 = .ok (.aload_n 0, 1) := by decide +kernel
theorem dX4_begin_16 : decode cX4_begin 16 = .ok (.iload_n 2, 1) := by decide +kernel
theorem dX4_begin_17 : decode cX4_begin 17 = .ok (.putfield 21, 3) := by decide +kernel
theorem dX4_begin_20 : decode cX4_begin 20 = .ok (.aload_n 0, 1) := by decide +kernel
theorem dX4_begin_21 : decode cX4_begin 21 = .ok (.iload 4, 2) := by decide +kernel
theorem dX4_begin_23 : decode cX4_begin 23 = .ok (.putfield 24, 3) := by decide +kernel
theorem dX4_begin_26 : decode cX4_begin 26 = .ok (.aload_n 0, 1) := by decide +kernel
theorem dX4_begin_27 : decode cX4_begin 27 = .ok (.iconst (-1), 1) := by decide +kernel
theorem dX4_begin_28 : decode cX4_begin 28 = .ok (.putfield 27, 3) := by decide +kernel
theorem dX4_begin_31 : decode cX4_begin 31 = .ok (.return_, 1) := by decide +kernel
theorem dX4_tell_0 : decode cX4_tell 0 = .ok (.iload_n 1, 1) := by decide +kernel
theorem dX4_tell_1 : decode cX4_tell 1 = .ok (.tableswitch 77 0 5 #[39, 44, 49, 54, 67, 72], 39) := by decide +kernel
theorem dX4_tell_40 : decode cX4_tell 40 = .ok (.aload_n 0, 1) := by decide +kernel
theorem dX4_tell_41 : decode cX4_tell 41 = .ok (.getfield 9, 3) := by decide +kernel
theorem dX4_tell_44 : decode cX4_tell 44 = .ok (.ireturn, 1) := by decide +kernel
theorem dX4_tell_45 : decode cX4_tell 45 = .ok (.aload_n 0, 1) := by decide +kernel
theorem dX4_tell_46 : decode cX4_tell 46 = .ok (.getfield 15, 3) := by decide +kernel
theorem dX4_tell_49 : decode cX4_tell 49 = .ok (.ireturn, 1) := by decide +kernel
theorem dX4_tell_50 : decode cX4_tell 50 = .ok (.aload_n 0, 1) := by decide +kernel
theorem dX4_tell_51 : decode cX4_tell 51 = .ok (.getfield 18, 3) := by decide +kernel
theorem dX4_tell_54 : decode cX4_tell 54 = .ok (.ireturn, 1) := by decide +kernel
theorem dX4_tell_55 : decode cX4_tell 55 = .ok (.aload_n 0, 1) := by decide +kernel
theorem dX4_tell_56 : decode cX4_tell 56 = .ok (.getfield 21, 3) := by decide +kernel
theorem dX4_tell_59 : decode cX4_tell 59 = .ok (.ifCond .le 7, 3) := by decide +kernel
theorem dX4_tell_62 : decode cX4_tell 62 = .ok (.iconst 1, 1) := by decide +kernel
theorem dX4_tell_63 : decode cX4_tell 63 = .ok (.goto 4, 3) := by decide +kernel
theorem dX4_tell_66 : decode cX4_tell 66 = .ok (.iconst 0, 1) := by decide +kernel
theorem dX4_tell_67 : decode cX4_tell 67 = .ok (.ireturn, 1) := by decide +kernel
theorem dX4_tell_68 : decode cX4_tell 68 = .ok (.aload_n 0, 1) := by decide +kernel
theorem dX4_tell_69 : decode cX4_tell 69 = .ok (.getfield 24, 3) := by decide +kernel
theorem dX4_tell_72 : decode cX4_tell 72 = .ok (.ireturn, 1) := by decide +kernel
theorem dX4_tell_73 : decode cX4_tell 73 = .ok (.aload_n 0, 1) := by decide +kernel
theorem dX4_tell_74 : decode cX4_tell 74 = .ok (.getfield 27, 3) := by decide +kernel
theorem dX4_tell_77 : decode cX4_tell 77 = .ok (.ireturn, 1) := by decide +kernel
theorem dX4_tell_78 : decode cX4_tell 78 = .ok (.bipush (-2), 2) := by decide +kernel
theorem dX4_tell_80 : decode cX4_tell 80 = .ok (.ireturn, 1) := by decide +kernel
end
section
theorem dX5_init_0 : decode cX5_init 0 = .ok (.aload_n 0, 1) := by decide +kernel
theorem dX5_init_1 : decode cX5_init 1 = .ok (.invokespecial 3, 3) := by decide +kernel
theorem dX5_init_4 : decode cX5_init 4 = .ok (.aload_n 0, 1) := by decide +kernel
theorem dX5_init_5 : decode cX5_init 5 = .ok (.bipush 40, 2) := by decide +kernel
theorem dX5_init_7 : decode cX5_init 7 = .ok (.anewarray 9, 3) := by decide +kernel
theorem dX5_init_10 : decode cX5_init 10 = .ok (.putfield 11, 3) := by decide +kernel
theorem dX5_init_13 : decode cX5_init 13 = .ok (.aload_n 0, 1) := by decide +kernel
theorem dX5_init_14 : decode cX5_init 14 = .ok (.bipush 90, 2) := by decide +kernel
theorem dX5_init_16 : decode cX5_init 16 = .ok (.anewarray 17, 3) := by decide +kernel
theorem dX5_init_19 : decode cX5_init 19 = .ok (.putfield 19, 3) := by decide +kernel
theorem dX5_init_22 : decode cX5_init 22 = .ok (.aload_n 0, 1) := by decide +kernel
theorem dX5_init_23 : decode cX5_init 23 = .ok (.bipush 80, 2) := by decide +kernel
theorem dX5_init_25 : decode cX5_init 25 = .ok (.newarray .int, 2) := by decide +kernel
theorem dX5_init_27 : decode cX5_init 27 = .ok (.putfield 23, 3) := by decide +kernel
theorem dX5_init_30 : decode cX5_init 30 = .ok (.iconst 0, 1) := by decide +kernel
theorem dX5_init_31 : decode cX5_init 31 = .ok (.istore_n 1, 1) := by decide +kernel
theorem dX5_init_32 : decode cX5_init 32 = .ok (.iload_n 1, 1) := by decide +kernel
theorem dX5_init_33 : decode cX5_init 33 = .ok (.bipush 40, 2) := by decide +kernel
theorem dX5_init_35 : decode cX5_init 35 = .ok (.if_icmp .ge 22, 3) := by decide +kernel
theorem dX5_init_38 : decode cX5_init 38 = .ok (.aload_n 0, 1) := by decide +kernel
theorem dX5_init_39 : decode cX5_init 39 = .ok (.getfield 11, 3) := by decide +kernel
theorem dX5_init_42 : decode cX5_init 42 = .ok (.iload_n 1, 1) := by decide +kernel
theorem dX5_init_43 : decode cX5_init 43 = .ok (.new 9, 3) := by decide +kernel
theorem dX5_init_46 : decode cX5_init 46 = .ok (.dup, 1) := by decide +kernel
theorem dX5_init_47 : decode cX5_init 47 = .ok (.invokespecial 27, 3) := by decide +kernel
theorem dX5_init_50 : decode cX5_init 50 = .ok (.aastore, 1) := by decide +kernel
theorem dX5_init_51 : decode cX5_init 51 = .ok (.iinc 1 1, 3) := by decide +kernel
theorem dX5_init_54 : decode cX5_init 54 = .ok (.goto (-22), 3) := by decide +kernel
theorem dX5_init_57 : decode cX5_init 57 = .ok (.iconst 0, 1) := by decide +kernel
theorem dX5_init_58 : decode cX5_init 58 = .ok (.istore_n 1, 1) := by decide +kernel
theorem dX5_init_59 : decode cX5_init 59 = .ok (.iload_n 1, 1) := by decide +kernel
theorem dX5_init_60 : decode cX5_init 60 = .ok (.bipush 90, 2) := by decide +kernel
theorem dX5_init_62 : decode cX5_init 62 = .ok (.if_icmp .ge 22, 3) := by decide +kernel
theorem dX5_init_65 : decode cX5_init 65 = .ok (.aload_n 0, 1) := by decide +kernel
theorem dX5_init_66 : decode cX5_init 66 = .ok (.getfield 19, 3) := by decide +kernel
theorem dX5_init_69 : decode cX5_init 69 = .ok (.iload_n 1, 1) := by decide +kernel
theorem dX5_init_70 : decode cX5_init 70 = .ok (.new 17, 3) := by decide +kernel
theorem dX5_init_73 : decode cX5_init 73 = .ok (.dup, 1) := by decide +kernel
theorem dX5_init_74 : decode cX5_init 74 = .ok (.invokespecial 28, 3) := by decide +kernel
theorem dX5_init_77 : decode cX5_init 77 = .ok (.aastore, 1) := by decide +kernel
theorem dX5_init_78 : decode cX5_init 78 = .ok (.iinc 1 1, 3) := by decide +kernel
theorem dX5_init_81 : decode cX5_init 81 = .ok (.goto (-22), 3) := by decide +kernel
theorem dX5_init_84 : decode cX5_init 84 = .ok (.return_, 1) := by decide +kernel
theorem dX5_size_0 : decode cX5_size 0 = .ok (.aload_n 0, 1) := by decide +kernel
theorem dX5_size_1 : decode cX5_size 1 = .ok (.getfield 29, 3) := by decide +kernel
theorem dX5_size_4 : decode cX5_size 4 = .ok (.ireturn, 1) := by decide +kernel
theorem dX5_open_0 : decode cX5_open 0 = .ok (.aload_n 0, 1) := by decide +kernel
theorem dX5_open_1 : decode cX5_open 1 = .ok (.getfield 33, 3) := by decide +kernel
theorem dX5_open_4 : decode cX5_open 4 = .ok (.ireturn, 1) := by decide +kernel
theorem dX5_tasks_0 : decode cX5_tasks 0 = .ok (.aload_n 0, 1) := by decide +kernel
theorem dX5_tasks_1 : decode cX5_tasks 1 = .ok (.getfield 36, 3) := by decide +kernel
theorem dX5_tasks_4 : decode cX5_tasks 4 = .ok (.ireturn, 1) := by decide +kernel
theorem dX5_pending_0 : decode cX5_pending 0 = .ok (.aload_n 0, 1) := by decide +kernel
theorem dX5_pending_1 : decode cX5_pending 1 = .ok (.getfield 39, 3) := by decide +kernel
theorem dX5_pending_4 : decode cX5_pending 4 = .ok (.ireturn, 1) := by decide +kernel
theorem dX5_arePendingFor_0 : decode cX5_arePendingFor 0 = .ok (.aload_n 0, 1) := by decide +kernel
theorem dX5_arePendingFor_1 : decode cX5_arePendingFor 1 = .ok (.getfield 23, 3) := by decide +kernel
theorem dX5_arePendingFor_4 : decode cX5_arePendingFor 4 = .ok (.iload_n 1, 1) := by decide +kernel
theorem dX5_arePendingFor_5 : decode cX5_arePendingFor 5 = .ok (.iaload, 1) := by decide +kernel
theorem dX5_arePendingFor_6 : decode cX5_arePendingFor 6 = .ok (.ifCond .le 7, 3) := by decide +kernel
theorem dX5_arePendingFor_9 : decode cX5_arePendingFor 9 = .ok (.iconst 1, 1) := by decide +kernel
theorem dX5_arePendingFor_10 : decode cX5_arePendingFor 10 = .ok (.goto 4, 3) := by decide +kernel
theorem dX5_arePendingFor_13 : decode cX5_arePendingFor 13 = .ok (.iconst 0, 1) := by decide +kernel
theorem dX5_arePendingFor_14 : decode cX5_arePendingFor 14 = .ok (.ireturn, 1) := by decide +kernel
theorem dX5_taskAt_0 : decode cX5_taskAt 0 = .ok (.aload_n 0, 1) := by decide +kernel
theorem dX5_taskAt_1 : decode cX5_taskAt 1 = .ok (.getfield 19, 3) := by decide +kernel
theorem dX5_taskAt_4 : decode cX5_taskAt 4 = .ok (.iload_n 1, 1) := by decide +kernel
theorem dX5_taskAt_5 : decode cX5_taskAt 5 = .ok (.aaload, 1) := by decide +kernel
theorem dX5_taskAt_6 : decode cX5_taskAt 6 = .ok (.areturn, 1) := by decide +kernel
theorem dX5_clear_0 : decode cX5_clear 0 = .ok (.aload_n 0, 1) := by decide +kernel
theorem dX5_clear_1 : decode cX5_clear 1 = .ok (.getfield 23, 3) := by decide +kernel
theorem dX5_clear_4 : decode cX5_clear 4 = .ok (.iconst 0, 1) := by decide +kernel
theorem dX5_clear_5 : decode cX5_clear 5 = .ok (.invokestatic 42, 3) := by decide +kernel
theorem dX5_clear_8 : decode cX5_clear 8 = .ok (.aload_n 0, 1) := by decide +kernel
theorem dX5_clear_9 : decode cX5_clear 9 = .ok (.iconst 0, 1) := by decide +kernel
theorem dX5_clear_10 : decode cX5_clear 10 = .ok (.putfield 29, 3) := by decide +kernel
theorem dX5_clear_13 : decode cX5_clear 13 = .ok (.aload_n 0, 1) := by decide +kernel
theorem dX5_clear_14 : decode cX5_clear 14 = .ok (.iconst 0, 1) := by decide +kernel
theorem dX5_clear_15 : decode cX5_clear 15 = .ok (.putfield 36, 3) := by decide +kernel
theorem dX5_clear_18 : decode cX5_clear 18 = .ok (.aload_n 0, 1) := by decide +kernel
theorem dX5_clear_19 : decode cX5_clear 19 = .ok (.iconst 0, 1) := by decide +kernel
theorem dX5_clear_20 : decode cX5_clear 20 = .ok (.putfield 33, 3) := by decide +kernel
theorem dX5_clear_23 : decode cX5_clear 23 = .ok (.aload_n 0, 1) := by decide +kernel
theorem dX5_clear_24 : decode cX5_clear 24 = .ok (.iconst 0, 1) := by decide +kernel
theorem dX5_clear_25 : decode cX5_clear 25 = .ok (.putfield 39, 3) := by decide +kernel
theorem dX5_clear_28 : decode cX5_clear 28 = .ok (.return_, 1) := by decide +kernel
theorem dX5_haveRoomFor_0 : decode cX5_haveRoomFor 0 = .ok (.aload_n 0, 1) := by decide +kernel
theorem dX5_haveRoomFor_1 : decode cX5_haveRoomFor 1 = .ok (.getfield 29, 3) := by decide +kernel
theorem dX5_haveRoomFor_4 : decode cX5_haveRoomFor 4 = .ok (.bipush 40, 2) := by decide +kernel
theorem dX5_haveRoomFor_6 : decode cX5_haveRoomFor 6 = .ok (.if_icmp .ge 18, 3) := by decide +kernel
theorem dX5_haveRoomFor_9 : decode cX5_haveRoomFor 9 = .ok (.aload_n 0, 1) := by decide +kernel
theorem dX5_haveRoomFor_10 : decode cX5_haveRoomFor 10 = .ok (.getfield 36, 3) := by decide +kernel
theorem dX5_haveRoomFor_13 : decode cX5_haveRoomFor 13 = .ok (.iload_n 1, 1) := by decide +kernel
theorem dX5_haveRoomFor_14 : decode cX5_haveRoomFor 14 = .ok (.iadd, 1) := by decide +kernel
theorem dX5_haveRoomFor_15 : decode cX5_haveRoomFor 15 = .ok (.bipush 90, 2) := by decide +kernel
theorem dX5_haveRoomFor_17 : decode cX5_haveRoomFor 17 = .ok (.if_icmp .gt 7, 3) := by decide +kernel
theorem dX5_haveRoomFor_20 : decode cX5_haveRoomFor 20 = .ok (.iconst 1, 1) := by decide +kernel
theorem dX5_haveRoomFor_21 : decode cX5_haveRoomFor 21 = .ok (.goto 4, 3) := by decide +kernel
theorem dX5_haveRoomFor_24 : decode cX5_haveRoomFor 24 = .ok (.iconst 0, 1) := by decide +kernel
theorem dX5_haveRoomFor_25 : decode cX5_haveRoomFor 25 = .ok (.ireturn, 1) := by decide +kernel
theorem dX5_add_0 : decode cX5_add 0 = .ok (.aload_n 0, 1) := by decide +kernel
theorem dX5_add_1 : decode cX5_add 1 = .ok (.getfield 11, 3) := by decide +kernel
theorem dX5_add_4 : decode cX5_add 4 = .ok (.aload_n 0, 1) := by decide +kernel
theorem dX5_add_5 : decode cX5_add 5 = .ok (.getfield 29, 3) := by decide +kernel
theorem dX5_add_8 : decode cX5_add 8 = .ok (.aaload, 1) := by decide +kernel
theorem dX5_add_9 : decode cX5_add 9 = .ok (.iload_n 1, 1) := by decide +kernel
theorem dX5_add_10 : decode cX5_add 10 = .ok (.iload_n 2, 1) := by decide +kernel
theorem dX5_add_11 : decode cX5_add 11 = .ok (.aload_n 0, 1) := by decide +kernel
theorem dX5_add_12 : decode cX5_add 12 = .ok (.getfield 36, 3) := by decide +kernel
theorem dX5_add_15 : decode cX5_add 15 = .ok (.iload_n 3, 1) := by decide +kernel
theorem dX5_add_16 : decode cX5_add 16 = .ok (.invokevirtual 48, 3) := by decide +kernel
theorem dX5_add_19 : decode cX5_add 19 = .ok (.aload_n 0, 1) := by decide +kernel
theorem dX5_add_20 : decode cX5_add 20 = .ok (.dup, 1) := by decide +kernel
theorem dX5_add_21 : decode cX5_add 21 = .ok (.getfield 33, 3) := by decide +kernel
theorem dX5_add_24 : decode cX5_add 24 = .ok (.iconst 1, 1) := by decide +kernel
theorem dX5_add_25 : decode cX5_add 25 = .ok (.iadd, 1) := by decide +kernel
theorem dX5_add_26 : decode cX5_add 26 = .ok (.putfield 33, 3) := by decide +kernel
theorem dX5_add_29 : decode cX5_add 29 = .ok (.aload_n 0, 1) := by decide +kernel
theorem dX5_add_30 : decode cX5_add 30 = .ok (.dup, 1) := by decide +kernel
theorem dX5_add_31 : decode cX5_add 31 = .ok (.getfield 29, 3) := by decide +kernel
theorem dX5_add_34 : decode cX5_add 34 = .ok (.iconst 1, 1) := by decide +kernel
theorem dX5_add_35 : decode cX5_add 35 = .ok (.iadd, 1) := by decide +kernel
theorem dX5_add_36 : decode cX5_add 36 = .ok (.putfield 29, 3) := by decide +kernel
theorem dX5_add_39 : decode cX5_add 39 = .ok (.aload_n 0, 1) := by decide +kernel
theorem dX5_add_40 : decode cX5_add 40 = .ok (.getfield 29, 3) := by decide +kernel
theorem dX5_add_43 : decode cX5_add 43 = .ok (.iconst 1, 1) := by decide +kernel
theorem dX5_add_44 : decode cX5_add 44 = .ok (.isub, 1) := by decide +kernel
theorem dX5_add_45 : decode cX5_add 45 = .ok (.ireturn, 1) := by decide +kernel
theorem dX5_addTask_0 : decode cX5_addTask 0 = .ok (.aload_n 0, 1) := by decide +kernel
theorem dX5_addTask_1 : decode cX5_addTask 1 = .ok (.getfield 11, 3) := by decide +kernel
theorem dX5_addTask_4 : decode cX5_addTask 4 = .ok (.iload_n 1, 1) := by decide +kernel
theorem dX5_addTask_5 : decode cX5_addTask 5 = .ok (.aaload, 1) := by decide +kernel
theorem dX5_addTask_6 : decode cX5_addTask 6 = .ok (.astore_n 3, 1) := by decide +kernel
theorem dX5_addTask_7 : decode cX5_addTask 7 = .ok (.aload_n 0, 1) := by decide +kernel
theorem dX5_addTask_8 : decode cX5_addTask 8 = .ok (.getfield 19, 3) := by decide +kernel
theorem dX5_addTask_11 : decode cX5_addTask 11 = .ok (.aload_n 0, 1) := by decide +kernel
theorem dX5_addTask_12 : decode cX5_addTask 12 = .ok (.getfield 36, 3) := by decide +kernel
theorem dX5_addTask_15 : decode cX5_addTask 15 = .ok (.aaload, 1) := by decide +kernel
theorem dX5_addTask_16 : decode cX5_addTask 16 = .ok (.iload_n 1, 1) := by decide +kernel
theorem dX5_addTask_17 : decode cX5_addTask 17 = .ok (.iload_n 2, 1) := by decide +kernel
theorem dX5_addTask_18 : decode cX5_addTask 18 = .ok (.aload_n 3, 1) := by decide +kernel
theorem dX5_addTask_19 : decode cX5_addTask 19 = .ok (.getfield 52, 3) := by decide +kernel
theorem dX5_addTask_22 : decode cX5_addTask 22 = .ok (.aload_n 3, 1) := by decide +kernel
theorem dX5_addTask_23 : decode cX5_addTask 23 = .ok (.getfield 55, 3) := by decide +kernel
theorem dX5_addTask_26 : decode cX5_addTask 26 = .ok (.invokevirtual 58, 3) := by decide +kernel
theorem dX5_addTask_29 : decode cX5_addTask 29 = .ok (.aload_n 0, 1) := by decide +kernel
theorem dX5_addTask_30 : decode cX5_addTask 30 = .ok (.dup, 1) := by decide +kernel
theorem dX5_addTask_31 : decode cX5_addTask 31 = .ok (.getfield 36, 3) := by decide +kernel
theorem dX5_addTask_34 : decode cX5_addTask 34 = .ok (.iconst 1, 1) := by decide +kernel
theorem dX5_addTask_35 : decode cX5_addTask 35 = .ok (.iadd, 1) := by decide +kernel
theorem dX5_addTask_36 : decode cX5_addTask 36 = .ok (.putfield 36, 3) := by decide +kernel
theorem dX5_addTask_39 : decode cX5_addTask 39 = .ok (.aload_n 0, 1) := by decide +kernel
theorem dX5_addTask_40 : decode cX5_addTask 40 = .ok (.dup, 1) := by decide +kernel
theorem dX5_addTask_41 : decode cX5_addTask 41 = .ok (.getfield 39, 3) := by decide +kernel
theorem dX5_addTask_44 : decode cX5_addTask 44 = .ok (.iconst 1, 1) := by decide +kernel
theorem dX5_addTask_45 : decode cX5_addTask 45 = .ok (.iadd, 1) := by decide +kernel
theorem dX5_addTask_46 : decode cX5_addTask 46 = .ok (.putfield 39, 3) := by decide +kernel
theorem dX5_addTask_49 : decode cX5_addTask 49 = .ok (.aload_n 0, 1) := by decide +kernel
theorem dX5_addTask_50 : decode cX5_addTask 50 = .ok (.getfield 23, 3) := by decide +kernel
theorem dX5_addTask_53 : decode cX5_addTask 53 = .ok (.aload_n 3, 1) := by decide +kernel
theorem dX5_addTask_54 : decode cX5_addTask 54 = .ok (.getfield 52, 3) := by decide +kernel
theorem dX5_addTask_57 : decode cX5_addTask 57 = .ok (.dup2, 1) := by decide +kernel
theorem dX5_addTask_58 : decode cX5_addTask 58 = .ok (.iaload, 1) := by decide +kernel
theorem dX5_addTask_59 : decode cX5_addTask 59 = .ok (.iconst 1, 1) := by decide +kernel
theorem dX5_addTask_60 : decode cX5_addTask 60 = .ok (.iadd, 1) := by decide +kernel
theorem dX5_addTask_61 : decode cX5_addTask 61 = .ok (.iastore, 1) := by decide +kernel
theorem dX5_addTask_62 : decode cX5_addTask 62 = .ok (.return_, 1) := by decide +kernel
theorem dX5_cancelPending_0 : decode cX5_cancelPending 0 = .ok (.iload_n 1, 1) := by decide +kernel
theorem dX5_cancelPending_1 : decode cX5_cancelPending 1 = .ok (.ifCond .lt 11, 3) := by decide +kernel
theorem dX5_cancelPending_4 : decode cX5_cancelPending 4 = .ok (.iload_n 1, 1) := by decide +kernel
theorem dX5_cancelPending_5 : decode cX5_cancelPending 5 = .ok (.aload_n 0, 1) := by decide +kernel
theorem dX5_cancelPending_6 : decode cX5_cancelPending 6 = .ok (.getfield 29, 3) := by decide +kernel
theorem dX5_cancelPending_9 : decode cX5_cancelPending 9 = .ok (.if_icmp .lt 6, 3) := by decide +kernel
theorem dX5_cancelPending_12 : decode cX5_cancelPending 12 = .ok (.bipush (-2), 2) := by decide +kernel
theorem dX5_cancelPending_14 : decode cX5_cancelPending 14 = .ok (.ireturn, 1) := by decide +kernel
theorem dX5_cancelPending_15 : decode cX5_cancelPending 15 = .ok (.aload_n 0, 1) := by decide +kernel
theorem dX5_cancelPending_16 : decode cX5_cancelPending 16 = .ok (.getfield 11, 3) := by decide +kernel
theorem dX5_cancelPending_19 : decode cX5_cancelPending 19 = .ok (.iload_n 1, 1) := by decide +kernel
theorem dX5_cancelPending_20 : decode cX5_cancelPending 20 = .ok (.aaload, 1) := by decide +kernel
theorem dX5_cancelPending_21 : decode cX5_cancelPending 21 = .ok (.astore_n 3, 1) := by decide +kernel
theorem dX5_cancelPending_22 : decode cX5_cancelPending 22 = .ok (.iconst 0, 1) := by decide +kernel
theorem dX5_cancelPending_23 : decode cX5_cancelPending 23 = .ok (.istore 4, 2) := by decide +kernel
theorem dX5_cancelPending_25 : decode cX5_cancelPending 25 = .ok (.iconst 0, 1) := by decide +kernel
theorem dX5_cancelPending_26 : decode cX5_cancelPending 26 = .ok (.istore 5, 2) := by decide +kernel
theorem dX5_cancelPending_28 : decode cX5_cancelPending 28 = .ok (.iload 5, 2) := by decide +kernel
theorem dX5_cancelPending_30 : decode cX5_cancelPending 30 = .ok (.aload_n 3, 1) := by decide +kernel
theorem dX5_cancelPending_31 : decode cX5_cancelPending 31 = .ok (.getfield 59, 3) := by decide +kernel
theorem dX5_cancelPending_34 : decode cX5_cancelPending 34 = .ok (.if_icmp .ge 47, 3) := by decide +kernel
theorem dX5_cancelPending_37 : decode cX5_cancelPending 37 = .ok (.aload_n 0, 1) := by decide +kernel
theorem dX5_cancelPending_38 : decode cX5_cancelPending 38 = .ok (.getfield 19, 3) := by decide +kernel
theorem dX5_cancelPending_41 : decode cX5_cancelPending 41 = .ok (.aload_n 3, 1) := by decide +kernel
theorem dX5_cancelPending_42 : decode cX5_cancelPending 42 = .ok (.getfield 61, 3) := by decide +kernel
theorem dX5_cancelPending_45 : decode cX5_cancelPending 45 = .ok (.iload 5, 2) := by decide +kernel
theorem dX5_cancelPending_47 : decode cX5_cancelPending 47 = .ok (.iadd, 1) := by decide +kernel
theorem dX5_cancelPending_48 : decode cX5_cancelPending 48 = .ok (.aaload, 1) := by decide +kernel
theorem dX5_cancelPending_49 : decode cX5_cancelPending 49 = .ok (.astore 6, 2) := by decide +kernel
theorem dX5_cancelPending_51 : decode cX5_cancelPending 51 = .ok (.aload 6, 2) := by decide +kernel
theorem dX5_cancelPending_53 : decode cX5_cancelPending 53 = .ok (.getfield 64, 3) := by decide +kernel
theorem dX5_cancelPending_56 : decode cX5_cancelPending 56 = .ok (.ifCond .ne 19, 3) := by decide +kernel
theorem dX5_cancelPending_59 : decode cX5_cancelPending 59 = .ok (.aload_n 0, 1) := by decide +kernel
theorem dX5_cancelPending_60 : decode cX5_cancelPending 60 = .ok (.aload 6, 2) := by decide +kernel
theorem dX5_cancelPending_62 : decode cX5_cancelPending 62 = .ok (.iconst 4, 1) := by decide +kernel
theorem dX5_cancelPending_63 : decode cX5_cancelPending 63 = .ok (.invokevirtual 67, 3) := by decide +kernel
theorem dX5_cancelPending_66 : decode cX5_cancelPending 66 = .ok (.aload_n 0, 1) := by decide +kernel
theorem dX5_cancelPending_67 : decode cX5_cancelPending 67 = .ok (.aload_n 3, 1) := by decide +kernel
theorem dX5_cancelPending_68 : decode cX5_cancelPending 68 = .ok (.iload_n 2, 1) := by decide +kernel
theorem dX5_cancelPending_69 : decode cX5_cancelPending 69 = .ok (.invokevirtual 71, 3) := by decide +kernel
theorem dX5_cancelPending_72 : decode cX5_cancelPending 72 = .ok (.iinc 4 1, 3) := by decide +kernel
theorem dX5_cancelPending_75 : decode cX5_cancelPending 75 = .ok (.iinc 5 1, 3) := by decide +kernel
theorem dX5_cancelPending_78 : decode cX5_cancelPending 78 = .ok (.goto (-50), 3) := by decide +kernel
theorem dX5_cancelPending_81 : decode cX5_cancelPending 81 = .ok (.iload 4, 2) := by decide +kernel
theorem dX5_cancelPending_83 : decode cX5_cancelPending 83 = .ok (.ireturn, 1) := by decide +kernel
theorem dX5_take_0 : decode cX5_take 0 = .ok (.aload_n 0, 1) := by decide +kernel
theorem dX5_take_1 : decode cX5_take 1 = .ok (.aload_n 1, 1) := by decide +kernel
theorem dX5_take_2 : decode cX5_take 2 = .ok (.iconst 1, 1) := by decide +kernel
theorem dX5_take_3 : decode cX5_take 3 = .ok (.invokevirtual 67, 3) := by decide +kernel
theorem dX5_take_6 : decode cX5_take 6 = .ok (.aload_n 1, 1) := by decide +kernel
theorem dX5_take_7 : decode cX5_take 7 = .ok (.iload_n 2, 1) := by decide +kernel
theorem dX5_take_8 : decode cX5_take 8 = .ok (.putfield 75, 3) := by decide +kernel
theorem dX5_take_11 : decode cX5_take 11 = .ok (.aload_n 1, 1) := by decide +kernel
theorem dX5_take_12 : decode cX5_take 12 = .ok (.iload_n 3, 1) := by decide +kernel
theorem dX5_take_13 : decode cX5_take 13 = .ok (.putfield 78, 3) := by decide +kernel
theorem dX5_take_16 : decode cX5_take 16 = .ok (.return_, 1) := by decide +kernel
theorem dX5_pick_0 : decode cX5_pick 0 = .ok (.aload_n 1, 1) := by decide +kernel
theorem dX5_pick_1 : decode cX5_pick 1 = .ok (.iconst 2, 1) := by decide +kernel
theorem dX5_pick_2 : decode cX5_pick 2 = .ok (.putfield 64, 3) := by decide +kernel
theorem dX5_pick_5 : decode cX5_pick 5 = .ok (.aload_n 1, 1) := by decide +kernel
theorem dX5_pick_6 : decode cX5_pick 6 = .ok (.iload_n 2, 1) := by decide +kernel
theorem dX5_pick_7 : decode cX5_pick 7 = .ok (.putfield 81, 3) := by decide +kernel
theorem dX5_pick_10 : decode cX5_pick 10 = .ok (.return_, 1) := by decide +kernel
theorem dX5_bring_0 : decode cX5_bring 0 = .ok (.aload_n 1, 1) := by decide +kernel
theorem dX5_bring_1 : decode cX5_bring 1 = .ok (.iconst 3, 1) := by decide +kernel
theorem dX5_bring_2 : decode cX5_bring 2 = .ok (.putfield 64, 3) := by decide +kernel
theorem dX5_bring_5 : decode cX5_bring 5 = .ok (.aload_n 1, 1) := by decide +kernel
theorem dX5_bring_6 : decode cX5_bring 6 = .ok (.iload_n 2, 1) := by decide +kernel
theorem dX5_bring_7 : decode cX5_bring 7 = .ok (.putfield 84, 3) := by decide +kernel
theorem dX5_bring_10 : decode cX5_bring 10 = .ok (.aload_n 0, 1) := by decide +kernel
theorem dX5_bring_11 : decode cX5_bring 11 = .ok (.aload_n 0, 1) := by decide +kernel
theorem dX5_bring_12 : decode cX5_bring 12 = .ok (.getfield 11, 3) := by decide +kernel
theorem dX5_bring_15 : decode cX5_bring 15 = .ok (.aload_n 1, 1) := by decide +kernel
theorem dX5_bring_16 : decode cX5_bring 16 = .ok (.getfield 87, 3) := by decide +kernel
theorem dX5_bring_19 : decode cX5_bring 19 = .ok (.aaload, 1) := by decide +kernel
theorem dX5_bring_20 : decode cX5_bring 20 = .ok (.iload_n 2, 1) := by decide +kernel
theorem dX5_bring_21 : decode cX5_bring 21 = .ok (.invokevirtual 71, 3) := by decide +kernel
theorem dX5_bring_24 : decode cX5_bring 24 = .ok (.return_, 1) := by decide +kernel
theorem dX5_leavePending_0 : decode cX5_leavePending 0 = .ok (.aload_n 1, 1) := by decide +kernel
theorem dX5_leavePending_1 : decode cX5_leavePending 1 = .ok (.iload_n 2, 1) := by decide +kernel
theorem dX5_leavePending_2 : decode cX5_leavePending 2 = .ok (.putfield 64, 3) := by decide +kernel
theorem dX5_leavePending_5 : decode cX5_leavePending 5 = .ok (.aload_n 0, 1) := by decide +kernel
theorem dX5_leavePending_6 : decode cX5_leavePending 6 = .ok (.dup, 1) := by decide +kernel
theorem dX5_leavePending_7 : decode cX5_leavePending 7 = .ok (.getfield 39, 3) := by decide +kernel
theorem dX5_leavePending_10 : decode cX5_leavePending 10 = .ok (.iconst 1, 1) := by decide +kernel
theorem dX5_leavePending_11 : decode cX5_leavePending 11 = .ok (.isub, 1) := by decide +kernel
theorem dX5_leavePending_12 : decode cX5_leavePending 12 = .ok (.putfield 39, 3) := by decide +kernel
theorem dX5_leavePending_15 : decode cX5_leavePending 15 = .ok (.aload_n 0, 1) := by decide +kernel
theorem dX5_leavePending_16 : decode cX5_leavePending 16 = .ok (.getfield 23, 3) := by decide +kernel
theorem dX5_leavePending_19 : decode cX5_leavePending 19 = .ok (.aload_n 1, 1) := by decide +kernel
theorem dX5_leavePending_20 : decode cX5_leavePending 20 = .ok (.getfield 90, 3) := by decide +kernel
theorem dX5_leavePending_23 : decode cX5_leavePending 23 = .ok (.dup2, 1) := by decide +kernel
theorem dX5_leavePending_24 : decode cX5_leavePending 24 = .ok (.iaload, 1) := by decide +kernel
theorem dX5_leavePending_25 : decode cX5_leavePending 25 = .ok (.iconst 1, 1) := by decide +kernel
theorem dX5_leavePending_26 : decode cX5_leavePending 26 = .ok (.isub, 1) := by decide +kernel
theorem dX5_leavePending_27 : decode cX5_leavePending 27 = .ok (.iastore, 1) := by decide +kernel
theorem dX5_leavePending_28 : decode cX5_leavePending 28 = .ok (.return_, 1) := by decide +kernel
theorem dX5_finishOne_0 : decode cX5_finishOne 0 = .ok (.aload_n 1, 1) := by decide +kernel
theorem dX5_finishOne_1 : decode cX5_finishOne 1 = .ok (.dup, 1) := by decide +kernel
theorem dX5_finishOne_2 : decode cX5_finishOne 2 = .ok (.getfield 91, 3) := by decide +kernel
theorem dX5_finishOne_5 : decode cX5_finishOne 5 = .ok (.iconst 1, 1) := by decide +kernel
theorem dX5_finishOne_6 : decode cX5_finishOne 6 = .ok (.isub, 1) := by decide +kernel
theorem dX5_finishOne_7 : decode cX5_finishOne 7 = .ok (.putfield 91, 3) := by decide +kernel
theorem dX5_finishOne_10 : decode cX5_finishOne 10 = .ok (.aload_n 1, 1) := by decide +kernel
theorem dX5_finishOne_11 : decode cX5_finishOne 11 = .ok (.getfield 91, 3) := by decide +kernel
theorem dX5_finishOne_14 : decode cX5_finishOne 14 = .ok (.ifCond .ne 18, 3) := by decide +kernel
theorem dX5_finishOne_17 : decode cX5_finishOne 17 = .ok (.aload_n 1, 1) := by decide +kernel
theorem dX5_finishOne_18 : decode cX5_finishOne 18 = .ok (.iload_n 2, 1) := by decide +kernel
theorem dX5_finishOne_19 : decode cX5_finishOne 19 = .ok (.putfield 94, 3) := by decide +kernel
theorem dX5_finishOne_22 : decode cX5_finishOne 22 = .ok (.aload_n 0, 1) := by decide +kernel
theorem dX5_finishOne_23 : decode cX5_finishOne 23 = .ok (.dup, 1) := by decide +kernel
theorem dX5_finishOne_24 : decode cX5_finishOne 24 = .ok (.getfield 33, 3) := by decide +kernel
theorem dX5_finishOne_27 : decode cX5_finishOne 27 = .ok (.iconst 1, 1) := by decide +kernel
theorem dX5_finishOne_28 : decode cX5_finishOne 28 = .ok (.isub, 1) := by decide +kernel
theorem dX5_finishOne_29 : decode cX5_finishOne 29 = .ok (.putfield 33, 3) := by decide +kernel
theorem dX5_finishOne_32 : decode cX5_finishOne 32 = .ok (.return_, 1) := by decide +kernel
theorem dX5_tellTask_0 : decode cX5_tellTask 0 = .ok (.iload_n 1, 1) := by decide +kernel
theorem dX5_tellTask_1 : decode cX5_tellTask 1 = .ok (.ifCond .lt 11, 3) := by decide +kernel
theorem dX5_tellTask_4 : decode cX5_tellTask 4 = .ok (.iload_n 1, 1) := by decide +kernel
theorem dX5_tellTask_5 : decode cX5_tellTask 5 = .ok (.aload_n 0, 1) := by decide +kernel
theorem dX5_tellTask_6 : decode cX5_tellTask 6 = .ok (.getfield 36, 3) := by decide +kernel
theorem dX5_tellTask_9 : decode cX5_tellTask 9 = .ok (.if_icmp .lt 7, 3) := by decide +kernel
theorem dX5_tellTask_12 : decode cX5_tellTask 12 = .ok (.iconst (-1), 1) := by decide +kernel
theorem dX5_tellTask_13 : decode cX5_tellTask 13 = .ok (.goto 13, 3) := by decide +kernel
theorem dX5_tellTask_16 : decode cX5_tellTask 16 = .ok (.aload_n 0, 1) := by decide +kernel
theorem dX5_tellTask_17 : decode cX5_tellTask 17 = .ok (.getfield 19, 3) := by decide +kernel
theorem dX5_tellTask_20 : decode cX5_tellTask 20 = .ok (.iload_n 1, 1) := by decide +kernel
theorem dX5_tellTask_21 : decode cX5_tellTask 21 = .ok (.aaload, 1) := by decide +kernel
theorem dX5_tellTask_22 : decode cX5_tellTask 22 = .ok (.iload_n 2, 1) := by decide +kernel
theorem dX5_tellTask_23 : decode cX5_tellTask 23 = .ok (.invokevirtual 97, 3) := by decide +kernel
theorem dX5_tellTask_26 : decode cX5_tellTask 26 = .ok (.ireturn, 1) := by decide +kernel
theorem dX5_tellOrder_0 : decode cX5_tellOrder 0 = .ok (.iload_n 1, 1) := by decide +kernel
theorem dX5_tellOrder_1 : decode cX5_tellOrder 1 = .ok (.ifCond .lt 11, 3) := by decide +kernel
theorem dX5_tellOrder_4 : decode cX5_tellOrder 4 = .ok (.iload_n 1, 1) := by decide +kernel
theorem dX5_tellOrder_5 : decode cX5_tellOrder 5 = .ok (.aload_n 0, 1) := by decide +kernel
theorem dX5_tellOrder_6 : decode cX5_tellOrder 6 = .ok (.getfield 29, 3) := by decide +kernel
theorem dX5_tellOrder_9 : decode cX5_tellOrder 9 = .ok (.if_icmp .lt 7, 3) := by decide +kernel
theorem dX5_tellOrder_12 : decode cX5_tellOrder 12 = .ok (.iconst (-1), 1) := by decide +kernel
theorem dX5_tellOrder_13 : decode cX5_tellOrder 13 = .ok (.goto 13, 3) := by decide +kernel
theorem dX5_tellOrder_16 : decode cX5_tellOrder 16 = .ok (.aload_n 0, 1) := by decide +kernel
theorem dX5_tellOrder_17 : decode cX5_tellOrder 17 = .ok (.getfield 11, 3) := by decide +kernel
theorem dX5_tellOrder_20 : decode cX5_tellOrder 20 = .ok (.iload_n 1, 1) := by decide +kernel
theorem dX5_tellOrder_21 : decode cX5_tellOrder 21 = .ok (.aaload, 1) := by decide +kernel
theorem dX5_tellOrder_22 : decode cX5_tellOrder 22 = .ok (.iload_n 2, 1) := by decide +kernel
theorem dX5_tellOrder_23 : decode cX5_tellOrder 23 = .ok (.invokevirtual 101, 3) := by decide +kernel
theorem dX5_tellOrder_26 : decode cX5_tellOrder 26 = .ok (.ireturn, 1) := by decide +kernel
end
section
theorem dX6_init_0 : decode cX6_init 0 = .ok (.aload_n 0, 1) := by decide +kernel
theorem dX6_init_1 : decode cX6_init 1 = .ok (.invokespecial 3, 3) := by decide +kernel
theorem dX6_init_4 : decode cX6_init 4 = .ok (.return_, 1) := by decide +kernel
theorem dX6_begin_0 : decode cX6_begin 0 = .ok (.aload_n 0, 1) := by decide +kernel
theorem dX6_begin_1 : decode cX6_begin 1 = .ok (.iconst (-1), 1) := by decide +kernel
theorem dX6_begin_2 : decode cX6_begin 2 = .ok (.putfield 9, 3) := by decide +kernel
theorem dX6_begin_5 : decode cX6_begin 5 = .ok (.aload_n 0, 1) := by decide +kernel
theorem dX6_begin_6 : decode cX6_begin 6 = .ok (.iconst 0, 1) := by decide +kernel
theorem dX6_begin_7 : decode cX6_begin 7 = .ok (.putfield 15, 3) := by decide +kernel
theorem dX6_begin_10 : decode cX6_begin 10 = .ok (.aload_n 0, 1) := by decide +kernel
theorem dX6_begin_11 : decode cX6_begin 11 = .ok (.iconst 0, 1) := by decide +kernel
theorem dX6_begin_12 : decode cX6_begin 12 = .ok (.putfield 18, 3) := by decide +kernel
theorem dX6_begin_15 : decode cX6_begin 15 = .ok (.aload_n 0, 1) := by decide +kernel
theorem dX6_begin_16 : decode cX6_begin 16 = .ok (.iconst 0, 1) := by decide +kernel
theorem dX6_begin_17 : decode cX6_begin 17 = .ok (.putfield 21, 3) := by decide +kernel
theorem dX6_begin_20 : decode cX6_begin 20 = .ok (.return_, 1) := by decide +kernel
end
section
theorem dX7_init_0 : decode cX7_init 0 = .ok (.aload_n 0, 1) := by decide +kernel
theorem dX7_init_1 : decode cX7_init 1 = .ok (.invokespecial 3, 3) := by decide +kernel
theorem dX7_init_4 : decode cX7_init 4 = .ok (.return_, 1) := by decide +kernel
theorem dX7_begin_0 : decode cX7_begin 0 = .ok (.aload_n 0, 1) := by decide +kernel
theorem dX7_begin_1 : decode cX7_begin 1 = .ok (.iload_n 1, 1) := by decide +kernel
theorem dX7_begin_2 : decode cX7_begin 2 = .ok (.putfield 9, 3) := by decide +kernel
theorem dX7_begin_5 : decode cX7_begin 5 = .ok (.aload_n 0, 1) := by decide +kernel
theorem dX7_begin_6 : decode cX7_begin 6 = .ok (.iload_n 2, 1) := by decide +kernel
theorem dX7_begin_7 : decode cX7_begin 7 = .ok (.putfield 15, 3) := by decide +kernel
theorem dX7_begin_10 : decode cX7_begin 10 = .ok (.aload_n 0, 1) := by decide +kernel
theorem dX7_begin_11 : decode cX7_begin 11 = .ok (.iload_n 3, 1) := by decide +kernel
theorem dX7_begin_12 : decode cX7_begin 12 = .ok (.putfield 18, 3) := by decide +kernel
theorem dX7_begin_15 : decode cX7_begin 15 = .ok (.aload_n 0, 1) := by decide +kernel
theorem dX7_begin_16 : decode cX7_begin 16 = .ok (.iconst 0, 1) := by decide +kernel
theorem dX7_begin_17 : decode cX7_begin 17 = .ok (.putfield 21, 3) := by decide +kernel
theorem dX7_begin_20 : decode cX7_begin 20 = .ok (.aload_n 0, 1) := by decide +kernel
theorem dX7_begin_21 : decode cX7_begin 21 = .ok (.iconst (-1), 1) := by decide +kernel
theorem dX7_begin_22 : decode cX7_begin 22 = .ok (.putfield 24, 3) := by decide +kernel
theorem dX7_begin_25 : decode cX7_begin 25 = .ok (.aload_n 0, 1) := by decide +kernel
theorem dX7_begin_26 : decode cX7_begin 26 = .ok (.iload 4, 2) := by decide +kernel
theorem dX7_begin_28 : decode cX7_begin 28 = .ok (.putfield 27, 3) := by decide +kernel
theorem dX7_begin_31 : decode cX7_begin 31 = .ok (.aload_n 0, 1) := by decide +kernel
theorem dX7_begin_32 : decode cX7_begin 32 = .ok (.iconst (-1), 1) := by decide +kernel
theorem dX7_begin_33 : decode cX7_begin 33 = .ok (.putfield 30, 3) := by decide +kernel
theorem dX7_begin_36 : decode cX7_begin 36 = .ok (.aload_n 0, 1) := by decide +kernel
theorem dX7_begin_37 : decode cX7_begin 37 = .ok (.iconst (-1), 1) := by decide +kernel
theorem dX7_begin_38 : decode cX7_begin 38 = .ok (.putfield 33, 3) := by decide +kernel
theorem dX7_begin_41 : decode cX7_begin 41 = .ok (.aload_n 0, 1) := by decide +kernel
theorem dX7_begin_42 : decode cX7_begin 42 = .ok (.iconst (-1), 1) := by decide +kernel
theorem dX7_begin_43 : decode cX7_begin 43 = .ok (.putfield 36, 3) := by decide +kernel
theorem dX7_begin_46 : decode cX7_begin 46 = .ok (.return_, 1) := by decide +kernel
theorem dX7_tell_0 : decode cX7_tell 0 = .ok (.iload_n 1, 1) := by decide +kernel
theorem dX7_tell_1 : decode cX7_tell 1 = .ok (.tableswitch 96 0 8 #[51, 56, 61, 66, 71, 76, 81, 86, 91], 51) := by decide +kernel
theorem dX7_tell_52 : decode cX7_tell 52 = .ok (.aload_n 0, 1) := by decide +kernel
theorem dX7_tell_53 : decode cX7_tell 53 = .ok (.getfield 9, 3) := by decide +kernel
theorem dX7_tell_56 : decode cX7_tell 56 = .ok (.ireturn, 1) := by decide +kernel
theorem dX7_tell_57 : decode cX7_tell 57 = .ok (.aload_n 0, 1) := by decide +kernel
theorem dX7_tell_58 : decode cX7_tell 58 = .ok (.getfield 15, 3) := by decide +kernel
theorem dX7_tell_61 : decode cX7_tell 61 = .ok (.ireturn, 1) := by decide +kernel
theorem dX7_tell_62 : decode cX7_tell 62 = .ok (.aload_n 0, 1) := by decide +kernel
theorem dX7_tell_63 : decode cX7_tell 63 = .ok (.getfield 18, 3) := by decide +kernel
theorem dX7_tell_66 : decode cX7_tell 66 = .ok (.ireturn, 1) := by decide +kernel
theorem dX7_tell_67 : decode cX7_tell 67 = .ok (.aload_n 0, 1) := by decide +kernel
theorem dX7_tell_68 : decode cX7_tell 68 = .ok (.getfield 21, 3) := by decide +kernel
theorem dX7_tell_71 : decode cX7_tell 71 = .ok (.ireturn, 1) := by decide +kernel
theorem dX7_tell_72 : decode cX7_tell 72 = .ok (.aload_n 0, 1) := by decide +kernel
theorem dX7_tell_73 : decode cX7_tell 73 = .ok (.getfield 24, 3) := by decide +kernel
theorem dX7_tell_76 : decode cX7_tell 76 = .ok (.ireturn, 1) := by decide +kernel
theorem dX7_tell_77 : decode cX7_tell 77 = .ok (.aload_n 0, 1) := by decide +kernel
theorem dX7_tell_78 : decode cX7_tell 78 = .ok (.getfield 27, 3) := by decide +kernel
theorem dX7_tell_81 : decode cX7_tell 81 = .ok (.ireturn, 1) := by decide +kernel
theorem dX7_tell_82 : decode cX7_tell 82 = .ok (.aload_n 0, 1) := by decide +kernel
theorem dX7_tell_83 : decode cX7_tell 83 = .ok (.getfield 30, 3) := by decide +kernel
theorem dX7_tell_86 : decode cX7_tell 86 = .ok (.ireturn, 1) := by decide +kernel
theorem dX7_tell_87 : decode cX7_tell 87 = .ok (.aload_n 0, 1) := by decide +kernel
theorem dX7_tell_88 : decode cX7_tell 88 = .ok (.getfield 33, 3) := by decide +kernel
theorem dX7_tell_91 : decode cX7_tell 91 = .ok (.ireturn, 1) := by decide +kernel
theorem dX7_tell_92 : decode cX7_tell 92 = .ok (.aload_n 0, 1) := by decide +kernel
theorem dX7_tell_93 : decode cX7_tell 93 = .ok (.getfield 36, 3) := by decide +kernel
theorem dX7_tell_96 : decode cX7_tell 96 = .ok (.ireturn, 1) := by decide +kernel
theorem dX7_tell_97 : decode cX7_tell 97 = .ok (.bipush (-2), 2) := by decide +kernel
theorem dX7_tell_99 : decode cX7_tell 99 = .ok (.ireturn, 1) := by decide +kernel
end
section
theorem dX8_init_0 : decode cX8_init 0 = .ok (.aload_n 0, 1) := by decide +kernel
theorem dX8_init_1 : decode cX8_init 1 = .ok (.invokespecial 3, 3) := by decide +kernel
theorem dX8_init_4 : decode cX8_init 4 = .ok (.aload_n 0, 1) := by decide +kernel
theorem dX8_init_5 : decode cX8_init 5 = .ok (.sipush 5001, 3) := by decide +kernel
theorem dX8_init_8 : decode cX8_init 8 = .ok (.newarray .long, 2) := by decide +kernel
theorem dX8_init_10 : decode cX8_init 10 = .ok (.putfield 9, 3) := by decide +kernel
theorem dX8_init_13 : decode cX8_init 13 = .ok (.aload_n 0, 1) := by decide +kernel
theorem dX8_init_14 : decode cX8_init 14 = .ok (.bipush 6, 2) := by decide +kernel
theorem dX8_init_16 : decode cX8_init 16 = .ok (.newarray .int, 2) := by decide +kernel
theorem dX8_init_18 : decode cX8_init 18 = .ok (.putfield 15, 3) := by decide +kernel
theorem dX8_init_21 : decode cX8_init 21 = .ok (.aload_n 0, 1) := by decide +kernel
theorem dX8_init_22 : decode cX8_init 22 = .ok (.bipush 6, 2) := by decide +kernel
theorem dX8_init_24 : decode cX8_init 24 = .ok (.newarray .int, 2) := by decide +kernel
theorem dX8_init_26 : decode cX8_init 26 = .ok (.putfield 19, 3) := by decide +kernel
theorem dX8_init_29 : decode cX8_init 29 = .ok (.aload_n 0, 1) := by decide +kernel
theorem dX8_init_30 : decode cX8_init 30 = .ok (.bipush 80, 2) := by decide +kernel
theorem dX8_init_32 : decode cX8_init 32 = .ok (.newarray .int, 2) := by decide +kernel
theorem dX8_init_34 : decode cX8_init 34 = .ok (.putfield 22, 3) := by decide +kernel
theorem dX8_init_37 : decode cX8_init 37 = .ok (.return_, 1) := by decide +kernel
theorem dX8_robots_0 : decode cX8_robots 0 = .ok (.aload_n 0, 1) := by decide +kernel
theorem dX8_robots_1 : decode cX8_robots 1 = .ok (.getfield 25, 3) := by decide +kernel
theorem dX8_robots_4 : decode cX8_robots 4 = .ok (.ireturn, 1) := by decide +kernel
theorem dX8_endOf_0 : decode cX8_endOf 0 = .ok (.aload_n 0, 1) := by decide +kernel
theorem dX8_endOf_1 : decode cX8_endOf 1 = .ok (.getfield 15, 3) := by decide +kernel
theorem dX8_endOf_4 : decode cX8_endOf 4 = .ok (.iload_n 1, 1) := by decide +kernel
theorem dX8_endOf_5 : decode cX8_endOf 5 = .ok (.iaload, 1) := by decide +kernel
theorem dX8_endOf_6 : decode cX8_endOf 6 = .ok (.ireturn, 1) := by decide +kernel
theorem dX8_endTimeOf_0 : decode cX8_endTimeOf 0 = .ok (.aload_n 0, 1) := by decide +kernel
theorem dX8_endTimeOf_1 : decode cX8_endTimeOf 1 = .ok (.getfield 19, 3) := by decide +kernel
theorem dX8_endTimeOf_4 : decode cX8_endTimeOf 4 = .ok (.iload_n 1, 1) := by decide +kernel
theorem dX8_endTimeOf_5 : decode cX8_endTimeOf 5 = .ok (.iaload, 1) := by decide +kernel
theorem dX8_endTimeOf_6 : decode cX8_endTimeOf 6 = .ok (.ireturn, 1) := by decide +kernel
theorem dX8_ownerOf_0 : decode cX8_ownerOf 0 = .ok (.aload_n 0, 1) := by decide +kernel
theorem dX8_ownerOf_1 : decode cX8_ownerOf 1 = .ok (.getfield 22, 3) := by decide +kernel
theorem dX8_ownerOf_4 : decode cX8_ownerOf 4 = .ok (.iload_n 1, 1) := by decide +kernel
theorem dX8_ownerOf_5 : decode cX8_ownerOf 5 = .ok (.iaload, 1) := by decide +kernel
theorem dX8_ownerOf_6 : decode cX8_ownerOf 6 = .ok (.ireturn, 1) := by decide +kernel
theorem dX8_isEndOfOther_0 : decode cX8_isEndOfOther 0 = .ok (.aload_n 0, 1) := by decide +kernel
theorem dX8_isEndOfOther_1 : decode cX8_isEndOfOther 1 = .ok (.getfield 22, 3) := by decide +kernel
theorem dX8_isEndOfOther_4 : decode cX8_isEndOfOther 4 = .ok (.iload_n 1, 1) := by decide +kernel
theorem dX8_isEndOfOther_5 : decode cX8_isEndOfOther 5 = .ok (.iaload, 1) := by decide +kernel
theorem dX8_isEndOfOther_6 : decode cX8_isEndOfOther 6 = .ok (.iconst (-1), 1) := by decide +kernel
theorem dX8_isEndOfOther_7 : decode cX8_isEndOfOther 7 = .ok (.if_icmp .eq 17, 3) := by decide +kernel
theorem dX8_isEndOfOther_10 : decode cX8_isEndOfOther 10 = .ok (.aload_n 0, 1) := by decide +kernel
theorem dX8_isEndOfOther_11 : decode cX8_isEndOfOther 11 = .ok (.getfield 22, 3) := by decide +kernel
theorem dX8_isEndOfOther_14 : decode cX8_isEndOfOther 14 = .ok (.iload_n 1, 1) := by decide +kernel
theorem dX8_isEndOfOther_15 : decode cX8_isEndOfOther 15 = .ok (.iaload, 1) := by decide +kernel
theorem dX8_isEndOfOther_16 : decode cX8_isEndOfOther 16 = .ok (.iload_n 2, 1) := by decide +kernel
theorem dX8_isEndOfOther_17 : decode cX8_isEndOfOther 17 = .ok (.if_icmp .eq 7, 3) := by decide +kernel
theorem dX8_isEndOfOther_20 : decode cX8_isEndOfOther 20 = .ok (.iconst 1, 1) := by decide +kernel
theorem dX8_isEndOfOther_21 : decode cX8_isEndOfOther 21 = .ok (.goto 4, 3) := by decide +kernel
theorem dX8_isEndOfOther_24 : decode cX8_isEndOfOther 24 = .ok (.iconst 0, 1) := by decide +kernel
theorem dX8_isEndOfOther_25 : decode cX8_isEndOfOther 25 = .ok (.ireturn, 1) := by decide +kernel
theorem dX8_clear_0 : decode cX8_clear 0 = .ok (.aload_n 0, 1) := by decide +kernel
theorem dX8_clear_1 : decode cX8_clear 1 = .ok (.getfield 22, 3) := by decide +kernel
theorem dX8_clear_4 : decode cX8_clear 4 = .ok (.iconst (-1), 1) := by decide +kernel
theorem dX8_clear_5 : decode cX8_clear 5 = .ok (.invokestatic 29, 3) := by decide +kernel
theorem dX8_clear_8 : decode cX8_clear 8 = .ok (.aload_n 0, 1) := by decide +kernel
theorem dX8_clear_9 : decode cX8_clear 9 = .ok (.iconst 0, 1) := by decide +kernel
theorem dX8_clear_10 : decode cX8_clear 10 = .ok (.putfield 25, 3) := by decide +kernel
theorem dX8_clear_13 : decode cX8_clear 13 = .ok (.return_, 1) := by decide +kernel
theorem dX8_add_0 : decode cX8_add 0 = .ok (.aload_n 0, 1) := by decide +kernel
theorem dX8_add_1 : decode cX8_add 1 = .ok (.getfield 15, 3) := by decide +kernel
theorem dX8_add_4 : decode cX8_add 4 = .ok (.aload_n 0, 1) := by decide +kernel
theorem dX8_add_5 : decode cX8_add 5 = .ok (.getfield 25, 3) := by decide +kernel
theorem dX8_add_8 : decode cX8_add 8 = .ok (.iload_n 1, 1) := by decide +kernel
theorem dX8_add_9 : decode cX8_add 9 = .ok (.iastore, 1) := by decide +kernel
theorem dX8_add_10 : decode cX8_add 10 = .ok (.aload_n 0, 1) := by decide +kernel
theorem dX8_add_11 : decode cX8_add 11 = .ok (.getfield 19, 3) := by decide +kernel
theorem dX8_add_14 : decode cX8_add 14 = .ok (.aload_n 0, 1) := by decide +kernel
theorem dX8_add_15 : decode cX8_add 15 = .ok (.getfield 25, 3) := by decide +kernel
theorem dX8_add_18 : decode cX8_add 18 = .ok (.iconst 0, 1) := by decide +kernel
theorem dX8_add_19 : decode cX8_add 19 = .ok (.iastore, 1) := by decide +kernel
theorem dX8_add_20 : decode cX8_add 20 = .ok (.aload_n 0, 1) := by decide +kernel
theorem dX8_add_21 : decode cX8_add 21 = .ok (.getfield 22, 3) := by decide +kernel
theorem dX8_add_24 : decode cX8_add 24 = .ok (.iload_n 1, 1) := by decide +kernel
theorem dX8_add_25 : decode cX8_add 25 = .ok (.aload_n 0, 1) := by decide +kernel
theorem dX8_add_26 : decode cX8_add 26 = .ok (.getfield 25, 3) := by decide +kernel
theorem dX8_add_29 : decode cX8_add 29 = .ok (.iastore, 1) := by decide +kernel
theorem dX8_add_30 : decode cX8_add 30 = .ok (.aload_n 0, 1) := by decide +kernel
theorem dX8_add_31 : decode cX8_add 31 = .ok (.aload_n 0, 1) := by decide +kernel
theorem dX8_add_32 : decode cX8_add 32 = .ok (.getfield 25, 3) := by decide +kernel
theorem dX8_add_35 : decode cX8_add 35 = .ok (.iconst 0, 1) := by decide +kernel
theorem dX8_add_36 : decode cX8_add 36 = .ok (.iload_n 1, 1) := by decide +kernel
theorem dX8_add_37 : decode cX8_add 37 = .ok (.invokevirtual 35, 3) := by decide +kernel
theorem dX8_add_40 : decode cX8_add 40 = .ok (.aload_n 0, 1) := by decide +kernel
theorem dX8_add_41 : decode cX8_add 41 = .ok (.dup, 1) := by decide +kernel
theorem dX8_add_42 : decode cX8_add 42 = .ok (.getfield 25, 3) := by decide +kernel
theorem dX8_add_45 : decode cX8_add 45 = .ok (.iconst 1, 1) := by decide +kernel
theorem dX8_add_46 : decode cX8_add 46 = .ok (.iadd, 1) := by decide +kernel
theorem dX8_add_47 : decode cX8_add 47 = .ok (.putfield 25, 3) := by decide +kernel
theorem dX8_add_50 : decode cX8_add 50 = .ok (.return_, 1) := by decide +kernel
theorem dX8_cellAt_0 : decode cX8_cellAt 0 = .ok (.iload_n 2, 1) := by decide +kernel
theorem dX8_cellAt_1 : decode cX8_cellAt 1 = .ok (.aload_n 0, 1) := by decide +kernel
theorem dX8_cellAt_2 : decode cX8_cellAt 2 = .ok (.getfield 19, 3) := by decide +kernel
theorem dX8_cellAt_5 : decode cX8_cellAt 5 = .ok (.iload_n 1, 1) := by decide +kernel
theorem dX8_cellAt_6 : decode cX8_cellAt 6 = .ok (.iaload, 1) := by decide +kernel
theorem dX8_cellAt_7 : decode cX8_cellAt 7 = .ok (.if_icmp .lt 12, 3) := by decide +kernel
theorem dX8_cellAt_10 : decode cX8_cellAt 10 = .ok (.aload_n 0, 1) := by decide +kernel
theorem dX8_cellAt_11 : decode cX8_cellAt 11 = .ok (.getfield 15, 3) := by decide +kernel
theorem dX8_cellAt_14 : decode cX8_cellAt 14 = .ok (.iload_n 1, 1) := by decide +kernel
theorem dX8_cellAt_15 : decode cX8_cellAt 15 = .ok (.iaload, 1) := by decide +kernel
theorem dX8_cellAt_16 : decode cX8_cellAt 16 = .ok (.goto 19, 3) := by decide +kernel
theorem dX8_cellAt_19 : decode cX8_cellAt 19 = .ok (.aload_n 0, 1) := by decide +kernel
theorem dX8_cellAt_20 : decode cX8_cellAt 20 = .ok (.getfield 9, 3) := by decide +kernel
theorem dX8_cellAt_23 : decode cX8_cellAt 23 = .ok (.iload_n 2, 1) := by decide +kernel
theorem dX8_cellAt_24 : decode cX8_cellAt 24 = .ok (.laload, 1) := by decide +kernel
theorem dX8_cellAt_25 : decode cX8_cellAt 25 = .ok (.bipush 8, 2) := by decide +kernel
theorem dX8_cellAt_27 : decode cX8_cellAt 27 = .ok (.iload_n 1, 1) := by decide +kernel
theorem dX8_cellAt_28 : decode cX8_cellAt 28 = .ok (.imul, 1) := by decide +kernel
theorem dX8_cellAt_29 : decode cX8_cellAt 29 = .ok (.lushr, 1) := by decide +kernel
theorem dX8_cellAt_30 : decode cX8_cellAt 30 = .ok (.l2i, 1) := by decide +kernel
theorem dX8_cellAt_31 : decode cX8_cellAt 31 = .ok (.sipush 255, 3) := by decide +kernel
theorem dX8_cellAt_34 : decode cX8_cellAt 34 = .ok (.iand, 1) := by decide +kernel
theorem dX8_cellAt_35 : decode cX8_cellAt 35 = .ok (.ireturn, 1) := by decide +kernel
theorem dX8_write_0 : decode cX8_write 0 = .ok (.bipush 8, 2) := by decide +kernel
theorem dX8_write_2 : decode cX8_write 2 = .ok (.iload_n 1, 1) := by decide +kernel
theorem dX8_write_3 : decode cX8_write 3 = .ok (.imul, 1) := by decide +kernel
theorem dX8_write_4 : decode cX8_write 4 = .ok (.istore 4, 2) := by decide +kernel
theorem dX8_write_6 : decode cX8_write 6 = .ok (.aload_n 0, 1) := by decide +kernel
theorem dX8_write_7 : decode cX8_write 7 = .ok (.getfield 9, 3) := by decide +kernel
theorem dX8_write_10 : decode cX8_write 10 = .ok (.iload_n 2, 1) := by decide +kernel
theorem dX8_write_11 : decode cX8_write 11 = .ok (.aload_n 0, 1) := by decide +kernel
theorem dX8_write_12 : decode cX8_write 12 = .ok (.getfield 9, 3) := by decide +kernel
theorem dX8_write_15 : decode cX8_write 15 = .ok (.iload_n 2, 1) := by decide +kernel
theorem dX8_write_16 : decode cX8_write 16 = .ok (.laload, 1) := by decide +kernel
theorem dX8_write_17 : decode cX8_write 17 = .ok (.ldc2_w 39, 3) := by decide +kernel
theorem dX8_write_20 : decode cX8_write 20 = .ok (.iload 4, 2) := by decide +kernel
theorem dX8_write_22 : decode cX8_write 22 = .ok (.lshl, 1) := by decide +kernel
theorem dX8_write_23 : decode cX8_write 23 = .ok (.ldc2_w 41, 3) := by decide +kernel
theorem dX8_write_26 : decode cX8_write 26 = .ok (.lxor, 1) := by decide +kernel
theorem dX8_write_27 : decode cX8_write 27 = .ok (.land, 1) := by decide +kernel
theorem dX8_write_28 : decode cX8_write 28 = .ok (.iload_n 3, 1) := by decide +kernel
theorem dX8_write_29 : decode cX8_write 29 = .ok (.i2l, 1) := by decide +kernel
theorem dX8_write_30 : decode cX8_write 30 = .ok (.iload 4, 2) := by decide +kernel
theorem dX8_write_32 : decode cX8_write 32 = .ok (.lshl, 1) := by decide +kernel
theorem dX8_write_33 : decode cX8_write 33 = .ok (.lor, 1) := by decide +kernel
theorem dX8_write_34 : decode cX8_write 34 = .ok (.lastore, 1) := by decide +kernel
theorem dX8_write_35 : decode cX8_write 35 = .ok (.return_, 1) := by decide +kernel
theorem dX8_setEnd_0 : decode cX8_setEnd 0 = .ok (.aload_n 0, 1) := by decide +kernel
theorem dX8_setEnd_1 : decode cX8_setEnd 1 = .ok (.getfield 22, 3) := by decide +kernel
theorem dX8_setEnd_4 : decode cX8_setEnd 4 = .ok (.aload_n 0, 1) := by decide +kernel
theorem dX8_setEnd_5 : decode cX8_setEnd 5 = .ok (.getfield 15, 3) := by decide +kernel
theorem dX8_setEnd_8 : decode cX8_setEnd 8 = .ok (.iload_n 1, 1) := by decide +kernel
theorem dX8_setEnd_9 : decode cX8_setEnd 9 = .ok (.iaload, 1) := by decide +kernel
theorem dX8_setEnd_10 : decode cX8_setEnd 10 = .ok (.iconst (-1), 1) := by decide +kernel
theorem dX8_setEnd_11 : decode cX8_setEnd 11 = .ok (.iastore, 1) := by decide +kernel
theorem dX8_setEnd_12 : decode cX8_setEnd 12 = .ok (.aload_n 0, 1) := by decide +kernel
theorem dX8_setEnd_13 : decode cX8_setEnd 13 = .ok (.getfield 22, 3) := by decide +kernel
theorem dX8_setEnd_16 : decode cX8_setEnd 16 = .ok (.iload_n 3, 1) := by decide +kernel
theorem dX8_setEnd_17 : decode cX8_setEnd 17 = .ok (.iload_n 1, 1) := by decide +kernel
theorem dX8_setEnd_18 : decode cX8_setEnd 18 = .ok (.iastore, 1) := by decide +kernel
theorem dX8_setEnd_19 : decode cX8_setEnd 19 = .ok (.aload_n 0, 1) := by decide +kernel
theorem dX8_setEnd_20 : decode cX8_setEnd 20 = .ok (.getfield 15, 3) := by decide +kernel
theorem dX8_setEnd_23 : decode cX8_setEnd 23 = .ok (.iload_n 1, 1) := by decide +kernel
theorem dX8_setEnd_24 : decode cX8_setEnd 24 = .ok (.iload_n 3, 1) := by decide +kernel
theorem dX8_setEnd_25 : decode cX8_setEnd 25 = .ok (.iastore, 1) := by decide +kernel
theorem dX8_setEnd_26 : decode cX8_setEnd 26 = .ok (.aload_n 0, 1) := by decide +kernel
theorem dX8_setEnd_27 : decode cX8_setEnd 27 = .ok (.getfield 19, 3) := by decide +kernel
theorem dX8_setEnd_30 : decode cX8_setEnd 30 = .ok (.iload_n 1, 1) := by decide +kernel
theorem dX8_setEnd_31 : decode cX8_setEnd 31 = .ok (.iload_n 2, 1) := by decide +kernel
theorem dX8_setEnd_32 : decode cX8_setEnd 32 = .ok (.iastore, 1) := by decide +kernel
theorem dX8_setEnd_33 : decode cX8_setEnd 33 = .ok (.return_, 1) := by decide +kernel
theorem dX8_keep_0 : decode cX8_keep 0 = .ok (.aload_n 0, 1) := by decide +kernel
theorem dX8_keep_1 : decode cX8_keep 1 = .ok (.iload_n 1, 1) := by decide +kernel
theorem dX8_keep_2 : decode cX8_keep 2 = .ok (.iload_n 2, 1) := by decide +kernel
theorem dX8_keep_3 : decode cX8_keep 3 = .ok (.aload_n 0, 1) := by decide +kernel
theorem dX8_keep_4 : decode cX8_keep 4 = .ok (.iload_n 1, 1) := by decide +kernel
theorem dX8_keep_5 : decode cX8_keep 5 = .ok (.iload_n 2, 1) := by decide +kernel
theorem dX8_keep_6 : decode cX8_keep 6 = .ok (.invokevirtual 43, 3) := by decide +kernel
theorem dX8_keep_9 : decode cX8_keep 9 = .ok (.invokevirtual 35, 3) := by decide +kernel
theorem dX8_keep_12 : decode cX8_keep 12 = .ok (.return_, 1) := by decide +kernel
end
section
theorem dX9_init_0 : decode cX9_init 0 = .ok (.aload_n 0, 1) := by decide +kernel
theorem dX9_init_1 : decode cX9_init 1 = .ok (.invokespecial 3, 3) := by decide +kernel
theorem dX9_init_4 : decode cX9_init 4 = .ok (.aload_n 0, 1) := by decide +kernel
theorem dX9_init_5 : decode cX9_init 5 = .ok (.sipush 4004, 3) := by decide +kernel
theorem dX9_init_8 : decode cX9_init 8 = .ok (.newarray .long, 2) := by decide +kernel
theorem dX9_init_10 : decode cX9_init 10 = .ok (.putfield 9, 3) := by decide +kernel
theorem dX9_init_13 : decode cX9_init 13 = .ok (.aload_n 0, 1) := by decide +kernel
theorem dX9_init_14 : decode cX9_init 14 = .ok (.bipush 10, 2) := by decide +kernel
theorem dX9_init_16 : decode cX9_init 16 = .ok (.newarray .long, 2) := by decide +kernel
theorem dX9_init_18 : decode cX9_init 18 = .ok (.putfield 15, 3) := by decide +kernel
theorem dX9_init_21 : decode cX9_init 21 = .ok (.aload_n 0, 1) := by decide +kernel
theorem dX9_init_22 : decode cX9_init 22 = .ok (.aload_n 1, 1) := by decide +kernel
theorem dX9_init_23 : decode cX9_init 23 = .ok (.putfield 18, 3) := by decide +kernel
theorem dX9_init_26 : decode cX9_init 26 = .ok (.aload_n 0, 1) := by decide +kernel
theorem dX9_init_27 : decode cX9_init 27 = .ok (.aload_n 2, 1) := by decide +kernel
theorem dX9_init_28 : decode cX9_init 28 = .ok (.putfield 22, 3) := by decide +kernel
theorem dX9_init_31 : decode cX9_init 31 = .ok (.return_, 1) := by decide +kernel
theorem dX9_begin_0 : decode cX9_begin 0 = .ok (.aload_n 0, 1) := by decide +kernel
theorem dX9_begin_1 : decode cX9_begin 1 = .ok (.aload_n 1, 1) := by decide +kernel
theorem dX9_begin_2 : decode cX9_begin 2 = .ok (.putfield 18, 3) := by decide +kernel
theorem dX9_begin_5 : decode cX9_begin 5 = .ok (.return_, 1) := by decide +kernel
theorem dX9_find_0 : decode cX9_find 0 = .ok (.aload_n 0, 1) := by decide +kernel
theorem dX9_find_1 : decode cX9_find 1 = .ok (.iload_n 1, 1) := by decide +kernel
theorem dX9_find_2 : decode cX9_find 2 = .ok (.putfield 26, 3) := by decide +kernel
theorem dX9_find_5 : decode cX9_find 5 = .ok (.aload_n 0, 1) := by decide +kernel
theorem dX9_find_6 : decode cX9_find 6 = .ok (.iload_n 2, 1) := by decide +kernel
theorem dX9_find_7 : decode cX9_find 7 = .ok (.putfield 30, 3) := by decide +kernel
theorem dX9_find_10 : decode cX9_find 10 = .ok (.aload_n 0, 1) := by decide +kernel
theorem dX9_find_11 : decode cX9_find 11 = .ok (.iload_n 3, 1) := by decide +kernel
theorem dX9_find_12 : decode cX9_find 12 = .ok (.putfield 33, 3) := by decide +kernel
theorem dX9_find_15 : decode cX9_find 15 = .ok (.aload_n 0, 1) := by decide +kernel
theorem dX9_find_16 : decode cX9_find 16 = .ok (.iload 4, 2) := by decide +kernel
theorem dX9_find_18 : decode cX9_find 18 = .ok (.putfield 36, 3) := by decide +kernel
theorem dX9_find_21 : decode cX9_find 21 = .ok (.aload_n 0, 1) := by decide +kernel
theorem dX9_find_22 : decode cX9_find 22 = .ok (.getfield 22, 3) := by decide +kernel
theorem dX9_find_25 : decode cX9_find 25 = .ok (.aload_n 0, 1) := by decide +kernel
theorem dX9_find_26 : decode cX9_find 26 = .ok (.getfield 26, 3) := by decide +kernel
theorem dX9_find_29 : decode cX9_find 29 = .ok (.aload_n 0, 1) := by decide +kernel
theorem dX9_find_30 : decode cX9_find 30 = .ok (.getfield 30, 3) := by decide +kernel
theorem dX9_find_33 : decode cX9_find 33 = .ok (.invokevirtual 39, 3) := by decide +kernel
theorem dX9_find_36 : decode cX9_find 36 = .ok (.istore 5, 2) := by decide +kernel
theorem dX9_find_38 : decode cX9_find 38 = .ok (.aload_n 0, 1) := by decide +kernel
theorem dX9_find_39 : decode cX9_find 39 = .ok (.getfield 33, 3) := by decide +kernel
theorem dX9_find_42 : decode cX9_find 42 = .ok (.iconst (-1), 1) := by decide +kernel
theorem dX9_find_43 : decode cX9_find 43 = .ok (.if_icmp .eq 12, 3) := by decide +kernel
theorem dX9_find_46 : decode cX9_find 46 = .ok (.aload_n 0, 1) := by decide +kernel
theorem dX9_find_47 : decode cX9_find 47 = .ok (.getfield 33, 3) := by decide +kernel
theorem dX9_find_50 : decode cX9_find 50 = .ok (.iload 5, 2) := by decide +kernel
theorem dX9_find_52 : decode cX9_find 52 = .ok (.if_icmp .ne 7, 3) := by decide +kernel
theorem dX9_find_55 : decode cX9_find 55 = .ok (.iconst 1, 1) := by decide +kernel
theorem dX9_find_56 : decode cX9_find 56 = .ok (.goto 4, 3) := by decide +kernel
theorem dX9_find_59 : decode cX9_find 59 = .ok (.iconst 0, 1) := by decide +kernel
theorem dX9_find_60 : decode cX9_find 60 = .ok (.istore 6, 2) := by decide +kernel
theorem dX9_find_62 : decode cX9_find 62 = .ok (.aload_n 0, 1) := by decide +kernel
theorem dX9_find_63 : decode cX9_find 63 = .ok (.iconst 0, 1) := by decide +kernel
theorem dX9_find_64 : decode cX9_find 64 = .ok (.invokevirtual 45, 3) := by decide +kernel
theorem dX9_find_67 : decode cX9_find 67 = .ok (.aload_n 0, 1) := by decide +kernel
theorem dX9_find_68 : decode cX9_find 68 = .ok (.iconst 2, 1) := by decide +kernel
theorem dX9_find_69 : decode cX9_find 69 = .ok (.iload 6, 2) := by decide +kernel
theorem dX9_find_71 : decode cX9_find 71 = .ok (.imul, 1) := by decide +kernel
theorem dX9_find_72 : decode cX9_find 72 = .ok (.iload 5, 2) := by decide +kernel
theorem dX9_find_74 : decode cX9_find 74 = .ok (.invokevirtual 49, 3) := by decide +kernel
theorem dX9_find_77 : decode cX9_find 77 = .ok (.aload_n 0, 1) := by decide +kernel
theorem dX9_find_78 : decode cX9_find 78 = .ok (.invokevirtual 53, 3) := by decide +kernel
theorem dX9_find_81 : decode cX9_find 81 = .ok (.istore 7, 2) := by decide +kernel
theorem dX9_find_83 : decode cX9_find 83 = .ok (.iload 7, 2) := by decide +kernel
theorem dX9_find_85 : decode cX9_find 85 = .ok (.iconst (-1), 1) := by decide +kernel
theorem dX9_find_86 : decode cX9_find 86 = .ok (.if_icmp .ne 5, 3) := by decide +kernel
theorem dX9_find_89 : decode cX9_find 89 = .ok (.iconst (-1), 1) := by decide +kernel
theorem dX9_find_90 : decode cX9_find 90 = .ok (.ireturn, 1) := by decide +kernel
theorem dX9_find_91 : decode cX9_find 91 = .ok (.aload_n 0, 1) := by decide +kernel
theorem dX9_find_92 : decode cX9_find 92 = .ok (.iload 7, 2) := by decide +kernel
theorem dX9_find_94 : decode cX9_find 94 = .ok (.invokevirtual 45, 3) := by decide +kernel
theorem dX9_find_97 : decode cX9_find 97 = .ok (.aload_n 0, 1) := by decide +kernel
theorem dX9_find_98 : decode cX9_find 98 = .ok (.iconst 4, 1) := by decide +kernel
theorem dX9_find_99 : decode cX9_find 99 = .ok (.iload 7, 2) := by decide +kernel
theorem dX9_find_101 : decode cX9_find 101 = .ok (.imul, 1) := by decide +kernel
theorem dX9_find_102 : decode cX9_find 102 = .ok (.iconst 2, 1) := by decide +kernel
theorem dX9_find_103 : decode cX9_find 103 = .ok (.iadd, 1) := by decide +kernel
theorem dX9_find_104 : decode cX9_find 104 = .ok (.aload_n 0, 1) := by decide +kernel
theorem dX9_find_105 : decode cX9_find 105 = .ok (.getfield 36, 3) := by decide +kernel
theorem dX9_find_108 : decode cX9_find 108 = .ok (.invokevirtual 49, 3) := by decide +kernel
theorem dX9_find_111 : decode cX9_find 111 = .ok (.iload 7, 2) := by decide +kernel
theorem dX9_find_113 : decode cX9_find 113 = .ok (.iconst 1, 1) := by decide +kernel
theorem dX9_find_114 : decode cX9_find 114 = .ok (.isub, 1) := by decide +kernel
theorem dX9_find_115 : decode cX9_find 115 = .ok (.istore 8, 2) := by decide +kernel
theorem dX9_find_117 : decode cX9_find 117 = .ok (.iload 8, 2) := by decide +kernel
theorem dX9_find_119 : decode cX9_find 119 = .ok (.ifCond .le 21, 3) := by decide +kernel
theorem dX9_find_122 : decode cX9_find 122 = .ok (.aload_n 0, 1) := by decide +kernel
theorem dX9_find_123 : decode cX9_find 123 = .ok (.iload 8, 2) := by decide +kernel
theorem dX9_find_125 : decode cX9_find 125 = .ok (.invokevirtual 57, 3) := by decide +kernel
theorem dX9_find_128 : decode cX9_find 128 = .ok (.aload_n 0, 1) := by decide +kernel
theorem dX9_find_129 : decode cX9_find 129 = .ok (.iload 8, 2) := by decide +kernel
theorem dX9_find_131 : decode cX9_find 131 = .ok (.invokevirtual 60, 3) := by decide +kernel
theorem dX9_find_134 : decode cX9_find 134 = .ok (.iinc 8 (-1), 3) := by decide +kernel
theorem dX9_find_137 : decode cX9_find 137 = .ok (.goto (-20), 3) := by decide +kernel
theorem dX9_find_140 : decode cX9_find 140 = .ok (.aload_n 0, 1) := by decide +kernel
theorem dX9_find_141 : decode cX9_find 141 = .ok (.iload 5, 2) := by decide +kernel
theorem dX9_find_143 : decode cX9_find 143 = .ok (.iload 6, 2) := by decide +kernel
theorem dX9_find_145 : decode cX9_find 145 = .ok (.iload 7, 2) := by decide +kernel
theorem dX9_find_147 : decode cX9_find 147 = .ok (.invokevirtual 63, 3) := by decide +kernel
theorem dX9_find_150 : decode cX9_find 150 = .ok (.iload 7, 2) := by decide +kernel
theorem dX9_find_152 : decode cX9_find 152 = .ok (.ireturn, 1) := by decide +kernel
theorem dX9_reachGoal_0 : decode cX9_reachGoal 0 = .ok (.aload_n 0, 1) := by decide +kernel
theorem dX9_reachGoal_1 : decode cX9_reachGoal 1 = .ok (.invokevirtual 67, 3) := by decide +kernel
theorem dX9_reachGoal_4 : decode cX9_reachGoal 4 = .ok (.istore_n 1, 1) := by decide +kernel
theorem dX9_reachGoal_5 : decode cX9_reachGoal 5 = .ok (.iconst 0, 1) := by decide +kernel
theorem dX9_reachGoal_6 : decode cX9_reachGoal 6 = .ok (.istore_n 2, 1) := by decide +kernel
theorem dX9_reachGoal_7 : decode cX9_reachGoal 7 = .ok (.iload_n 2, 1) := by decide +kernel
theorem dX9_reachGoal_8 : decode cX9_reachGoal 8 = .ok (.sipush 1000, 3) := by decide +kernel
theorem dX9_reachGoal_11 : decode cX9_reachGoal 11 = .ok (.if_icmp .ge 42, 3) := by decide +kernel
theorem dX9_reachGoal_14 : decode cX9_reachGoal 14 = .ok (.iload_n 2, 1) := by decide +kernel
theorem dX9_reachGoal_15 : decode cX9_reachGoal 15 = .ok (.iload_n 1, 1) := by decide +kernel
theorem dX9_reachGoal_16 : decode cX9_reachGoal 16 = .ok (.if_icmp .lt 21, 3) := by decide +kernel
theorem dX9_reachGoal_19 : decode cX9_reachGoal 19 = .ok (.aload_n 0, 1) := by decide +kernel
theorem dX9_reachGoal_20 : decode cX9_reachGoal 20 = .ok (.iconst 4, 1) := by decide +kernel
theorem dX9_reachGoal_21 : decode cX9_reachGoal 21 = .ok (.iload_n 2, 1) := by decide +kernel
theorem dX9_reachGoal_22 : decode cX9_reachGoal 22 = .ok (.imul, 1) := by decide +kernel
theorem dX9_reachGoal_23 : decode cX9_reachGoal 23 = .ok (.iconst 2, 1) := by decide +kernel
theorem dX9_reachGoal_24 : decode cX9_reachGoal 24 = .ok (.iadd, 1) := by decide +kernel
theorem dX9_reachGoal_25 : decode cX9_reachGoal 25 = .ok (.aload_n 0, 1) := by decide +kernel
theorem dX9_reachGoal_26 : decode cX9_reachGoal 26 = .ok (.getfield 36, 3) := by decide +kernel
theorem dX9_reachGoal_29 : decode cX9_reachGoal 29 = .ok (.invokevirtual 70, 3) := by decide +kernel
theorem dX9_reachGoal_32 : decode cX9_reachGoal 32 = .ok (.ifCond .eq 5, 3) := by decide +kernel
theorem dX9_reachGoal_35 : decode cX9_reachGoal 35 = .ok (.iload_n 2, 1) := by decide +kernel
theorem dX9_reachGoal_36 : decode cX9_reachGoal 36 = .ok (.ireturn, 1) := by decide +kernel
theorem dX9_reachGoal_37 : decode cX9_reachGoal 37 = .ok (.aload_n 0, 1) := by decide +kernel
theorem dX9_reachGoal_38 : decode cX9_reachGoal 38 = .ok (.iload_n 2, 1) := by decide +kernel
theorem dX9_reachGoal_39 : decode cX9_reachGoal 39 = .ok (.invokevirtual 57, 3) := by decide +kernel
theorem dX9_reachGoal_42 : decode cX9_reachGoal 42 = .ok (.aload_n 0, 1) := by decide +kernel
theorem dX9_reachGoal_43 : decode cX9_reachGoal 43 = .ok (.iload_n 2, 1) := by decide +kernel
theorem dX9_reachGoal_44 : decode cX9_reachGoal 44 = .ok (.invokevirtual 74, 3) := by decide +kernel
theorem dX9_reachGoal_47 : decode cX9_reachGoal 47 = .ok (.iinc 2 1, 3) := by decide +kernel
theorem dX9_reachGoal_50 : decode cX9_reachGoal 50 = .ok (.goto (-43), 3) := by decide +kernel
theorem dX9_reachGoal_53 : decode cX9_reachGoal 53 = .ok (.iconst (-1), 1) := by decide +kernel
theorem dX9_reachGoal_54 : decode cX9_reachGoal 54 = .ok (.ireturn, 1) := by decide +kernel
theorem dX9_ticksUntilGoalIsClear_0 : decode cX9_ticksUntilGoalIsClear 0 = .ok (.iconst 0, 1) := by decide +kernel
theorem dX9_ticksUntilGoalIsClear_1 : decode cX9_ticksUntilGoalIsClear 1 = .ok (.istore_n 1, 1) := by decide +kernel
theorem dX9_ticksUntilGoalIsClear_2 : decode cX9_ticksUntilGoalIsClear 2 = .ok (.iconst 0, 1) := by decide +kernel
theorem dX9_ticksUntilGoalIsClear_3 : decode cX9_ticksUntilGoalIsClear 3 = .ok (.istore_n 2, 1) := by decide +kernel
theorem dX9_ticksUntilGoalIsClear_4 : decode cX9_ticksUntilGoalIsClear 4 = .ok (.iload_n 2, 1) := by decide +kernel
theorem dX9_ticksUntilGoalIsClear_5 : decode cX9_ticksUntilGoalIsClear 5 = .ok (.aload_n 0, 1) := by decide +kernel
theorem dX9_ticksUntilGoalIsClear_6 : decode cX9_ticksUntilGoalIsClear 6 = .ok (.getfield 22, 3) := by decide +kernel
theorem dX9_ticksUntilGoalIsClear_9 : decode cX9_ticksUntilGoalIsClear 9 = .ok (.invokevirtual 77, 3) := by decide +kernel
theorem dX9_ticksUntilGoalIsClear_12 : decode cX9_ticksUntilGoalIsClear 12 = .ok (.if_icmp .ge 69, 3) := by decide +kernel
theorem dX9_ticksUntilGoalIsClear_15 : decode cX9_ticksUntilGoalIsClear 15 = .ok (.aload_n 0, 1) := by decide +kernel
theorem dX9_ticksUntilGoalIsClear_16 : decode cX9_ticksUntilGoalIsClear 16 = .ok (.getfield 22, 3) := by decide +kernel
theorem dX9_ticksUntilGoalIsClear_19 : decode cX9_ticksUntilGoalIsClear 19 = .ok (.iload_n 2, 1) := by decide +kernel
theorem dX9_ticksUntilGoalIsClear_20 : decode cX9_ticksUntilGoalIsClear 20 = .ok (.invokevirtual 80, 3) := by decide +kernel
theorem dX9_ticksUntilGoalIsClear_23 : decode cX9_ticksUntilGoalIsClear 23 = .ok (.iconst 1, 1) := by decide +kernel
theorem dX9_ticksUntilGoalIsClear_24 : decode cX9_ticksUntilGoalIsClear 24 = .ok (.isub, 1) := by decide +kernel
theorem dX9_ticksUntilGoalIsClear_25 : decode cX9_ticksUntilGoalIsClear 25 = .ok (.istore_n 3, 1) := by decide +kernel
theorem dX9_ticksUntilGoalIsClear_26 : decode cX9_ticksUntilGoalIsClear 26 = .ok (.iload_n 2, 1) := by decide +kernel
theorem dX9_ticksUntilGoalIsClear_27 : decode cX9_ticksUntilGoalIsClear 27 = .ok (.aload_n 0, 1) := by decide +kernel
theorem dX9_ticksUntilGoalIsClear_28 : decode cX9_ticksUntilGoalIsClear 28 = .ok (.getfield 26, 3) := by decide +kernel
theorem dX9_ticksUntilGoalIsClear_31 : decode cX9_ticksUntilGoalIsClear 31 = .ok (.if_icmp .eq 44, 3) := by decide +kernel
theorem dX9_ticksUntilGoalIsClear_34 : decode cX9_ticksUntilGoalIsClear 34 = .ok (.iload_n 3, 1) := by decide +kernel
theorem dX9_ticksUntilGoalIsClear_35 : decode cX9_ticksUntilGoalIsClear 35 = .ok (.aload_n 0, 1) := by decide +kernel
theorem dX9_ticksUntilGoalIsClear_36 : decode cX9_ticksUntilGoalIsClear 36 = .ok (.getfield 30, 3) := by decide +kernel
theorem dX9_ticksUntilGoalIsClear_39 : decode cX9_ticksUntilGoalIsClear 39 = .ok (.iload_n 1, 1) := by decide +kernel
theorem dX9_ticksUntilGoalIsClear_40 : decode cX9_ticksUntilGoalIsClear 40 = .ok (.iadd, 1) := by decide +kernel
theorem dX9_ticksUntilGoalIsClear_41 : decode cX9_ticksUntilGoalIsClear 41 = .ok (.if_icmp .lt 34, 3) := by decide +kernel
theorem dX9_ticksUntilGoalIsClear_44 : decode cX9_ticksUntilGoalIsClear 44 = .ok (.aload_n 0, 1) := by decide +kernel
theorem dX9_ticksUntilGoalIsClear_45 : decode cX9_ticksUntilGoalIsClear 45 = .ok (.getfield 22, 3) := by decide +kernel
theorem dX9_ticksUntilGoalIsClear_48 : decode cX9_ticksUntilGoalIsClear 48 = .ok (.iload_n 2, 1) := by decide +kernel
theorem dX9_ticksUntilGoalIsClear_49 : decode cX9_ticksUntilGoalIsClear 49 = .ok (.iload_n 3, 1) := by decide +kernel
theorem dX9_ticksUntilGoalIsClear_50 : decode cX9_ticksUntilGoalIsClear 50 = .ok (.invokevirtual 39, 3) := by decide +kernel
theorem dX9_ticksUntilGoalIsClear_53 : decode cX9_ticksUntilGoalIsClear 53 = .ok (.aload_n 0, 1) := by decide +kernel
theorem dX9_ticksUntilGoalIsClear_54 : decode cX9_ticksUntilGoalIsClear 54 = .ok (.getfield 36, 3) := by decide +kernel
theorem dX9_ticksUntilGoalIsClear_57 : decode cX9_ticksUntilGoalIsClear 57 = .ok (.if_icmp .ne 12, 3) := by decide +kernel
theorem dX9_ticksUntilGoalIsClear_60 : decode cX9_ticksUntilGoalIsClear 60 = .ok (.iload_n 3, 1) := by decide +kernel
theorem dX9_ticksUntilGoalIsClear_61 : decode cX9_ticksUntilGoalIsClear 61 = .ok (.iconst 1, 1) := by decide +kernel
theorem dX9_ticksUntilGoalIsClear_62 : decode cX9_ticksUntilGoalIsClear 62 = .ok (.iadd, 1) := by decide +kernel
theorem dX9_ticksUntilGoalIsClear_63 : decode cX9_ticksUntilGoalIsClear 63 = .ok (.aload_n 0, 1) := by decide +kernel
theorem dX9_ticksUntilGoalIsClear_64 : decode cX9_ticksUntilGoalIsClear 64 = .ok (.getfield 30, 3) := by decide +kernel
theorem dX9_ticksUntilGoalIsClear_67 : decode cX9_ticksUntilGoalIsClear 67 = .ok (.isub, 1) := by decide +kernel
theorem dX9_ticksUntilGoalIsClear_68 : decode cX9_ticksUntilGoalIsClear 68 = .ok (.istore_n 1, 1) := by decide +kernel
theorem dX9_ticksUntilGoalIsClear_69 : decode cX9_ticksUntilGoalIsClear 69 = .ok (.iinc 3 (-1), 3) := by decide +kernel
theorem dX9_ticksUntilGoalIsClear_72 : decode cX9_ticksUntilGoalIsClear 72 = .ok (.goto (-46), 3) := by decide +kernel
theorem dX9_ticksUntilGoalIsClear_75 : decode cX9_ticksUntilGoalIsClear 75 = .ok (.iinc 2 1, 3) := by decide +kernel
theorem dX9_ticksUntilGoalIsClear_78 : decode cX9_ticksUntilGoalIsClear 78 = .ok (.goto (-74), 3) := by decide +kernel
theorem dX9_ticksUntilGoalIsClear_81 : decode cX9_ticksUntilGoalIsClear 81 = .ok (.iload_n 1, 1) := by decide +kernel
theorem dX9_ticksUntilGoalIsClear_82 : decode cX9_ticksUntilGoalIsClear 82 = .ok (.ireturn, 1) := by decide +kernel
theorem dX9_lookAtOthers_0 : decode cX9_lookAtOthers 0 = .ok (.aload_n 0, 1) := by decide +kernel
theorem dX9_lookAtOthers_1 : decode cX9_lookAtOthers 1 = .ok (.getfield 18, 3) := by decide +kernel
theorem dX9_lookAtOthers_4 : decode cX9_lookAtOthers 4 = .ok (.getfield 84, 3) := by decide +kernel
theorem dX9_lookAtOthers_7 : decode cX9_lookAtOthers 7 = .ok (.iconst 0, 1) := by decide +kernel
theorem dX9_lookAtOthers_8 : decode cX9_lookAtOthers 8 = .ok (.aload_n 0, 1) := by decide +kernel
theorem dX9_lookAtOthers_9 : decode cX9_lookAtOthers 9 = .ok (.getfield 15, 3) := by decide +kernel
theorem dX9_lookAtOthers_12 : decode cX9_lookAtOthers 12 = .ok (.iconst 0, 1) := by decide +kernel
theorem dX9_lookAtOthers_13 : decode cX9_lookAtOthers 13 = .ok (.bipush 10, 2) := by decide +kernel
theorem dX9_lookAtOthers_15 : decode cX9_lookAtOthers 15 = .ok (.invokestatic 89, 3) := by decide +kernel
theorem dX9_lookAtOthers_18 : decode cX9_lookAtOthers 18 = .ok (.aload_n 0, 1) := by decide +kernel
theorem dX9_lookAtOthers_19 : decode cX9_lookAtOthers 19 = .ok (.lconst 0, 1) := by decide +kernel
theorem dX9_lookAtOthers_20 : decode cX9_lookAtOthers 20 = .ok (.putfield 95, 3) := by decide +kernel
theorem dX9_lookAtOthers_23 : decode cX9_lookAtOthers 23 = .ok (.aload_n 0, 1) := by decide +kernel
theorem dX9_lookAtOthers_24 : decode cX9_lookAtOthers 24 = .ok (.lconst 0, 1) := by decide +kernel
theorem dX9_lookAtOthers_25 : decode cX9_lookAtOthers 25 = .ok (.putfield 99, 3) := by decide +kernel
theorem dX9_lookAtOthers_28 : decode cX9_lookAtOthers 28 = .ok (.iconst 0, 1) := by decide +kernel
theorem dX9_lookAtOthers_29 : decode cX9_lookAtOthers 29 = .ok (.istore_n 2, 1) := by decide +kernel
theorem dX9_lookAtOthers_30 : decode cX9_lookAtOthers 30 = .ok (.iload_n 2, 1) := by decide +kernel
theorem dX9_lookAtOthers_31 : decode cX9_lookAtOthers 31 = .ok (.aload_n 0, 1) := by decide +kernel
theorem dX9_lookAtOthers_32 : decode cX9_lookAtOthers 32 = .ok (.getfield 22, 3) := by decide +kernel
theorem dX9_lookAtOthers_35 : decode cX9_lookAtOthers 35 = .ok (.invokevirtual 77, 3) := by decide +kernel
theorem dX9_lookAtOthers_38 : decode cX9_lookAtOthers 38 = .ok (.if_icmp .ge 51, 3) := by decide +kernel
theorem dX9_lookAtOthers_41 : decode cX9_lookAtOthers 41 = .ok (.iload_n 2, 1) := by decide +kernel
theorem dX9_lookAtOthers_42 : decode cX9_lookAtOthers 42 = .ok (.aload_n 0, 1) := by decide +kernel
theorem dX9_lookAtOthers_43 : decode cX9_lookAtOthers 43 = .ok (.getfield 26, 3) := by decide +kernel
theorem dX9_lookAtOthers_46 : decode cX9_lookAtOthers 46 = .ok (.if_icmp .eq 37, 3) := by decide +kernel
theorem dX9_lookAtOthers_49 : decode cX9_lookAtOthers 49 = .ok (.aload_n 0, 1) := by decide +kernel
theorem dX9_lookAtOthers_50 : decode cX9_lookAtOthers 50 = .ok (.aload_n 0, 1) := by decide +kernel
theorem dX9_lookAtOthers_51 : decode cX9_lookAtOthers 51 = .ok (.getfield 22, 3) := by decide +kernel
theorem dX9_lookAtOthers_54 : decode cX9_lookAtOthers 54 = .ok (.iload_n 2, 1) := by decide +kernel
theorem dX9_lookAtOthers_55 : decode cX9_lookAtOthers 55 = .ok (.aload_n 0, 1) := by decide +kernel
theorem dX9_lookAtOthers_56 : decode cX9_lookAtOthers 56 = .ok (.getfield 30, 3) := by decide +kernel
theorem dX9_lookAtOthers_59 : decode cX9_lookAtOthers 59 = .ok (.iload_n 1, 1) := by decide +kernel
theorem dX9_lookAtOthers_60 : decode cX9_lookAtOthers 60 = .ok (.iadd, 1) := by decide +kernel
theorem dX9_lookAtOthers_61 : decode cX9_lookAtOthers 61 = .ok (.invokevirtual 39, 3) := by decide +kernel
theorem dX9_lookAtOthers_64 : decode cX9_lookAtOthers 64 = .ok (.aload_n 0, 1) := by decide +kernel
theorem dX9_lookAtOthers_65 : decode cX9_lookAtOthers 65 = .ok (.getfield 22, 3) := by decide +kernel
theorem dX9_lookAtOthers_68 : decode cX9_lookAtOthers 68 = .ok (.iload_n 2, 1) := by decide +kernel
theorem dX9_lookAtOthers_69 : decode cX9_lookAtOthers 69 = .ok (.aload_n 0, 1) := by decide +kernel
theorem dX9_lookAtOthers_70 : decode cX9_lookAtOthers 70 = .ok (.getfield 30, 3) := by decide +kernel
theorem dX9_lookAtOthers_73 : decode cX9_lookAtOthers 73 = .ok (.iload_n 1, 1) := by decide +kernel
theorem dX9_lookAtOthers_74 : decode cX9_lookAtOthers 74 = .ok (.iadd, 1) := by decide +kernel
theorem dX9_lookAtOthers_75 : decode cX9_lookAtOthers 75 = .ok (.iconst 1, 1) := by decide +kernel
theorem dX9_lookAtOthers_76 : decode cX9_lookAtOthers 76 = .ok (.iadd, 1) := by decide +kernel
theorem dX9_lookAtOthers_77 : decode cX9_lookAtOthers 77 = .ok (.invokevirtual 39, 3) := by decide +kernel
theorem dX9_lookAtOthers_80 : decode cX9_lookAtOthers 80 = .ok (.invokevirtual 102, 3) := by decide +kernel
theorem dX9_lookAtOthers_83 : decode cX9_lookAtOthers 83 = .ok (.iinc 2 1, 3) := by decide +kernel
theorem dX9_lookAtOthers_86 : decode cX9_lookAtOthers 86 = .ok (.goto (-56), 3) := by decide +kernel
theorem dX9_lookAtOthers_89 : decode cX9_lookAtOthers 89 = .ok (.return_, 1) := by decide +kernel
theorem dX9_avoid_0 : decode cX9_avoid 0 = .ok (.lconst 1, 1) := by decide +kernel
theorem dX9_avoid_1 : decode cX9_avoid 1 = .ok (.iload_n 2, 1) := by decide +kernel
theorem dX9_avoid_2 : decode cX9_avoid 2 = .ok (.lshl, 1) := by decide +kernel
theorem dX9_avoid_3 : decode cX9_avoid 3 = .ok (.lstore_n 3, 1) := by decide +kernel
theorem dX9_avoid_4 : decode cX9_avoid 4 = .ok (.iload_n 2, 1) := by decide +kernel
theorem dX9_avoid_5 : decode cX9_avoid 5 = .ok (.bipush 64, 2) := by decide +kernel
theorem dX9_avoid_7 : decode cX9_avoid 7 = .ok (.if_icmp .ge 16, 3) := by decide +kernel
theorem dX9_avoid_10 : decode cX9_avoid 10 = .ok (.aload_n 0, 1) := by decide +kernel
theorem dX9_avoid_11 : decode cX9_avoid 11 = .ok (.dup, 1) := by decide +kernel
theorem dX9_avoid_12 : decode cX9_avoid 12 = .ok (.getfield 95, 3) := by decide +kernel
theorem dX9_avoid_15 : decode cX9_avoid 15 = .ok (.lload_n 3, 1) := by decide +kernel
theorem dX9_avoid_16 : decode cX9_avoid 16 = .ok (.lor, 1) := by decide +kernel
theorem dX9_avoid_17 : decode cX9_avoid 17 = .ok (.putfield 95, 3) := by decide +kernel
theorem dX9_avoid_20 : decode cX9_avoid 20 = .ok (.goto 13, 3) := by decide +kernel
theorem dX9_avoid_23 : decode cX9_avoid 23 = .ok (.aload_n 0, 1) := by decide +kernel
theorem dX9_avoid_24 : decode cX9_avoid 24 = .ok (.dup, 1) := by decide +kernel
theorem dX9_avoid_25 : decode cX9_avoid 25 = .ok (.getfield 99, 3) := by decide +kernel
theorem dX9_avoid_28 : decode cX9_avoid 28 = .ok (.lload_n 3, 1) := by decide +kernel
theorem dX9_avoid_29 : decode cX9_avoid 29 = .ok (.lor, 1) := by decide +kernel
theorem dX9_avoid_30 : decode cX9_avoid 30 = .ok (.putfield 99, 3) := by decide +kernel
theorem dX9_avoid_33 : decode cX9_avoid 33 = .ok (.iconst 1, 1) := by decide +kernel
theorem dX9_avoid_34 : decode cX9_avoid 34 = .ok (.istore 5, 2) := by decide +kernel
theorem dX9_avoid_36 : decode cX9_avoid 36 = .ok (.iload 5, 2) := by decide +kernel
theorem dX9_avoid_38 : decode cX9_avoid 38 = .ok (.iconst 5, 1) := by decide +kernel
theorem dX9_avoid_39 : decode cX9_avoid 39 = .ok (.if_icmp .ge 47, 3) := by decide +kernel
theorem dX9_avoid_42 : decode cX9_avoid 42 = .ok (.iload_n 2, 1) := by decide +kernel
theorem dX9_avoid_43 : decode cX9_avoid 43 = .ok (.aload_n 0, 1) := by decide +kernel
theorem dX9_avoid_44 : decode cX9_avoid 44 = .ok (.getfield 18, 3) := by decide +kernel
theorem dX9_avoid_47 : decode cX9_avoid 47 = .ok (.getfield 105, 3) := by decide +kernel
theorem dX9_avoid_50 : decode cX9_avoid 50 = .ok (.iload 5, 2) := by decide +kernel
theorem dX9_avoid_52 : decode cX9_avoid 52 = .ok (.iaload, 1) := by decide +kernel
theorem dX9_avoid_53 : decode cX9_avoid 53 = .ok (.iadd, 1) := by decide +kernel
theorem dX9_avoid_54 : decode cX9_avoid 54 = .ok (.iload_n 1, 1) := by decide +kernel
theorem dX9_avoid_55 : decode cX9_avoid 55 = .ok (.if_icmp .ne 25, 3) := by decide +kernel
theorem dX9_avoid_58 : decode cX9_avoid 58 = .ok (.aload_n 0, 1) := by decide +kernel
theorem dX9_avoid_59 : decode cX9_avoid 59 = .ok (.getfield 15, 3) := by decide +kernel
theorem dX9_avoid_62 : decode cX9_avoid 62 = .ok (.iconst 2, 1) := by decide +kernel
theorem dX9_avoid_63 : decode cX9_avoid 63 = .ok (.iload 5, 2) := by decide +kernel
theorem dX9_avoid_65 : decode cX9_avoid 65 = .ok (.imul, 1) := by decide +kernel
theorem dX9_avoid_66 : decode cX9_avoid 66 = .ok (.iload_n 2, 1) := by decide +kernel
theorem dX9_avoid_67 : decode cX9_avoid 67 = .ok (.bipush 6, 2) := by decide +kernel
theorem dX9_avoid_69 : decode cX9_avoid 69 = .ok (.ishr, 1) := by decide +kernel
theorem dX9_avoid_70 : decode cX9_avoid 70 = .ok (.iadd, 1) := by decide +kernel
theorem dX9_avoid_71 : decode cX9_avoid 71 = .ok (.dup2, 1) := by decide +kernel
theorem dX9_avoid_72 : decode cX9_avoid 72 = .ok (.laload, 1) := by decide +kernel
theorem dX9_avoid_73 : decode cX9_avoid 73 = .ok (.lload_n 3, 1) := by decide +kernel
theorem dX9_avoid_74 : decode cX9_avoid 74 = .ok (.ldc2_w 109, 3) := by decide +kernel
theorem dX9_avoid_77 : decode cX9_avoid 77 = .ok (.lxor, 1) := by decide +kernel
theorem dX9_avoid_78 : decode cX9_avoid 78 = .ok (.land, 1) := by decide +kernel
theorem dX9_avoid_79 : decode cX9_avoid 79 = .ok (.lastore, 1) := by decide +kernel
theorem dX9_avoid_80 : decode cX9_avoid 80 = .ok (.iinc 5 1, 3) := by decide +kernel
theorem dX9_avoid_83 : decode cX9_avoid 83 = .ok (.goto (-47), 3) := by decide +kernel
theorem dX9_avoid_86 : decode cX9_avoid 86 = .ok (.return_, 1) := by decide +kernel
theorem dX9_spread_0 : decode cX9_spread 0 = .ok (.iconst 0, 1) := by decide +kernel
theorem dX9_spread_1 : decode cX9_spread 1 = .ok (.istore_n 2, 1) := by decide +kernel
theorem dX9_spread_2 : decode cX9_spread 2 = .ok (.iload_n 2, 1) := by decide +kernel
theorem dX9_spread_3 : decode cX9_spread 3 = .ok (.iconst 2, 1) := by decide +kernel
theorem dX9_spread_4 : decode cX9_spread 4 = .ok (.if_icmp .ge 172, 3) := by decide +kernel
theorem dX9_spread_7 : decode cX9_spread 7 = .ok (.iconst 4, 1) := by decide +kernel
theorem dX9_spread_8 : decode cX9_spread 8 = .ok (.iload_n 1, 1) := by decide +kernel
theorem dX9_spread_9 : decode cX9_spread 9 = .ok (.imul, 1) := by decide +kernel
theorem dX9_spread_10 : decode cX9_spread 10 = .ok (.iconst 2, 1) := by decide +kernel
theorem dX9_spread_11 : decode cX9_spread 11 = .ok (.iload_n 2, 1) := by decide +kernel
theorem dX9_spread_12 : decode cX9_spread 12 = .ok (.imul, 1) := by decide +kernel
theorem dX9_spread_13 : decode cX9_spread 13 = .ok (.iadd, 1) := by decide +kernel
theorem dX9_spread_14 : decode cX9_spread 14 = .ok (.istore_n 3, 1) := by decide +kernel
theorem dX9_spread_15 : decode cX9_spread 15 = .ok (.aload_n 0, 1) := by decide +kernel
theorem dX9_spread_16 : decode cX9_spread 16 = .ok (.getfield 9, 3) := by decide +kernel
theorem dX9_spread_19 : decode cX9_spread 19 = .ok (.iload_n 3, 1) := by decide +kernel
theorem dX9_spread_20 : decode cX9_spread 20 = .ok (.laload, 1) := by decide +kernel
theorem dX9_spread_21 : decode cX9_spread 21 = .ok (.lstore 4, 2) := by decide +kernel
theorem dX9_spread_23 : decode cX9_spread 23 = .ok (.aload_n 0, 1) := by decide +kernel
theorem dX9_spread_24 : decode cX9_spread 24 = .ok (.getfield 9, 3) := by decide +kernel
theorem dX9_spread_27 : decode cX9_spread 27 = .ok (.iload_n 3, 1) := by decide +kernel
theorem dX9_spread_28 : decode cX9_spread 28 = .ok (.iconst 1, 1) := by decide +kernel
theorem dX9_spread_29 : decode cX9_spread 29 = .ok (.iadd, 1) := by decide +kernel
theorem dX9_spread_30 : decode cX9_spread 30 = .ok (.laload, 1) := by decide +kernel
theorem dX9_spread_31 : decode cX9_spread 31 = .ok (.lstore 6, 2) := by decide +kernel
theorem dX9_spread_33 : decode cX9_spread 33 = .ok (.iconst 1, 1) := by decide +kernel
theorem dX9_spread_34 : decode cX9_spread 34 = .ok (.istore 8, 2) := by decide +kernel
theorem dX9_spread_36 : decode cX9_spread 36 = .ok (.iload 8, 2) := by decide +kernel
theorem dX9_spread_38 : decode cX9_spread 38 = .ok (.iconst 5, 1) := by decide +kernel
theorem dX9_spread_39 : decode cX9_spread 39 = .ok (.if_icmp .ge 93, 3) := by decide +kernel
theorem dX9_spread_42 : decode cX9_spread 42 = .ok (.aload_n 0, 1) := by decide +kernel
theorem dX9_spread_43 : decode cX9_spread 43 = .ok (.getfield 9, 3) := by decide +kernel
theorem dX9_spread_46 : decode cX9_spread 46 = .ok (.iload_n 3, 1) := by decide +kernel
theorem dX9_spread_47 : decode cX9_spread 47 = .ok (.laload, 1) := by decide +kernel
theorem dX9_spread_48 : decode cX9_spread 48 = .ok (.aload_n 0, 1) := by decide +kernel
theorem dX9_spread_49 : decode cX9_spread 49 = .ok (.getfield 15, 3) := by decide +kernel
theorem dX9_spread_52 : decode cX9_spread 52 = .ok (.iconst 2, 1) := by decide +kernel
theorem dX9_spread_53 : decode cX9_spread 53 = .ok (.iload 8, 2) := by decide +kernel
theorem dX9_spread_55 : decode cX9_spread 55 = .ok (.imul, 1) := by decide +kernel
theorem dX9_spread_56 : decode cX9_spread 56 = .ok (.laload, 1) := by decide +kernel
theorem dX9_spread_57 : decode cX9_spread 57 = .ok (.land, 1) := by decide +kernel
theorem dX9_spread_58 : decode cX9_spread 58 = .ok (.lstore 9, 2) := by decide +kernel
theorem dX9_spread_60 : decode cX9_spread 60 = .ok (.aload_n 0, 1) := by decide +kernel
theorem dX9_spread_61 : decode cX9_spread 61 = .ok (.getfield 9, 3) := by decide +kernel
theorem dX9_spread_64 : decode cX9_spread 64 = .ok (.iload_n 3, 1) := by decide +kernel
theorem dX9_spread_65 : decode cX9_spread 65 = .ok (.iconst 1, 1) := by decide +kernel
theorem dX9_spread_66 : decode cX9_spread 66 = .ok (.iadd, 1) := by decide +kernel
theorem dX9_spread_67 : decode cX9_spread 67 = .ok (.laload, 1) := by decide +kernel
theorem dX9_spread_68 : decode cX9_spread 68 = .ok (.aload_n 0, 1) := by decide +kernel
theorem dX9_spread_69 : decode cX9_spread 69 = .ok (.getfield 15, 3) := by decide +kernel
theorem dX9_spread_72 : decode cX9_spread 72 = .ok (.iconst 2, 1) := by decide +kernel
theorem dX9_spread_73 : decode cX9_spread 73 = .ok (.iload 8, 2) := by decide +kernel
theorem dX9_spread_75 : decode cX9_spread 75 = .ok (.imul, 1) := by decide +kernel
theorem dX9_spread_76 : decode cX9_spread 76 = .ok (.iconst 1, 1) := by decide +kernel
theorem dX9_spread_77 : decode cX9_spread 77 = .ok (.iadd, 1) := by decide +kernel
theorem dX9_spread_78 : decode cX9_spread 78 = .ok (.laload, 1) := by decide +kernel
theorem dX9_spread_79 : decode cX9_spread 79 = .ok (.land, 1) := by decide +kernel
theorem dX9_spread_80 : decode cX9_spread 80 = .ok (.lstore 11, 2) := by decide +kernel
theorem dX9_spread_82 : decode cX9_spread 82 = .ok (.lload 4, 2) := by decide +kernel
theorem dX9_spread_84 : decode cX9_spread 84 = .ok (.lload 9, 2) := by decide +kernel
theorem dX9_spread_86 : decode cX9_spread 86 = .ok (.lload 11, 2) := by decide +kernel
theorem dX9_spread_88 : decode cX9_spread 88 = .ok (.aload_n 0, 1) := by decide +kernel
theorem dX9_spread_89 : decode cX9_spread 89 = .ok (.getfield 18, 3) := by decide +kernel
theorem dX9_spread_92 : decode cX9_spread 92 = .ok (.getfield 105, 3) := by decide +kernel
theorem dX9_spread_95 : decode cX9_spread 95 = .ok (.iload 8, 2) := by decide +kernel
theorem dX9_spread_97 : decode cX9_spread 97 = .ok (.iaload, 1) := by decide +kernel
theorem dX9_spread_98 : decode cX9_spread 98 = .ok (.invokestatic 111, 3) := by decide +kernel
theorem dX9_spread_101 : decode cX9_spread 101 = .ok (.lor, 1) := by decide +kernel
theorem dX9_spread_102 : decode cX9_spread 102 = .ok (.lstore 4, 2) := by decide +kernel
theorem dX9_spread_104 : decode cX9_spread 104 = .ok (.lload 6, 2) := by decide +kernel
theorem dX9_spread_106 : decode cX9_spread 106 = .ok (.lload 9, 2) := by decide +kernel
theorem dX9_spread_108 : decode cX9_spread 108 = .ok (.lload 11, 2) := by decide +kernel
theorem dX9_spread_110 : decode cX9_spread 110 = .ok (.aload_n 0, 1) := by decide +kernel
theorem dX9_spread_111 : decode cX9_spread 111 = .ok (.getfield 18, 3) := by decide +kernel
theorem dX9_spread_114 : decode cX9_spread 114 = .ok (.getfield 105, 3) := by decide +kernel
theorem dX9_spread_117 : decode cX9_spread 117 = .ok (.iload 8, 2) := by decide +kernel
theorem dX9_spread_119 : decode cX9_spread 119 = .ok (.iaload, 1) := by decide +kernel
theorem dX9_spread_120 : decode cX9_spread 120 = .ok (.invokestatic 115, 3) := by decide +kernel
theorem dX9_spread_123 : decode cX9_spread 123 = .ok (.lor, 1) := by decide +kernel
theorem dX9_spread_124 : decode cX9_spread 124 = .ok (.lstore 6, 2) := by decide +kernel
theorem dX9_spread_126 : decode cX9_spread 126 = .ok (.iinc 8 1, 3) := by decide +kernel
theorem dX9_spread_129 : decode cX9_spread 129 = .ok (.goto (-93), 3) := by decide +kernel
theorem dX9_spread_132 : decode cX9_spread 132 = .ok (.aload_n 0, 1) := by decide +kernel
theorem dX9_spread_133 : decode cX9_spread 133 = .ok (.getfield 9, 3) := by decide +kernel
theorem dX9_spread_136 : decode cX9_spread 136 = .ok (.iload_n 3, 1) := by decide +kernel
theorem dX9_spread_137 : decode cX9_spread 137 = .ok (.iconst 4, 1) := by decide +kernel
theorem dX9_spread_138 : decode cX9_spread 138 = .ok (.iadd, 1) := by decide +kernel
theorem dX9_spread_139 : decode cX9_spread 139 = .ok (.lload 4, 2) := by decide +kernel
theorem dX9_spread_141 : decode cX9_spread 141 = .ok (.aload_n 0, 1) := by decide +kernel
theorem dX9_spread_142 : decode cX9_spread 142 = .ok (.getfield 95, 3) := by decide +kernel
theorem dX9_spread_145 : decode cX9_spread 145 = .ok (.ldc2_w 109, 3) := by decide +kernel
theorem dX9_spread_148 : decode cX9_spread 148 = .ok (.lxor, 1) := by decide +kernel
theorem dX9_spread_149 : decode cX9_spread 149 = .ok (.land, 1) := by decide +kernel
theorem dX9_spread_150 : decode cX9_spread 150 = .ok (.lastore, 1) := by decide +kernel
theorem dX9_spread_151 : decode cX9_spread 151 = .ok (.aload_n 0, 1) := by decide +kernel
theorem dX9_spread_152 : decode cX9_spread 152 = .ok (.getfield 9, 3) := by decide +kernel
theorem dX9_spread_155 : decode cX9_spread 155 = .ok (.iload_n 3, 1) := by decide +kernel
theorem dX9_spread_156 : decode cX9_spread 156 = .ok (.iconst 5, 1) := by decide +kernel
theorem dX9_spread_157 : decode cX9_spread 157 = .ok (.iadd, 1) := by decide +kernel
theorem dX9_spread_158 : decode cX9_spread 158 = .ok (.lload 6, 2) := by decide +kernel
theorem dX9_spread_160 : decode cX9_spread 160 = .ok (.aload_n 0, 1) := by decide +kernel
theorem dX9_spread_161 : decode cX9_spread 161 = .ok (.getfield 99, 3) := by decide +kernel
theorem dX9_spread_164 : decode cX9_spread 164 = .ok (.ldc2_w 109, 3) := by decide +kernel
theorem dX9_spread_167 : decode cX9_spread 167 = .ok (.lxor, 1) := by decide +kernel
theorem dX9_spread_168 : decode cX9_spread 168 = .ok (.land, 1) := by decide +kernel
theorem dX9_spread_169 : decode cX9_spread 169 = .ok (.lastore, 1) := by decide +kernel
theorem dX9_spread_170 : decode cX9_spread 170 = .ok (.iinc 2 1, 3) := by decide +kernel
theorem dX9_spread_173 : decode cX9_spread 173 = .ok (.goto (-171), 3) := by decide +kernel
theorem dX9_spread_176 : decode cX9_spread 176 = .ok (.aload_n 0, 1) := by decide +kernel
theorem dX9_spread_177 : decode cX9_spread 177 = .ok (.getfield 33, 3) := by decide +kernel
theorem dX9_spread_180 : decode cX9_spread 180 = .ok (.iconst (-1), 1) := by decide +kernel
theorem dX9_spread_181 : decode cX9_spread 181 = .ok (.if_icmp .eq 64, 3) := by decide +kernel
theorem dX9_spread_184 : decode cX9_spread 184 = .ok (.aload_n 0, 1) := by decide +kernel
theorem dX9_spread_185 : decode cX9_spread 185 = .ok (.iconst 4, 1) := by decide +kernel
theorem dX9_spread_186 : decode cX9_spread 186 = .ok (.iload_n 1, 1) := by decide +kernel
theorem dX9_spread_187 : decode cX9_spread 187 = .ok (.imul, 1) := by decide +kernel
theorem dX9_spread_188 : decode cX9_spread 188 = .ok (.iconst 4, 1) := by decide +kernel
theorem dX9_spread_189 : decode cX9_spread 189 = .ok (.iadd, 1) := by decide +kernel
theorem dX9_spread_190 : decode cX9_spread 190 = .ok (.aload_n 0, 1) := by decide +kernel
theorem dX9_spread_191 : decode cX9_spread 191 = .ok (.getfield 33, 3) := by decide +kernel
theorem dX9_spread_194 : decode cX9_spread 194 = .ok (.invokevirtual 70, 3) := by decide +kernel
theorem dX9_spread_197 : decode cX9_spread 197 = .ok (.ifCond .eq 48, 3) := by decide +kernel
theorem dX9_spread_200 : decode cX9_spread 200 = .ok (.aload_n 0, 1) := by decide +kernel
theorem dX9_spread_201 : decode cX9_spread 201 = .ok (.getfield 9, 3) := by decide +kernel
theorem dX9_spread_204 : decode cX9_spread 204 = .ok (.iconst 4, 1) := by decide +kernel
theorem dX9_spread_205 : decode cX9_spread 205 = .ok (.iload_n 1, 1) := by decide +kernel
theorem dX9_spread_206 : decode cX9_spread 206 = .ok (.imul, 1) := by decide +kernel
theorem dX9_spread_207 : decode cX9_spread 207 = .ok (.iconst 4, 1) := by decide +kernel
theorem dX9_spread_208 : decode cX9_spread 208 = .ok (.iadd, 1) := by decide +kernel
theorem dX9_spread_209 : decode cX9_spread 209 = .ok (.aload_n 0, 1) := by decide +kernel
theorem dX9_spread_210 : decode cX9_spread 210 = .ok (.getfield 33, 3) := by decide +kernel
theorem dX9_spread_213 : decode cX9_spread 213 = .ok (.bipush 6, 2) := by decide +kernel
theorem dX9_spread_215 : decode cX9_spread 215 = .ok (.ishr, 1) := by decide +kernel
theorem dX9_spread_216 : decode cX9_spread 216 = .ok (.iadd, 1) := by decide +kernel
theorem dX9_spread_217 : decode cX9_spread 217 = .ok (.dup2, 1) := by decide +kernel
theorem dX9_spread_218 : decode cX9_spread 218 = .ok (.laload, 1) := by decide +kernel
theorem dX9_spread_219 : decode cX9_spread 219 = .ok (.lconst 1, 1) := by decide +kernel
theorem dX9_spread_220 : decode cX9_spread 220 = .ok (.aload_n 0, 1) := by decide +kernel
theorem dX9_spread_221 : decode cX9_spread 221 = .ok (.getfield 33, 3) := by decide +kernel
theorem dX9_spread_224 : decode cX9_spread 224 = .ok (.lshl, 1) := by decide +kernel
theorem dX9_spread_225 : decode cX9_spread 225 = .ok (.ldc2_w 109, 3) := by decide +kernel
theorem dX9_spread_228 : decode cX9_spread 228 = .ok (.lxor, 1) := by decide +kernel
theorem dX9_spread_229 : decode cX9_spread 229 = .ok (.land, 1) := by decide +kernel
theorem dX9_spread_230 : decode cX9_spread 230 = .ok (.lastore, 1) := by decide +kernel
theorem dX9_spread_231 : decode cX9_spread 231 = .ok (.aload_n 0, 1) := by decide +kernel
theorem dX9_spread_232 : decode cX9_spread 232 = .ok (.iconst 4, 1) := by decide +kernel
theorem dX9_spread_233 : decode cX9_spread 233 = .ok (.iload_n 1, 1) := by decide +kernel
theorem dX9_spread_234 : decode cX9_spread 234 = .ok (.imul, 1) := by decide +kernel
theorem dX9_spread_235 : decode cX9_spread 235 = .ok (.bipush 6, 2) := by decide +kernel
theorem dX9_spread_237 : decode cX9_spread 237 = .ok (.iadd, 1) := by decide +kernel
theorem dX9_spread_238 : decode cX9_spread 238 = .ok (.aload_n 0, 1) := by decide +kernel
theorem dX9_spread_239 : decode cX9_spread 239 = .ok (.getfield 33, 3) := by decide +kernel
theorem dX9_spread_242 : decode cX9_spread 242 = .ok (.invokevirtual 49, 3) := by decide +kernel
theorem dX9_spread_245 : decode cX9_spread 245 = .ok (.return_, 1) := by decide +kernel
theorem dX9_narrow_0 : decode cX9_narrow 0 = .ok (.iconst 0, 1) := by decide +kernel
theorem dX9_narrow_1 : decode cX9_narrow 1 = .ok (.istore_n 2, 1) := by decide +kernel
theorem dX9_narrow_2 : decode cX9_narrow 2 = .ok (.iload_n 2, 1) := by decide +kernel
theorem dX9_narrow_3 : decode cX9_narrow 3 = .ok (.iconst 2, 1) := by decide +kernel
theorem dX9_narrow_4 : decode cX9_narrow 4 = .ok (.if_icmp .ge 232, 3) := by decide +kernel
theorem dX9_narrow_7 : decode cX9_narrow 7 = .ok (.iconst 4, 1) := by decide +kernel
theorem dX9_narrow_8 : decode cX9_narrow 8 = .ok (.iload_n 1, 1) := by decide +kernel
theorem dX9_narrow_9 : decode cX9_narrow 9 = .ok (.imul, 1) := by decide +kernel
theorem dX9_narrow_10 : decode cX9_narrow 10 = .ok (.iconst 2, 1) := by decide +kernel
theorem dX9_narrow_11 : decode cX9_narrow 11 = .ok (.iload_n 2, 1) := by decide +kernel
theorem dX9_narrow_12 : decode cX9_narrow 12 = .ok (.imul, 1) := by decide +kernel
theorem dX9_narrow_13 : decode cX9_narrow 13 = .ok (.iadd, 1) := by decide +kernel
theorem dX9_narrow_14 : decode cX9_narrow 14 = .ok (.istore_n 3, 1) := by decide +kernel
theorem dX9_narrow_15 : decode cX9_narrow 15 = .ok (.aload_n 0, 1) := by decide +kernel
theorem dX9_narrow_16 : decode cX9_narrow 16 = .ok (.getfield 9, 3) := by decide +kernel
theorem dX9_narrow_19 : decode cX9_narrow 19 = .ok (.iload_n 3, 1) := by decide +kernel
theorem dX9_narrow_20 : decode cX9_narrow 20 = .ok (.iconst 4, 1) := by decide +kernel
theorem dX9_narrow_21 : decode cX9_narrow 21 = .ok (.iadd, 1) := by decide +kernel
theorem dX9_narrow_22 : decode cX9_narrow 22 = .ok (.laload, 1) := by decide +kernel
theorem dX9_narrow_23 : decode cX9_narrow 23 = .ok (.lstore 4, 2) := by decide +kernel
theorem dX9_narrow_25 : decode cX9_narrow 25 = .ok (.aload_n 0, 1) := by decide +kernel
theorem dX9_narrow_26 : decode cX9_narrow 26 = .ok (.getfield 9, 3) := by decide +kernel
theorem dX9_narrow_29 : decode cX9_narrow 29 = .ok (.iload_n 3, 1) := by decide +kernel
theorem dX9_narrow_30 : decode cX9_narrow 30 = .ok (.iconst 5, 1) := by decide +kernel
theorem dX9_narrow_31 : decode cX9_narrow 31 = .ok (.iadd, 1) := by decide +kernel
theorem dX9_narrow_32 : decode cX9_narrow 32 = .ok (.laload, 1) := by decide +kernel
theorem dX9_narrow_33 : decode cX9_narrow 33 = .ok (.lstore 6, 2) := by decide +kernel
theorem dX9_narrow_35 : decode cX9_narrow 35 = .ok (.iload_n 2, 1) := by decide +kernel
theorem dX9_narrow_36 : decode cX9_narrow 36 = .ok (.ifCond .ne 79, 3) := by decide +kernel
theorem dX9_narrow_39 : decode cX9_narrow 39 = .ok (.aload_n 0, 1) := by decide +kernel
theorem dX9_narrow_40 : decode cX9_narrow 40 = .ok (.getfield 33, 3) := by decide +kernel
theorem dX9_narrow_43 : decode cX9_narrow 43 = .ok (.iconst (-1), 1) := by decide +kernel
theorem dX9_narrow_44 : decode cX9_narrow 44 = .ok (.if_icmp .eq 71, 3) := by decide +kernel
theorem dX9_narrow_47 : decode cX9_narrow 47 = .ok (.aload_n 0, 1) := by decide +kernel
theorem dX9_narrow_48 : decode cX9_narrow 48 = .ok (.getfield 9, 3) := by decide +kernel
theorem dX9_narrow_51 : decode cX9_narrow 51 = .ok (.iconst 4, 1) := by decide +kernel
theorem dX9_narrow_52 : decode cX9_narrow 52 = .ok (.iload_n 1, 1) := by decide +kernel
theorem dX9_narrow_53 : decode cX9_narrow 53 = .ok (.imul, 1) := by decide +kernel
theorem dX9_narrow_54 : decode cX9_narrow 54 = .ok (.bipush 6, 2) := by decide +kernel
theorem dX9_narrow_56 : decode cX9_narrow 56 = .ok (.iadd, 1) := by decide +kernel
theorem dX9_narrow_57 : decode cX9_narrow 57 = .ok (.aload_n 0, 1) := by decide +kernel
theorem dX9_narrow_58 : decode cX9_narrow 58 = .ok (.getfield 33, 3) := by decide +kernel
theorem dX9_narrow_61 : decode cX9_narrow 61 = .ok (.bipush 6, 2) := by decide +kernel
theorem dX9_narrow_63 : decode cX9_narrow 63 = .ok (.ishr, 1) := by decide +kernel
theorem dX9_narrow_64 : decode cX9_narrow 64 = .ok (.iadd, 1) := by decide +kernel
theorem dX9_narrow_65 : decode cX9_narrow 65 = .ok (.laload, 1) := by decide +kernel
theorem dX9_narrow_66 : decode cX9_narrow 66 = .ok (.lconst 1, 1) := by decide +kernel
theorem dX9_narrow_67 : decode cX9_narrow 67 = .ok (.aload_n 0, 1) := by decide +kernel
theorem dX9_narrow_68 : decode cX9_narrow 68 = .ok (.getfield 33, 3) := by decide +kernel
theorem dX9_narrow_71 : decode cX9_narrow 71 = .ok (.lshl, 1) := by decide +kernel
theorem dX9_narrow_72 : decode cX9_narrow 72 = .ok (.land, 1) := by decide +kernel
theorem dX9_narrow_73 : decode cX9_narrow 73 = .ok (.lstore 8, 2) := by decide +kernel
theorem dX9_narrow_75 : decode cX9_narrow 75 = .ok (.lload 4, 2) := by decide +kernel
theorem dX9_narrow_77 : decode cX9_narrow 77 = .ok (.aload_n 0, 1) := by decide +kernel
theorem dX9_narrow_78 : decode cX9_narrow 78 = .ok (.getfield 33, 3) := by decide +kernel
theorem dX9_narrow_81 : decode cX9_narrow 81 = .ok (.bipush 64, 2) := by decide +kernel
theorem dX9_narrow_83 : decode cX9_narrow 83 = .ok (.if_icmp .ge 8, 3) := by decide +kernel
theorem dX9_narrow_86 : decode cX9_narrow 86 = .ok (.lload 8, 2) := by decide +kernel
theorem dX9_narrow_88 : decode cX9_narrow 88 = .ok (.goto 4, 3) := by decide +kernel
theorem dX9_narrow_91 : decode cX9_narrow 91 = .ok (.lconst 0, 1) := by decide +kernel
theorem dX9_narrow_92 : decode cX9_narrow 92 = .ok (.lor, 1) := by decide +kernel
theorem dX9_narrow_93 : decode cX9_narrow 93 = .ok (.lstore 4, 2) := by decide +kernel
theorem dX9_narrow_95 : decode cX9_narrow 95 = .ok (.lload 6, 2) := by decide +kernel
theorem dX9_narrow_97 : decode cX9_narrow 97 = .ok (.aload_n 0, 1) := by decide +kernel
theorem dX9_narrow_98 : decode cX9_narrow 98 = .ok (.getfield 33, 3) := by decide +kernel
theorem dX9_narrow_101 : decode cX9_narrow 101 = .ok (.bipush 64, 2) := by decide +kernel
theorem dX9_narrow_103 : decode cX9_narrow 103 = .ok (.if_icmp .ge 7, 3) := by decide +kernel
theorem dX9_narrow_106 : decode cX9_narrow 106 = .ok (.lconst 0, 1) := by decide +kernel
theorem dX9_narrow_107 : decode cX9_narrow 107 = .ok (.goto 5, 3) := by decide +kernel
theorem dX9_narrow_110 : decode cX9_narrow 110 = .ok (.lload 8, 2) := by decide +kernel
theorem dX9_narrow_112 : decode cX9_narrow 112 = .ok (.lor, 1) := by decide +kernel
theorem dX9_narrow_113 : decode cX9_narrow 113 = .ok (.lstore 6, 2) := by decide +kernel
theorem dX9_narrow_115 : decode cX9_narrow 115 = .ok (.lload 4, 2) := by decide +kernel
theorem dX9_narrow_117 : decode cX9_narrow 117 = .ok (.lstore 8, 2) := by decide +kernel
theorem dX9_narrow_119 : decode cX9_narrow 119 = .ok (.lload 6, 2) := by decide +kernel
theorem dX9_narrow_121 : decode cX9_narrow 121 = .ok (.lstore 10, 2) := by decide +kernel
theorem dX9_narrow_123 : decode cX9_narrow 123 = .ok (.iconst 1, 1) := by decide +kernel
theorem dX9_narrow_124 : decode cX9_narrow 124 = .ok (.istore 12, 2) := by decide +kernel
theorem dX9_narrow_126 : decode cX9_narrow 126 = .ok (.iload 12, 2) := by decide +kernel
theorem dX9_narrow_128 : decode cX9_narrow 128 = .ok (.iconst 5, 1) := by decide +kernel
theorem dX9_narrow_129 : decode cX9_narrow 129 = .ok (.if_icmp .ge 77, 3) := by decide +kernel
theorem dX9_narrow_132 : decode cX9_narrow 132 = .ok (.lload 8, 2) := by decide +kernel
theorem dX9_narrow_134 : decode cX9_narrow 134 = .ok (.lload 4, 2) := by decide +kernel
theorem dX9_narrow_136 : decode cX9_narrow 136 = .ok (.lload 6, 2) := by decide +kernel
theorem dX9_narrow_138 : decode cX9_narrow 138 = .ok (.aload_n 0, 1) := by decide +kernel
theorem dX9_narrow_139 : decode cX9_narrow 139 = .ok (.getfield 18, 3) := by decide +kernel
theorem dX9_narrow_142 : decode cX9_narrow 142 = .ok (.getfield 105, 3) := by decide +kernel
theorem dX9_narrow_145 : decode cX9_narrow 145 = .ok (.iload 12, 2) := by decide +kernel
theorem dX9_narrow_147 : decode cX9_narrow 147 = .ok (.iaload, 1) := by decide +kernel
theorem dX9_narrow_148 : decode cX9_narrow 148 = .ok (.ineg, 1) := by decide +kernel
theorem dX9_narrow_149 : decode cX9_narrow 149 = .ok (.invokestatic 111, 3) := by decide +kernel
theorem dX9_narrow_152 : decode cX9_narrow 152 = .ok (.aload_n 0, 1) := by decide +kernel
theorem dX9_narrow_153 : decode cX9_narrow 153 = .ok (.getfield 15, 3) := by decide +kernel
theorem dX9_narrow_156 : decode cX9_narrow 156 = .ok (.iconst 2, 1) := by decide +kernel
theorem dX9_narrow_157 : decode cX9_narrow 157 = .ok (.iload 12, 2) := by decide +kernel
theorem dX9_narrow_159 : decode cX9_narrow 159 = .ok (.imul, 1) := by decide +kernel
theorem dX9_narrow_160 : decode cX9_narrow 160 = .ok (.laload, 1) := by decide +kernel
theorem dX9_narrow_161 : decode cX9_narrow 161 = .ok (.land, 1) := by decide +kernel
theorem dX9_narrow_162 : decode cX9_narrow 162 = .ok (.lor, 1) := by decide +kernel
theorem dX9_narrow_163 : decode cX9_narrow 163 = .ok (.lstore 8, 2) := by decide +kernel
theorem dX9_narrow_165 : decode cX9_narrow 165 = .ok (.lload 10, 2) := by decide +kernel
theorem dX9_narrow_167 : decode cX9_narrow 167 = .ok (.lload 4, 2) := by decide +kernel
theorem dX9_narrow_169 : decode cX9_narrow 169 = .ok (.lload 6, 2) := by decide +kernel
theorem dX9_narrow_171 : decode cX9_narrow 171 = .ok (.aload_n 0, 1) := by decide +kernel
theorem dX9_narrow_172 : decode cX9_narrow 172 = .ok (.getfield 18, 3) := by decide +kernel
theorem dX9_narrow_175 : decode cX9_narrow 175 = .ok (.getfield 105, 3) := by decide +kernel
theorem dX9_narrow_178 : decode cX9_narrow 178 = .ok (.iload 12, 2) := by decide +kernel
theorem dX9_narrow_180 : decode cX9_narrow 180 = .ok (.iaload, 1) := by decide +kernel
theorem dX9_narrow_181 : decode cX9_narrow 181 = .ok (.ineg, 1) := by decide +kernel
theorem dX9_narrow_182 : decode cX9_narrow 182 = .ok (.invokestatic 115, 3) := by decide +kernel
theorem dX9_narrow_185 : decode cX9_narrow 185 = .ok (.aload_n 0, 1) := by decide +kernel
theorem dX9_narrow_186 : decode cX9_narrow 186 = .ok (.getfield 15, 3) := by decide +kernel
theorem dX9_narrow_189 : decode cX9_narrow 189 = .ok (.iconst 2, 1) := by decide +kernel
theorem dX9_narrow_190 : decode cX9_narrow 190 = .ok (.iload 12, 2) := by decide +kernel
theorem dX9_narrow_192 : decode cX9_narrow 192 = .ok (.imul, 1) := by decide +kernel
theorem dX9_narrow_193 : decode cX9_narrow 193 = .ok (.iconst 1, 1) := by decide +kernel
theorem dX9_narrow_194 : decode cX9_narrow 194 = .ok (.iadd, 1) := by decide +kernel
theorem dX9_narrow_195 : decode cX9_narrow 195 = .ok (.laload, 1) := by decide +kernel
theorem dX9_narrow_196 : decode cX9_narrow 196 = .ok (.land, 1) := by decide +kernel
theorem dX9_narrow_197 : decode cX9_narrow 197 = .ok (.lor, 1) := by decide +kernel
theorem dX9_narrow_198 : decode cX9_narrow 198 = .ok (.lstore 10, 2) := by decide +kernel
theorem dX9_narrow_200 : decode cX9_narrow 200 = .ok (.iinc 12 1, 3) := by decide +kernel
theorem dX9_narrow_203 : decode cX9_narrow 203 = .ok (.goto (-77), 3) := by decide +kernel
theorem dX9_narrow_206 : decode cX9_narrow 206 = .ok (.aload_n 0, 1) := by decide +kernel
theorem dX9_narrow_207 : decode cX9_narrow 207 = .ok (.getfield 9, 3) := by decide +kernel
theorem dX9_narrow_210 : decode cX9_narrow 210 = .ok (.iload_n 3, 1) := by decide +kernel
theorem dX9_narrow_211 : decode cX9_narrow 211 = .ok (.dup2, 1) := by decide +kernel
theorem dX9_narrow_212 : decode cX9_narrow 212 = .ok (.laload, 1) := by decide +kernel
theorem dX9_narrow_213 : decode cX9_narrow 213 = .ok (.lload 8, 2) := by decide +kernel
theorem dX9_narrow_215 : decode cX9_narrow 215 = .ok (.land, 1) := by decide +kernel
theorem dX9_narrow_216 : decode cX9_narrow 216 = .ok (.lastore, 1) := by decide +kernel
theorem dX9_narrow_217 : decode cX9_narrow 217 = .ok (.aload_n 0, 1) := by decide +kernel
theorem dX9_narrow_218 : decode cX9_narrow 218 = .ok (.getfield 9, 3) := by decide +kernel
theorem dX9_narrow_221 : decode cX9_narrow 221 = .ok (.iload_n 3, 1) := by decide +kernel
theorem dX9_narrow_222 : decode cX9_narrow 222 = .ok (.iconst 1, 1) := by decide +kernel
theorem dX9_narrow_223 : decode cX9_narrow 223 = .ok (.iadd, 1) := by decide +kernel
theorem dX9_narrow_224 : decode cX9_narrow 224 = .ok (.dup2, 1) := by decide +kernel
theorem dX9_narrow_225 : decode cX9_narrow 225 = .ok (.laload, 1) := by decide +kernel
theorem dX9_narrow_226 : decode cX9_narrow 226 = .ok (.lload 10, 2) := by decide +kernel
theorem dX9_narrow_228 : decode cX9_narrow 228 = .ok (.land, 1) := by decide +kernel
theorem dX9_narrow_229 : decode cX9_narrow 229 = .ok (.lastore, 1) := by decide +kernel
theorem dX9_narrow_230 : decode cX9_narrow 230 = .ok (.iinc 2 1, 3) := by decide +kernel
theorem dX9_narrow_233 : decode cX9_narrow 233 = .ok (.goto (-231), 3) := by decide +kernel
theorem dX9_narrow_236 : decode cX9_narrow 236 = .ok (.return_, 1) := by decide +kernel
theorem dX9_follow_0 : decode cX9_follow 0 = .ok (.iload_n 1, 1) := by decide +kernel
theorem dX9_follow_1 : decode cX9_follow 1 = .ok (.istore 4, 2) := by decide +kernel
theorem dX9_follow_3 : decode cX9_follow 3 = .ok (.iload_n 2, 1) := by decide +kernel
theorem dX9_follow_4 : decode cX9_follow 4 = .ok (.istore 5, 2) := by decide +kernel
theorem dX9_follow_6 : decode cX9_follow 6 = .ok (.iconst 0, 1) := by decide +kernel
theorem dX9_follow_7 : decode cX9_follow 7 = .ok (.istore 6, 2) := by decide +kernel
theorem dX9_follow_9 : decode cX9_follow 9 = .ok (.iload 6, 2) := by decide +kernel
theorem dX9_follow_11 : decode cX9_follow 11 = .ok (.iload_n 3, 1) := by decide +kernel
theorem dX9_follow_12 : decode cX9_follow 12 = .ok (.if_icmp .ge 77, 3) := by decide +kernel
theorem dX9_follow_15 : decode cX9_follow 15 = .ok (.aload_n 0, 1) := by decide +kernel
theorem dX9_follow_16 : decode cX9_follow 16 = .ok (.iload 6, 2) := by decide +kernel
theorem dX9_follow_18 : decode cX9_follow 18 = .ok (.invokevirtual 57, 3) := by decide +kernel
theorem dX9_follow_21 : decode cX9_follow 21 = .ok (.iload 4, 2) := by decide +kernel
theorem dX9_follow_23 : decode cX9_follow 23 = .ok (.aload_n 0, 1) := by decide +kernel
theorem dX9_follow_24 : decode cX9_follow 24 = .ok (.getfield 18, 3) := by decide +kernel
theorem dX9_follow_27 : decode cX9_follow 27 = .ok (.getfield 105, 3) := by decide +kernel
theorem dX9_follow_30 : decode cX9_follow 30 = .ok (.aload_n 0, 1) := by decide +kernel
theorem dX9_follow_31 : decode cX9_follow 31 = .ok (.iload 4, 2) := by decide +kernel
theorem dX9_follow_33 : decode cX9_follow 33 = .ok (.iload 5, 2) := by decide +kernel
theorem dX9_follow_35 : decode cX9_follow 35 = .ok (.iload 6, 2) := by decide +kernel
theorem dX9_follow_37 : decode cX9_follow 37 = .ok (.invokevirtual 118, 3) := by decide +kernel
theorem dX9_follow_40 : decode cX9_follow 40 = .ok (.iaload, 1) := by decide +kernel
theorem dX9_follow_41 : decode cX9_follow 41 = .ok (.iadd, 1) := by decide +kernel
theorem dX9_follow_42 : decode cX9_follow 42 = .ok (.istore 4, 2) := by decide +kernel
theorem dX9_follow_44 : decode cX9_follow 44 = .ok (.iload 4, 2) := by decide +kernel
theorem dX9_follow_46 : decode cX9_follow 46 = .ok (.aload_n 0, 1) := by decide +kernel
theorem dX9_follow_47 : decode cX9_follow 47 = .ok (.getfield 33, 3) := by decide +kernel
theorem dX9_follow_50 : decode cX9_follow 50 = .ok (.if_icmp .ne 7, 3) := by decide +kernel
theorem dX9_follow_53 : decode cX9_follow 53 = .ok (.iconst 1, 1) := by decide +kernel
theorem dX9_follow_54 : decode cX9_follow 54 = .ok (.goto 5, 3) := by decide +kernel
theorem dX9_follow_57 : decode cX9_follow 57 = .ok (.iload 5, 2) := by decide +kernel
theorem dX9_follow_59 : decode cX9_follow 59 = .ok (.istore 5, 2) := by decide +kernel
theorem dX9_follow_61 : decode cX9_follow 61 = .ok (.aload_n 0, 1) := by decide +kernel
theorem dX9_follow_62 : decode cX9_follow 62 = .ok (.getfield 22, 3) := by decide +kernel
theorem dX9_follow_65 : decode cX9_follow 65 = .ok (.aload_n 0, 1) := by decide +kernel
theorem dX9_follow_66 : decode cX9_follow 66 = .ok (.getfield 26, 3) := by decide +kernel
theorem dX9_follow_69 : decode cX9_follow 69 = .ok (.aload_n 0, 1) := by decide +kernel
theorem dX9_follow_70 : decode cX9_follow 70 = .ok (.getfield 30, 3) := by decide +kernel
theorem dX9_follow_73 : decode cX9_follow 73 = .ok (.iload 6, 2) := by decide +kernel
theorem dX9_follow_75 : decode cX9_follow 75 = .ok (.iadd, 1) := by decide +kernel
theorem dX9_follow_76 : decode cX9_follow 76 = .ok (.iconst 1, 1) := by decide +kernel
theorem dX9_follow_77 : decode cX9_follow 77 = .ok (.iadd, 1) := by decide +kernel
theorem dX9_follow_78 : decode cX9_follow 78 = .ok (.iload 4, 2) := by decide +kernel
theorem dX9_follow_80 : decode cX9_follow 80 = .ok (.invokevirtual 122, 3) := by decide +kernel
theorem dX9_follow_83 : decode cX9_follow 83 = .ok (.iinc 6 1, 3) := by decide +kernel
theorem dX9_follow_86 : decode cX9_follow 86 = .ok (.goto (-77), 3) := by decide +kernel
theorem dX9_follow_89 : decode cX9_follow 89 = .ok (.aload_n 0, 1) := by decide +kernel
theorem dX9_follow_90 : decode cX9_follow 90 = .ok (.getfield 22, 3) := by decide +kernel
theorem dX9_follow_93 : decode cX9_follow 93 = .ok (.aload_n 0, 1) := by decide +kernel
theorem dX9_follow_94 : decode cX9_follow 94 = .ok (.getfield 26, 3) := by decide +kernel
theorem dX9_follow_97 : decode cX9_follow 97 = .ok (.aload_n 0, 1) := by decide +kernel
theorem dX9_follow_98 : decode cX9_follow 98 = .ok (.getfield 30, 3) := by decide +kernel
theorem dX9_follow_101 : decode cX9_follow 101 = .ok (.iload_n 3, 1) := by decide +kernel
theorem dX9_follow_102 : decode cX9_follow 102 = .ok (.iadd, 1) := by decide +kernel
theorem dX9_follow_103 : decode cX9_follow 103 = .ok (.aload_n 0, 1) := by decide +kernel
theorem dX9_follow_104 : decode cX9_follow 104 = .ok (.getfield 36, 3) := by decide +kernel
theorem dX9_follow_107 : decode cX9_follow 107 = .ok (.invokevirtual 125, 3) := by decide +kernel
theorem dX9_follow_110 : decode cX9_follow 110 = .ok (.return_, 1) := by decide +kernel
theorem dX9_leastMove_0 : decode cX9_leastMove 0 = .ok (.iconst 0, 1) := by decide +kernel
theorem dX9_leastMove_1 : decode cX9_leastMove 1 = .ok (.istore 4, 2) := by decide +kernel
theorem dX9_leastMove_3 : decode cX9_leastMove 3 = .ok (.iload 4, 2) := by decide +kernel
theorem dX9_leastMove_5 : decode cX9_leastMove 5 = .ok (.iconst 5, 1) := by decide +kernel
theorem dX9_leastMove_6 : decode cX9_leastMove 6 = .ok (.if_icmp .ge 96, 3) := by decide +kernel
theorem dX9_leastMove_9 : decode cX9_leastMove 9 = .ok (.iload_n 1, 1) := by decide +kernel
theorem dX9_leastMove_10 : decode cX9_leastMove 10 = .ok (.aload_n 0, 1) := by decide +kernel
theorem dX9_leastMove_11 : decode cX9_leastMove 11 = .ok (.getfield 18, 3) := by decide +kernel
theorem dX9_leastMove_14 : decode cX9_leastMove 14 = .ok (.getfield 105, 3) := by decide +kernel
theorem dX9_leastMove_17 : decode cX9_leastMove 17 = .ok (.iload 4, 2) := by decide +kernel
theorem dX9_leastMove_19 : decode cX9_leastMove 19 = .ok (.iaload, 1) := by decide +kernel
theorem dX9_leastMove_20 : decode cX9_leastMove 20 = .ok (.iadd, 1) := by decide +kernel
theorem dX9_leastMove_21 : decode cX9_leastMove 21 = .ok (.istore 5, 2) := by decide +kernel
theorem dX9_leastMove_23 : decode cX9_leastMove 23 = .ok (.aload_n 0, 1) := by decide +kernel
theorem dX9_leastMove_24 : decode cX9_leastMove 24 = .ok (.getfield 15, 3) := by decide +kernel
theorem dX9_leastMove_27 : decode cX9_leastMove 27 = .ok (.iconst 2, 1) := by decide +kernel
theorem dX9_leastMove_28 : decode cX9_leastMove 28 = .ok (.iload 4, 2) := by decide +kernel
theorem dX9_leastMove_30 : decode cX9_leastMove 30 = .ok (.imul, 1) := by decide +kernel
theorem dX9_leastMove_31 : decode cX9_leastMove 31 = .ok (.iload_n 1, 1) := by decide +kernel
theorem dX9_leastMove_32 : decode cX9_leastMove 32 = .ok (.bipush 6, 2) := by decide +kernel
theorem dX9_leastMove_34 : decode cX9_leastMove 34 = .ok (.ishr, 1) := by decide +kernel
theorem dX9_leastMove_35 : decode cX9_leastMove 35 = .ok (.iadd, 1) := by decide +kernel
theorem dX9_leastMove_36 : decode cX9_leastMove 36 = .ok (.laload, 1) := by decide +kernel
theorem dX9_leastMove_37 : decode cX9_leastMove 37 = .ok (.iload_n 1, 1) := by decide +kernel
theorem dX9_leastMove_38 : decode cX9_leastMove 38 = .ok (.lushr, 1) := by decide +kernel
theorem dX9_leastMove_39 : decode cX9_leastMove 39 = .ok (.lconst 1, 1) := by decide +kernel
theorem dX9_leastMove_40 : decode cX9_leastMove 40 = .ok (.land, 1) := by decide +kernel
theorem dX9_leastMove_41 : decode cX9_leastMove 41 = .ok (.lconst 0, 1) := by decide +kernel
theorem dX9_leastMove_42 : decode cX9_leastMove 42 = .ok (.lcmp, 1) := by decide +kernel
theorem dX9_leastMove_43 : decode cX9_leastMove 43 = .ok (.ifCond .eq 7, 3) := by decide +kernel
theorem dX9_leastMove_46 : decode cX9_leastMove 46 = .ok (.iconst 1, 1) := by decide +kernel
theorem dX9_leastMove_47 : decode cX9_leastMove 47 = .ok (.goto 4, 3) := by decide +kernel
theorem dX9_leastMove_50 : decode cX9_leastMove 50 = .ok (.iconst 0, 1) := by decide +kernel
theorem dX9_leastMove_51 : decode cX9_leastMove 51 = .ok (.istore 6, 2) := by decide +kernel
theorem dX9_leastMove_53 : decode cX9_leastMove 53 = .ok (.iload 5, 2) := by decide +kernel
theorem dX9_leastMove_55 : decode cX9_leastMove 55 = .ok (.aload_n 0, 1) := by decide +kernel
theorem dX9_leastMove_56 : decode cX9_leastMove 56 = .ok (.getfield 33, 3) := by decide +kernel
theorem dX9_leastMove_59 : decode cX9_leastMove 59 = .ok (.if_icmp .ne 7, 3) := by decide +kernel
theorem dX9_leastMove_62 : decode cX9_leastMove 62 = .ok (.iconst 1, 1) := by decide +kernel
theorem dX9_leastMove_63 : decode cX9_leastMove 63 = .ok (.goto 4, 3) := by decide +kernel
theorem dX9_leastMove_66 : decode cX9_leastMove 66 = .ok (.iload_n 2, 1) := by decide +kernel
theorem dX9_leastMove_67 : decode cX9_leastMove 67 = .ok (.istore 7, 2) := by decide +kernel
theorem dX9_leastMove_69 : decode cX9_leastMove 69 = .ok (.iload 6, 2) := by decide +kernel
theorem dX9_leastMove_71 : decode cX9_leastMove 71 = .ok (.ifCond .eq 25, 3) := by decide +kernel
theorem dX9_leastMove_74 : decode cX9_leastMove 74 = .ok (.aload_n 0, 1) := by decide +kernel
theorem dX9_leastMove_75 : decode cX9_leastMove 75 = .ok (.iconst 4, 1) := by decide +kernel
theorem dX9_leastMove_76 : decode cX9_leastMove 76 = .ok (.iload_n 3, 1) := by decide +kernel
theorem dX9_leastMove_77 : decode cX9_leastMove 77 = .ok (.imul, 1) := by decide +kernel
theorem dX9_leastMove_78 : decode cX9_leastMove 78 = .ok (.iconst 4, 1) := by decide +kernel
theorem dX9_leastMove_79 : decode cX9_leastMove 79 = .ok (.iadd, 1) := by decide +kernel
theorem dX9_leastMove_80 : decode cX9_leastMove 80 = .ok (.iconst 2, 1) := by decide +kernel
theorem dX9_leastMove_81 : decode cX9_leastMove 81 = .ok (.iload 7, 2) := by decide +kernel
theorem dX9_leastMove_83 : decode cX9_leastMove 83 = .ok (.imul, 1) := by decide +kernel
theorem dX9_leastMove_84 : decode cX9_leastMove 84 = .ok (.iadd, 1) := by decide +kernel
theorem dX9_leastMove_85 : decode cX9_leastMove 85 = .ok (.iload 5, 2) := by decide +kernel
theorem dX9_leastMove_87 : decode cX9_leastMove 87 = .ok (.invokevirtual 70, 3) := by decide +kernel
theorem dX9_leastMove_90 : decode cX9_leastMove 90 = .ok (.ifCond .eq 6, 3) := by decide +kernel
theorem dX9_leastMove_93 : decode cX9_leastMove 93 = .ok (.iload 4, 2) := by decide +kernel
theorem dX9_leastMove_95 : decode cX9_leastMove 95 = .ok (.ireturn, 1) := by decide +kernel
end
section
theorem dX9_leastMove_96 : decode cX9_leastMove 96 = .ok (.iinc 4 1, 3) := by decide +kernel
theorem dX9_leastMove_99 : decode cX9_leastMove 99 = .ok (.goto (-96), 3) := by decide +kernel
theorem dX9_leastMove_102 : decode cX9_leastMove 102 = .ok (.iconst 0, 1) := by decide +kernel
theorem dX9_leastMove_103 : decode cX9_leastMove 103 = .ok (.ireturn, 1) := by decide +kernel
theorem dX9_empty_0 : decode cX9_empty 0 = .ok (.iconst 0, 1) := by decide +kernel
theorem dX9_empty_1 : decode cX9_empty 1 = .ok (.istore_n 2, 1) := by decide +kernel
theorem dX9_empty_2 : decode cX9_empty 2 = .ok (.iload_n 2, 1) := by decide +kernel
theorem dX9_empty_3 : decode cX9_empty 3 = .ok (.iconst 4, 1) := by decide +kernel
theorem dX9_empty_4 : decode cX9_empty 4 = .ok (.if_icmp .ge 20, 3) := by decide +kernel
theorem dX9_empty_7 : decode cX9_empty 7 = .ok (.aload_n 0, 1) := by decide +kernel
theorem dX9_empty_8 : decode cX9_empty 8 = .ok (.getfield 9, 3) := by decide +kernel
theorem dX9_empty_11 : decode cX9_empty 11 = .ok (.iconst 4, 1) := by decide +kernel
theorem dX9_empty_12 : decode cX9_empty 12 = .ok (.iload_n 1, 1) := by decide +kernel
theorem dX9_empty_13 : decode cX9_empty 13 = .ok (.imul, 1) := by decide +kernel
theorem dX9_empty_14 : decode cX9_empty 14 = .ok (.iload_n 2, 1) := by decide +kernel
theorem dX9_empty_15 : decode cX9_empty 15 = .ok (.iadd, 1) := by decide +kernel
theorem dX9_empty_16 : decode cX9_empty 16 = .ok (.lconst 0, 1) := by decide +kernel
theorem dX9_empty_17 : decode cX9_empty 17 = .ok (.lastore, 1) := by decide +kernel
theorem dX9_empty_18 : decode cX9_empty 18 = .ok (.iinc 2 1, 3) := by decide +kernel
theorem dX9_empty_21 : decode cX9_empty 21 = .ok (.goto (-19), 3) := by decide +kernel
theorem dX9_empty_24 : decode cX9_empty 24 = .ok (.return_, 1) := by decide +kernel
theorem dX9_add_0 : decode cX9_add 0 = .ok (.aload_n 0, 1) := by decide +kernel
theorem dX9_add_1 : decode cX9_add 1 = .ok (.getfield 9, 3) := by decide +kernel
theorem dX9_add_4 : decode cX9_add 4 = .ok (.iload_n 1, 1) := by decide +kernel
theorem dX9_add_5 : decode cX9_add 5 = .ok (.iload_n 2, 1) := by decide +kernel
theorem dX9_add_6 : decode cX9_add 6 = .ok (.bipush 6, 2) := by decide +kernel
theorem dX9_add_8 : decode cX9_add 8 = .ok (.ishr, 1) := by decide +kernel
theorem dX9_add_9 : decode cX9_add 9 = .ok (.iadd, 1) := by decide +kernel
theorem dX9_add_10 : decode cX9_add 10 = .ok (.dup2, 1) := by decide +kernel
theorem dX9_add_11 : decode cX9_add 11 = .ok (.laload, 1) := by decide +kernel
theorem dX9_add_12 : decode cX9_add 12 = .ok (.lconst 1, 1) := by decide +kernel
theorem dX9_add_13 : decode cX9_add 13 = .ok (.iload_n 2, 1) := by decide +kernel
theorem dX9_add_14 : decode cX9_add 14 = .ok (.lshl, 1) := by decide +kernel
theorem dX9_add_15 : decode cX9_add 15 = .ok (.lor, 1) := by decide +kernel
theorem dX9_add_16 : decode cX9_add 16 = .ok (.lastore, 1) := by decide +kernel
theorem dX9_add_17 : decode cX9_add 17 = .ok (.return_, 1) := by decide +kernel
theorem dX9_holds_0 : decode cX9_holds 0 = .ok (.aload_n 0, 1) := by decide +kernel
theorem dX9_holds_1 : decode cX9_holds 1 = .ok (.getfield 9, 3) := by decide +kernel
theorem dX9_holds_4 : decode cX9_holds 4 = .ok (.iload_n 1, 1) := by decide +kernel
theorem dX9_holds_5 : decode cX9_holds 5 = .ok (.iload_n 2, 1) := by decide +kernel
theorem dX9_holds_6 : decode cX9_holds 6 = .ok (.bipush 6, 2) := by decide +kernel
theorem dX9_holds_8 : decode cX9_holds 8 = .ok (.ishr, 1) := by decide +kernel
theorem dX9_holds_9 : decode cX9_holds 9 = .ok (.iadd, 1) := by decide +kernel
theorem dX9_holds_10 : decode cX9_holds 10 = .ok (.laload, 1) := by decide +kernel
theorem dX9_holds_11 : decode cX9_holds 11 = .ok (.iload_n 2, 1) := by decide +kernel
theorem dX9_holds_12 : decode cX9_holds 12 = .ok (.lushr, 1) := by decide +kernel
theorem dX9_holds_13 : decode cX9_holds 13 = .ok (.lconst 1, 1) := by decide +kernel
theorem dX9_holds_14 : decode cX9_holds 14 = .ok (.land, 1) := by decide +kernel
theorem dX9_holds_15 : decode cX9_holds 15 = .ok (.lconst 0, 1) := by decide +kernel
theorem dX9_holds_16 : decode cX9_holds 16 = .ok (.lcmp, 1) := by decide +kernel
theorem dX9_holds_17 : decode cX9_holds 17 = .ok (.ifCond .eq 7, 3) := by decide +kernel
theorem dX9_holds_20 : decode cX9_holds 20 = .ok (.iconst 1, 1) := by decide +kernel
theorem dX9_holds_21 : decode cX9_holds 21 = .ok (.goto 4, 3) := by decide +kernel
theorem dX9_holds_24 : decode cX9_holds 24 = .ok (.iconst 0, 1) := by decide +kernel
theorem dX9_holds_25 : decode cX9_holds 25 = .ok (.ireturn, 1) := by decide +kernel
theorem dX9_shiftedLow_0 : decode cX9_shiftedLow 0 = .ok (.iload 4, 2) := by decide +kernel
theorem dX9_shiftedLow_2 : decode cX9_shiftedLow 2 = .ok (.ifCond .le 10, 3) := by decide +kernel
theorem dX9_shiftedLow_5 : decode cX9_shiftedLow 5 = .ok (.lload_n 0, 1) := by decide +kernel
theorem dX9_shiftedLow_6 : decode cX9_shiftedLow 6 = .ok (.iload 4, 2) := by decide +kernel
theorem dX9_shiftedLow_8 : decode cX9_shiftedLow 8 = .ok (.lshl, 1) := by decide +kernel
theorem dX9_shiftedLow_9 : decode cX9_shiftedLow 9 = .ok (.goto 16, 3) := by decide +kernel
theorem dX9_shiftedLow_12 : decode cX9_shiftedLow 12 = .ok (.lload_n 0, 1) := by decide +kernel
theorem dX9_shiftedLow_13 : decode cX9_shiftedLow 13 = .ok (.iload 4, 2) := by decide +kernel
theorem dX9_shiftedLow_15 : decode cX9_shiftedLow 15 = .ok (.ineg, 1) := by decide +kernel
theorem dX9_shiftedLow_16 : decode cX9_shiftedLow 16 = .ok (.lushr, 1) := by decide +kernel
theorem dX9_shiftedLow_17 : decode cX9_shiftedLow 17 = .ok (.lload_n 2, 1) := by decide +kernel
theorem dX9_shiftedLow_18 : decode cX9_shiftedLow 18 = .ok (.bipush 64, 2) := by decide +kernel
theorem dX9_shiftedLow_20 : decode cX9_shiftedLow 20 = .ok (.iload 4, 2) := by decide +kernel
theorem dX9_shiftedLow_22 : decode cX9_shiftedLow 22 = .ok (.iadd, 1) := by decide +kernel
theorem dX9_shiftedLow_23 : decode cX9_shiftedLow 23 = .ok (.lshl, 1) := by decide +kernel
theorem dX9_shiftedLow_24 : decode cX9_shiftedLow 24 = .ok (.lor, 1) := by decide +kernel
theorem dX9_shiftedLow_25 : decode cX9_shiftedLow 25 = .ok (.lreturn, 1) := by decide +kernel
theorem dX9_shiftedHigh_0 : decode cX9_shiftedHigh 0 = .ok (.iload 4, 2) := by decide +kernel
theorem dX9_shiftedHigh_2 : decode cX9_shiftedHigh 2 = .ok (.ifCond .le 18, 3) := by decide +kernel
theorem dX9_shiftedHigh_5 : decode cX9_shiftedHigh 5 = .ok (.lload_n 2, 1) := by decide +kernel
theorem dX9_shiftedHigh_6 : decode cX9_shiftedHigh 6 = .ok (.iload 4, 2) := by decide +kernel
theorem dX9_shiftedHigh_8 : decode cX9_shiftedHigh 8 = .ok (.lshl, 1) := by decide +kernel
theorem dX9_shiftedHigh_9 : decode cX9_shiftedHigh 9 = .ok (.lload_n 0, 1) := by decide +kernel
theorem dX9_shiftedHigh_10 : decode cX9_shiftedHigh 10 = .ok (.bipush 64, 2) := by decide +kernel
theorem dX9_shiftedHigh_12 : decode cX9_shiftedHigh 12 = .ok (.iload 4, 2) := by decide +kernel
theorem dX9_shiftedHigh_14 : decode cX9_shiftedHigh 14 = .ok (.isub, 1) := by decide +kernel
theorem dX9_shiftedHigh_15 : decode cX9_shiftedHigh 15 = .ok (.lushr, 1) := by decide +kernel
theorem dX9_shiftedHigh_16 : decode cX9_shiftedHigh 16 = .ok (.lor, 1) := by decide +kernel
theorem dX9_shiftedHigh_17 : decode cX9_shiftedHigh 17 = .ok (.goto 8, 3) := by decide +kernel
theorem dX9_shiftedHigh_20 : decode cX9_shiftedHigh 20 = .ok (.lload_n 2, 1) := by decide +kernel
theorem dX9_shiftedHigh_21 : decode cX9_shiftedHigh 21 = .ok (.iload 4, 2) := by decide +kernel
theorem dX9_shiftedHigh_23 : decode cX9_shiftedHigh 23 = .ok (.ineg, 1) := by decide +kernel
theorem dX9_shiftedHigh_24 : decode cX9_shiftedHigh 24 = .ok (.lushr, 1) := by decide +kernel
theorem dX9_shiftedHigh_25 : decode cX9_shiftedHigh 25 = .ok (.lreturn, 1) := by decide +kernel
end
section
theorem dX10_init_0 : decode cX10_init 0 = .ok (.aload_n 0, 1) := by decide +kernel
theorem dX10_init_1 : decode cX10_init 1 = .ok (.invokespecial 3, 3) := by decide +kernel
theorem dX10_init_4 : decode cX10_init 4 = .ok (.aload_n 0, 1) := by decide +kernel
theorem dX10_init_5 : decode cX10_init 5 = .ok (.new 9, 3) := by decide +kernel
theorem dX10_init_8 : decode cX10_init 8 = .ok (.dup, 1) := by decide +kernel
theorem dX10_init_9 : decode cX10_init 9 = .ok (.invokespecial 11, 3) := by decide +kernel
theorem dX10_init_12 : decode cX10_init 12 = .ok (.putfield 12, 3) := by decide +kernel
theorem dX10_init_15 : decode cX10_init 15 = .ok (.aload_n 0, 1) := by decide +kernel
theorem dX10_init_16 : decode cX10_init 16 = .ok (.new 9, 3) := by decide +kernel
theorem dX10_init_19 : decode cX10_init 19 = .ok (.dup, 1) := by decide +kernel
theorem dX10_init_20 : decode cX10_init 20 = .ok (.invokespecial 11, 3) := by decide +kernel
theorem dX10_init_23 : decode cX10_init 23 = .ok (.putfield 16, 3) := by decide +kernel
theorem dX10_init_26 : decode cX10_init 26 = .ok (.aload_n 0, 1) := by decide +kernel
theorem dX10_init_27 : decode cX10_init 27 = .ok (.new 19, 3) := by decide +kernel
theorem dX10_init_30 : decode cX10_init 30 = .ok (.dup, 1) := by decide +kernel
theorem dX10_init_31 : decode cX10_init 31 = .ok (.invokespecial 21, 3) := by decide +kernel
theorem dX10_init_34 : decode cX10_init 34 = .ok (.putfield 22, 3) := by decide +kernel
theorem dX10_init_37 : decode cX10_init 37 = .ok (.aload_n 0, 1) := by decide +kernel
theorem dX10_init_38 : decode cX10_init 38 = .ok (.new 26, 3) := by decide +kernel
theorem dX10_init_41 : decode cX10_init 41 = .ok (.dup, 1) := by decide +kernel
theorem dX10_init_42 : decode cX10_init 42 = .ok (.invokespecial 28, 3) := by decide +kernel
theorem dX10_init_45 : decode cX10_init 45 = .ok (.putfield 29, 3) := by decide +kernel
theorem dX10_init_48 : decode cX10_init 48 = .ok (.aload_n 0, 1) := by decide +kernel
theorem dX10_init_49 : decode cX10_init 49 = .ok (.new 33, 3) := by decide +kernel
theorem dX10_init_52 : decode cX10_init 52 = .ok (.dup, 1) := by decide +kernel
theorem dX10_init_53 : decode cX10_init 53 = .ok (.aload_n 0, 1) := by decide +kernel
theorem dX10_init_54 : decode cX10_init 54 = .ok (.getfield 12, 3) := by decide +kernel
theorem dX10_init_57 : decode cX10_init 57 = .ok (.aload_n 0, 1) := by decide +kernel
theorem dX10_init_58 : decode cX10_init 58 = .ok (.getfield 29, 3) := by decide +kernel
theorem dX10_init_61 : decode cX10_init 61 = .ok (.invokespecial 35, 3) := by decide +kernel
theorem dX10_init_64 : decode cX10_init 64 = .ok (.putfield 38, 3) := by decide +kernel
theorem dX10_init_67 : decode cX10_init 67 = .ok (.aload_n 0, 1) := by decide +kernel
theorem dX10_init_68 : decode cX10_init 68 = .ok (.iconst (-1), 1) := by decide +kernel
theorem dX10_init_69 : decode cX10_init 69 = .ok (.putfield 42, 3) := by decide +kernel
theorem dX10_init_72 : decode cX10_init 72 = .ok (.return_, 1) := by decide +kernel
theorem dX10_type_0 : decode cX10_type 0 = .ok (.aload_n 0, 1) := by decide +kernel
theorem dX10_type_1 : decode cX10_type 1 = .ok (.getfield 22, 3) := by decide +kernel
theorem dX10_type_4 : decode cX10_type 4 = .ok (.lload_n 1, 1) := by decide +kernel
theorem dX10_type_5 : decode cX10_type 5 = .ok (.invokevirtual 46, 3) := by decide +kernel
theorem dX10_type_8 : decode cX10_type 8 = .ok (.ireturn, 1) := by decide +kernel
theorem dX10_erase_0 : decode cX10_erase 0 = .ok (.aload_n 0, 1) := by decide +kernel
theorem dX10_erase_1 : decode cX10_erase 1 = .ok (.getfield 22, 3) := by decide +kernel
theorem dX10_erase_4 : decode cX10_erase 4 = .ok (.invokevirtual 50, 3) := by decide +kernel
theorem dX10_erase_7 : decode cX10_erase 7 = .ok (.ireturn, 1) := by decide +kernel
theorem dX10_read_0 : decode cX10_read 0 = .ok (.aload_n 0, 1) := by decide +kernel
theorem dX10_read_1 : decode cX10_read 1 = .ok (.invokevirtual 54, 3) := by decide +kernel
theorem dX10_read_4 : decode cX10_read 4 = .ok (.istore_n 1, 1) := by decide +kernel
theorem dX10_read_5 : decode cX10_read 5 = .ok (.iload_n 1, 1) := by decide +kernel
theorem dX10_read_6 : decode cX10_read 6 = .ok (.ifCond .eq 5, 3) := by decide +kernel
theorem dX10_read_9 : decode cX10_read 9 = .ok (.iload_n 1, 1) := by decide +kernel
theorem dX10_read_10 : decode cX10_read 10 = .ok (.ireturn, 1) := by decide +kernel
theorem dX10_read_11 : decode cX10_read 11 = .ok (.aload_n 0, 1) := by decide +kernel
theorem dX10_read_12 : decode cX10_read 12 = .ok (.getfield 16, 3) := by decide +kernel
theorem dX10_read_15 : decode cX10_read 15 = .ok (.astore_n 2, 1) := by decide +kernel
theorem dX10_read_16 : decode cX10_read 16 = .ok (.aload_n 0, 1) := by decide +kernel
theorem dX10_read_17 : decode cX10_read 17 = .ok (.aload_n 0, 1) := by decide +kernel
theorem dX10_read_18 : decode cX10_read 18 = .ok (.getfield 12, 3) := by decide +kernel
theorem dX10_read_21 : decode cX10_read 21 = .ok (.putfield 16, 3) := by decide +kernel
theorem dX10_read_24 : decode cX10_read 24 = .ok (.aload_n 0, 1) := by decide +kernel
theorem dX10_read_25 : decode cX10_read 25 = .ok (.aload_n 2, 1) := by decide +kernel
theorem dX10_read_26 : decode cX10_read 26 = .ok (.putfield 12, 3) := by decide +kernel
theorem dX10_read_29 : decode cX10_read 29 = .ok (.aload_n 0, 1) := by decide +kernel
theorem dX10_read_30 : decode cX10_read 30 = .ok (.getfield 29, 3) := by decide +kernel
theorem dX10_read_33 : decode cX10_read 33 = .ok (.invokevirtual 57, 3) := by decide +kernel
theorem dX10_read_36 : decode cX10_read 36 = .ok (.aload_n 0, 1) := by decide +kernel
theorem dX10_read_37 : decode cX10_read 37 = .ok (.getfield 38, 3) := by decide +kernel
theorem dX10_read_40 : decode cX10_read 40 = .ok (.aload_n 0, 1) := by decide +kernel
theorem dX10_read_41 : decode cX10_read 41 = .ok (.getfield 12, 3) := by decide +kernel
theorem dX10_read_44 : decode cX10_read 44 = .ok (.invokevirtual 60, 3) := by decide +kernel
theorem dX10_read_47 : decode cX10_read 47 = .ok (.aload_n 0, 1) := by decide +kernel
theorem dX10_read_48 : decode cX10_read 48 = .ok (.getfield 12, 3) := by decide +kernel
theorem dX10_read_51 : decode cX10_read 51 = .ok (.invokevirtual 64, 3) := by decide +kernel
theorem dX10_read_54 : decode cX10_read 54 = .ok (.ireturn, 1) := by decide +kernel
theorem dX10_place_0 : decode cX10_place 0 = .ok (.aload_n 0, 1) := by decide +kernel
theorem dX10_place_1 : decode cX10_place 1 = .ok (.getfield 42, 3) := by decide +kernel
theorem dX10_place_4 : decode cX10_place 4 = .ok (.ireturn, 1) := by decide +kernel
theorem dX10_cell_0 : decode cX10_cell 0 = .ok (.aload_n 0, 1) := by decide +kernel
theorem dX10_cell_1 : decode cX10_cell 1 = .ok (.getfield 12, 3) := by decide +kernel
theorem dX10_cell_4 : decode cX10_cell 4 = .ok (.iload_n 1, 1) := by decide +kernel
theorem dX10_cell_5 : decode cX10_cell 5 = .ok (.invokevirtual 67, 3) := by decide +kernel
theorem dX10_cell_8 : decode cX10_cell 8 = .ok (.ireturn, 1) := by decide +kernel
theorem dX10_distance_0 : decode cX10_distance 0 = .ok (.aload_n 0, 1) := by decide +kernel
theorem dX10_distance_1 : decode cX10_distance 1 = .ok (.getfield 12, 3) := by decide +kernel
theorem dX10_distance_4 : decode cX10_distance 4 = .ok (.iload_n 1, 1) := by decide +kernel
theorem dX10_distance_5 : decode cX10_distance 5 = .ok (.invokevirtual 71, 3) := by decide +kernel
theorem dX10_distance_8 : decode cX10_distance 8 = .ok (.ifCond .eq 14, 3) := by decide +kernel
theorem dX10_distance_11 : decode cX10_distance 11 = .ok (.aload_n 0, 1) := by decide +kernel
theorem dX10_distance_12 : decode cX10_distance 12 = .ok (.getfield 12, 3) := by decide +kernel
theorem dX10_distance_15 : decode cX10_distance 15 = .ok (.iload_n 2, 1) := by decide +kernel
theorem dX10_distance_16 : decode cX10_distance 16 = .ok (.invokevirtual 71, 3) := by decide +kernel
theorem dX10_distance_19 : decode cX10_distance 19 = .ok (.ifCond .ne 6, 3) := by decide +kernel
theorem dX10_distance_22 : decode cX10_distance 22 = .ok (.bipush (-2), 2) := by decide +kernel
theorem dX10_distance_24 : decode cX10_distance 24 = .ok (.ireturn, 1) := by decide +kernel
theorem dX10_distance_25 : decode cX10_distance 25 = .ok (.aload_n 0, 1) := by decide +kernel
theorem dX10_distance_26 : decode cX10_distance 26 = .ok (.getfield 12, 3) := by decide +kernel
theorem dX10_distance_29 : decode cX10_distance 29 = .ok (.iload_n 1, 1) := by decide +kernel
theorem dX10_distance_30 : decode cX10_distance 30 = .ok (.iconst 1, 1) := by decide +kernel
theorem dX10_distance_31 : decode cX10_distance 31 = .ok (.invokevirtual 75, 3) := by decide +kernel
theorem dX10_distance_34 : decode cX10_distance 34 = .ok (.aload_n 0, 1) := by decide +kernel
theorem dX10_distance_35 : decode cX10_distance 35 = .ok (.getfield 12, 3) := by decide +kernel
theorem dX10_distance_38 : decode cX10_distance 38 = .ok (.iload_n 2, 1) := by decide +kernel
theorem dX10_distance_39 : decode cX10_distance 39 = .ok (.invokevirtual 79, 3) := by decide +kernel
theorem dX10_distance_42 : decode cX10_distance 42 = .ok (.ireturn, 1) := by decide +kernel
theorem dX10_robot_0 : decode cX10_robot 0 = .ok (.aload_n 0, 1) := by decide +kernel
theorem dX10_robot_1 : decode cX10_robot 1 = .ok (.getfield 12, 3) := by decide +kernel
theorem dX10_robot_4 : decode cX10_robot 4 = .ok (.invokevirtual 64, 3) := by decide +kernel
theorem dX10_robot_7 : decode cX10_robot 7 = .ok (.ifCond .eq 13, 3) := by decide +kernel
theorem dX10_robot_10 : decode cX10_robot 10 = .ok (.aload_n 0, 1) := by decide +kernel
theorem dX10_robot_11 : decode cX10_robot 11 = .ok (.getfield 38, 3) := by decide +kernel
theorem dX10_robot_14 : decode cX10_robot 14 = .ok (.invokevirtual 82, 3) := by decide +kernel
theorem dX10_robot_17 : decode cX10_robot 17 = .ok (.ifCond .eq 6, 3) := by decide +kernel
theorem dX10_robot_20 : decode cX10_robot 20 = .ok (.bipush (-4), 2) := by decide +kernel
theorem dX10_robot_22 : decode cX10_robot 22 = .ok (.ireturn, 1) := by decide +kernel
theorem dX10_robot_23 : decode cX10_robot 23 = .ok (.aload_n 0, 1) := by decide +kernel
theorem dX10_robot_24 : decode cX10_robot 24 = .ok (.getfield 12, 3) := by decide +kernel
theorem dX10_robot_27 : decode cX10_robot 27 = .ok (.iload_n 1, 1) := by decide +kernel
theorem dX10_robot_28 : decode cX10_robot 28 = .ok (.invokevirtual 67, 3) := by decide +kernel
theorem dX10_robot_31 : decode cX10_robot 31 = .ok (.iconst 4, 1) := by decide +kernel
theorem dX10_robot_32 : decode cX10_robot 32 = .ok (.if_icmp .eq 6, 3) := by decide +kernel
theorem dX10_robot_35 : decode cX10_robot 35 = .ok (.bipush (-2), 2) := by decide +kernel
theorem dX10_robot_37 : decode cX10_robot 37 = .ok (.ireturn, 1) := by decide +kernel
theorem dX10_robot_38 : decode cX10_robot 38 = .ok (.aload_n 0, 1) := by decide +kernel
theorem dX10_robot_39 : decode cX10_robot 39 = .ok (.getfield 38, 3) := by decide +kernel
theorem dX10_robot_42 : decode cX10_robot 42 = .ok (.iload_n 1, 1) := by decide +kernel
theorem dX10_robot_43 : decode cX10_robot 43 = .ok (.invokevirtual 85, 3) := by decide +kernel
theorem dX10_robot_46 : decode cX10_robot 46 = .ok (.ireturn, 1) := by decide +kernel
theorem dX10_order_0 : decode cX10_order 0 = .ok (.aload_n 0, 1) := by decide +kernel
theorem dX10_order_1 : decode cX10_order 1 = .ok (.getfield 12, 3) := by decide +kernel
theorem dX10_order_4 : decode cX10_order 4 = .ok (.invokevirtual 64, 3) := by decide +kernel
theorem dX10_order_7 : decode cX10_order 7 = .ok (.ifCond .ne 6, 3) := by decide +kernel
theorem dX10_order_10 : decode cX10_order 10 = .ok (.bipush (-4), 2) := by decide +kernel
theorem dX10_order_12 : decode cX10_order 12 = .ok (.ireturn, 1) := by decide +kernel
theorem dX10_order_13 : decode cX10_order 13 = .ok (.aload_n 0, 1) := by decide +kernel
theorem dX10_order_14 : decode cX10_order 14 = .ok (.getfield 12, 3) := by decide +kernel
theorem dX10_order_17 : decode cX10_order 17 = .ok (.iload_n 1, 1) := by decide +kernel
theorem dX10_order_18 : decode cX10_order 18 = .ok (.invokevirtual 67, 3) := by decide +kernel
theorem dX10_order_21 : decode cX10_order 21 = .ok (.iconst 3, 1) := by decide +kernel
theorem dX10_order_22 : decode cX10_order 22 = .ok (.if_icmp .ne 14, 3) := by decide +kernel
theorem dX10_order_25 : decode cX10_order 25 = .ok (.aload_n 0, 1) := by decide +kernel
theorem dX10_order_26 : decode cX10_order 26 = .ok (.iload_n 2, 1) := by decide +kernel
theorem dX10_order_27 : decode cX10_order 27 = .ok (.iload_n 3, 1) := by decide +kernel
theorem dX10_order_28 : decode cX10_order 28 = .ok (.iload 4, 2) := by decide +kernel
theorem dX10_order_30 : decode cX10_order 30 = .ok (.invokevirtual 88, 3) := by decide +kernel
theorem dX10_order_33 : decode cX10_order 33 = .ok (.ifCond .ne 6, 3) := by decide +kernel
theorem dX10_order_36 : decode cX10_order 36 = .ok (.bipush (-2), 2) := by decide +kernel
theorem dX10_order_38 : decode cX10_order 38 = .ok (.ireturn, 1) := by decide +kernel
theorem dX10_order_39 : decode cX10_order 39 = .ok (.iload_n 3, 1) := by decide +kernel
theorem dX10_order_40 : decode cX10_order 40 = .ok (.iconst (-1), 1) := by decide +kernel
theorem dX10_order_41 : decode cX10_order 41 = .ok (.if_icmp .ne 7, 3) := by decide +kernel
theorem dX10_order_44 : decode cX10_order 44 = .ok (.iconst 1, 1) := by decide +kernel
theorem dX10_order_45 : decode cX10_order 45 = .ok (.goto 14, 3) := by decide +kernel
theorem dX10_order_48 : decode cX10_order 48 = .ok (.iload 4, 2) := by decide +kernel
theorem dX10_order_50 : decode cX10_order 50 = .ok (.iconst (-1), 1) := by decide +kernel
theorem dX10_order_51 : decode cX10_order 51 = .ok (.if_icmp .ne 7, 3) := by decide +kernel
theorem dX10_order_54 : decode cX10_order 54 = .ok (.iconst 2, 1) := by decide +kernel
theorem dX10_order_55 : decode cX10_order 55 = .ok (.goto 4, 3) := by decide +kernel
theorem dX10_order_58 : decode cX10_order 58 = .ok (.iconst 3, 1) := by decide +kernel
theorem dX10_order_59 : decode cX10_order 59 = .ok (.istore 5, 2) := by decide +kernel
theorem dX10_order_61 : decode cX10_order 61 = .ok (.aload_n 0, 1) := by decide +kernel
theorem dX10_order_62 : decode cX10_order 62 = .ok (.getfield 29, 3) := by decide +kernel
theorem dX10_order_65 : decode cX10_order 65 = .ok (.iload 5, 2) := by decide +kernel
theorem dX10_order_67 : decode cX10_order 67 = .ok (.invokevirtual 92, 3) := by decide +kernel
theorem dX10_order_70 : decode cX10_order 70 = .ok (.ifCond .ne 6, 3) := by decide +kernel
theorem dX10_order_73 : decode cX10_order 73 = .ok (.bipush (-3), 2) := by decide +kernel
theorem dX10_order_75 : decode cX10_order 75 = .ok (.ireturn, 1) := by decide +kernel
theorem dX10_order_76 : decode cX10_order 76 = .ok (.aload_n 0, 1) := by decide +kernel
theorem dX10_order_77 : decode cX10_order 77 = .ok (.getfield 29, 3) := by decide +kernel
theorem dX10_order_80 : decode cX10_order 80 = .ok (.iload_n 1, 1) := by decide +kernel
theorem dX10_order_81 : decode cX10_order 81 = .ok (.iload 5, 2) := by decide +kernel
theorem dX10_order_83 : decode cX10_order 83 = .ok (.aload_n 0, 1) := by decide +kernel
theorem dX10_order_84 : decode cX10_order 84 = .ok (.getfield 38, 3) := by decide +kernel
theorem dX10_order_87 : decode cX10_order 87 = .ok (.invokevirtual 82, 3) := by decide +kernel
theorem dX10_order_90 : decode cX10_order 90 = .ok (.invokevirtual 95, 3) := by decide +kernel
theorem dX10_order_93 : decode cX10_order 93 = .ok (.istore 6, 2) := by decide +kernel
theorem dX10_order_95 : decode cX10_order 95 = .ok (.aload_n 0, 1) := by decide +kernel
theorem dX10_order_96 : decode cX10_order 96 = .ok (.getfield 29, 3) := by decide +kernel
theorem dX10_order_99 : decode cX10_order 99 = .ok (.iload 6, 2) := by decide +kernel
theorem dX10_order_101 : decode cX10_order 101 = .ok (.iload_n 2, 1) := by decide +kernel
theorem dX10_order_102 : decode cX10_order 102 = .ok (.invokevirtual 99, 3) := by decide +kernel
theorem dX10_order_105 : decode cX10_order 105 = .ok (.iload 5, 2) := by decide +kernel
theorem dX10_order_107 : decode cX10_order 107 = .ok (.iconst 1, 1) := by decide +kernel
theorem dX10_order_108 : decode cX10_order 108 = .ok (.if_icmp .le 13, 3) := by decide +kernel
theorem dX10_order_111 : decode cX10_order 111 = .ok (.aload_n 0, 1) := by decide +kernel
theorem dX10_order_112 : decode cX10_order 112 = .ok (.getfield 29, 3) := by decide +kernel
theorem dX10_order_115 : decode cX10_order 115 = .ok (.iload 6, 2) := by decide +kernel
theorem dX10_order_117 : decode cX10_order 117 = .ok (.iload_n 3, 1) := by decide +kernel
theorem dX10_order_118 : decode cX10_order 118 = .ok (.invokevirtual 99, 3) := by decide +kernel
theorem dX10_order_121 : decode cX10_order 121 = .ok (.iload 5, 2) := by decide +kernel
theorem dX10_order_123 : decode cX10_order 123 = .ok (.iconst 2, 1) := by decide +kernel
theorem dX10_order_124 : decode cX10_order 124 = .ok (.if_icmp .le 14, 3) := by decide +kernel
theorem dX10_order_127 : decode cX10_order 127 = .ok (.aload_n 0, 1) := by decide +kernel
theorem dX10_order_128 : decode cX10_order 128 = .ok (.getfield 29, 3) := by decide +kernel
theorem dX10_order_131 : decode cX10_order 131 = .ok (.iload 6, 2) := by decide +kernel
theorem dX10_order_133 : decode cX10_order 133 = .ok (.iload 4, 2) := by decide +kernel
theorem dX10_order_135 : decode cX10_order 135 = .ok (.invokevirtual 99, 3) := by decide +kernel
theorem dX10_order_138 : decode cX10_order 138 = .ok (.iload 6, 2) := by decide +kernel
theorem dX10_order_140 : decode cX10_order 140 = .ok (.ireturn, 1) := by decide +kernel
theorem dX10_cancel_0 : decode cX10_cancel 0 = .ok (.aload_n 0, 1) := by decide +kernel
theorem dX10_cancel_1 : decode cX10_cancel 1 = .ok (.getfield 29, 3) := by decide +kernel
theorem dX10_cancel_4 : decode cX10_cancel 4 = .ok (.iload_n 1, 1) := by decide +kernel
theorem dX10_cancel_5 : decode cX10_cancel 5 = .ok (.aload_n 0, 1) := by decide +kernel
theorem dX10_cancel_6 : decode cX10_cancel 6 = .ok (.getfield 38, 3) := by decide +kernel
theorem dX10_cancel_9 : decode cX10_cancel 9 = .ok (.invokevirtual 82, 3) := by decide +kernel
theorem dX10_cancel_12 : decode cX10_cancel 12 = .ok (.invokevirtual 103, 3) := by decide +kernel
theorem dX10_cancel_15 : decode cX10_cancel 15 = .ok (.ireturn, 1) := by decide +kernel
theorem dX10_tick_0 : decode cX10_tick 0 = .ok (.aload_n 0, 1) := by decide +kernel
theorem dX10_tick_1 : decode cX10_tick 1 = .ok (.iload_n 1, 1) := by decide +kernel
theorem dX10_tick_2 : decode cX10_tick 2 = .ok (.invokevirtual 107, 3) := by decide +kernel
theorem dX10_tick_5 : decode cX10_tick 5 = .ok (.istore_n 2, 1) := by decide +kernel
theorem dX10_tick_6 : decode cX10_tick 6 = .ok (.iload_n 2, 1) := by decide +kernel
theorem dX10_tick_7 : decode cX10_tick 7 = .ok (.ifCond .eq 5, 3) := by decide +kernel
theorem dX10_tick_10 : decode cX10_tick 10 = .ok (.iload_n 2, 1) := by decide +kernel
theorem dX10_tick_11 : decode cX10_tick 11 = .ok (.ireturn, 1) := by decide +kernel
theorem dX10_tick_12 : decode cX10_tick 12 = .ok (.iconst 0, 1) := by decide +kernel
theorem dX10_tick_13 : decode cX10_tick 13 = .ok (.istore_n 3, 1) := by decide +kernel
theorem dX10_tick_14 : decode cX10_tick 14 = .ok (.iload_n 3, 1) := by decide +kernel
theorem dX10_tick_15 : decode cX10_tick 15 = .ok (.iload_n 1, 1) := by decide +kernel
theorem dX10_tick_16 : decode cX10_tick 16 = .ok (.if_icmp .ge 16, 3) := by decide +kernel
theorem dX10_tick_19 : decode cX10_tick 19 = .ok (.aload_n 0, 1) := by decide +kernel
theorem dX10_tick_20 : decode cX10_tick 20 = .ok (.getfield 38, 3) := by decide +kernel
theorem dX10_tick_23 : decode cX10_tick 23 = .ok (.invokevirtual 110, 3) := by decide +kernel
theorem dX10_tick_26 : decode cX10_tick 26 = .ok (.iinc 3 1, 3) := by decide +kernel
theorem dX10_tick_29 : decode cX10_tick 29 = .ok (.goto (-15), 3) := by decide +kernel
theorem dX10_tick_32 : decode cX10_tick 32 = .ok (.aload_n 0, 1) := by decide +kernel
theorem dX10_tick_33 : decode cX10_tick 33 = .ok (.getfield 38, 3) := by decide +kernel
theorem dX10_tick_36 : decode cX10_tick 36 = .ok (.invokevirtual 82, 3) := by decide +kernel
theorem dX10_tick_39 : decode cX10_tick 39 = .ok (.ireturn, 1) := by decide +kernel
theorem dX10_settle_0 : decode cX10_settle 0 = .ok (.aload_n 0, 1) := by decide +kernel
theorem dX10_settle_1 : decode cX10_settle 1 = .ok (.iload_n 1, 1) := by decide +kernel
theorem dX10_settle_2 : decode cX10_settle 2 = .ok (.invokevirtual 107, 3) := by decide +kernel
theorem dX10_settle_5 : decode cX10_settle 5 = .ok (.istore_n 2, 1) := by decide +kernel
theorem dX10_settle_6 : decode cX10_settle 6 = .ok (.iload_n 2, 1) := by decide +kernel
theorem dX10_settle_7 : decode cX10_settle 7 = .ok (.ifCond .eq 5, 3) := by decide +kernel
theorem dX10_settle_10 : decode cX10_settle 10 = .ok (.iload_n 2, 1) := by decide +kernel
theorem dX10_settle_11 : decode cX10_settle 11 = .ok (.ireturn, 1) := by decide +kernel
theorem dX10_settle_12 : decode cX10_settle 12 = .ok (.iconst 0, 1) := by decide +kernel
theorem dX10_settle_13 : decode cX10_settle 13 = .ok (.istore_n 3, 1) := by decide +kernel
theorem dX10_settle_14 : decode cX10_settle 14 = .ok (.iload_n 3, 1) := by decide +kernel
theorem dX10_settle_15 : decode cX10_settle 15 = .ok (.iload_n 1, 1) := by decide +kernel
theorem dX10_settle_16 : decode cX10_settle 16 = .ok (.if_icmp .ge 26, 3) := by decide +kernel
theorem dX10_settle_19 : decode cX10_settle 19 = .ok (.aload_n 0, 1) := by decide +kernel
theorem dX10_settle_20 : decode cX10_settle 20 = .ok (.getfield 29, 3) := by decide +kernel
theorem dX10_settle_23 : decode cX10_settle 23 = .ok (.invokevirtual 113, 3) := by decide +kernel
theorem dX10_settle_26 : decode cX10_settle 26 = .ok (.ifCond .le 16, 3) := by decide +kernel
theorem dX10_settle_29 : decode cX10_settle 29 = .ok (.aload_n 0, 1) := by decide +kernel
theorem dX10_settle_30 : decode cX10_settle 30 = .ok (.getfield 38, 3) := by decide +kernel
theorem dX10_settle_33 : decode cX10_settle 33 = .ok (.invokevirtual 110, 3) := by decide +kernel
theorem dX10_settle_36 : decode cX10_settle 36 = .ok (.iinc 3 1, 3) := by decide +kernel
theorem dX10_settle_39 : decode cX10_settle 39 = .ok (.goto (-25), 3) := by decide +kernel
theorem dX10_settle_42 : decode cX10_settle 42 = .ok (.iload_n 3, 1) := by decide +kernel
theorem dX10_settle_43 : decode cX10_settle 43 = .ok (.ireturn, 1) := by decide +kernel
theorem dX10_robotOf_0 : decode cX10_robotOf 0 = .ok (.aload_n 0, 1) := by decide +kernel
theorem dX10_robotOf_1 : decode cX10_robotOf 1 = .ok (.getfield 38, 3) := by decide +kernel
theorem dX10_robotOf_4 : decode cX10_robotOf 4 = .ok (.iload_n 1, 1) := by decide +kernel
theorem dX10_robotOf_5 : decode cX10_robotOf 5 = .ok (.iload_n 2, 1) := by decide +kernel
theorem dX10_robotOf_6 : decode cX10_robotOf 6 = .ok (.invokevirtual 116, 3) := by decide +kernel
theorem dX10_robotOf_9 : decode cX10_robotOf 9 = .ok (.ireturn, 1) := by decide +kernel
theorem dX10_ahead_0 : decode cX10_ahead 0 = .ok (.aload_n 0, 1) := by decide +kernel
theorem dX10_ahead_1 : decode cX10_ahead 1 = .ok (.getfield 38, 3) := by decide +kernel
theorem dX10_ahead_4 : decode cX10_ahead 4 = .ok (.iload_n 1, 1) := by decide +kernel
theorem dX10_ahead_5 : decode cX10_ahead 5 = .ok (.iload_n 2, 1) := by decide +kernel
theorem dX10_ahead_6 : decode cX10_ahead 6 = .ok (.invokevirtual 119, 3) := by decide +kernel
theorem dX10_ahead_9 : decode cX10_ahead 9 = .ok (.ireturn, 1) := by decide +kernel
theorem dX10_was_0 : decode cX10_was 0 = .ok (.aload_n 0, 1) := by decide +kernel
theorem dX10_was_1 : decode cX10_was 1 = .ok (.getfield 38, 3) := by decide +kernel
theorem dX10_was_4 : decode cX10_was 4 = .ok (.iload_n 1, 1) := by decide +kernel
theorem dX10_was_5 : decode cX10_was 5 = .ok (.iload_n 2, 1) := by decide +kernel
theorem dX10_was_6 : decode cX10_was 6 = .ok (.invokevirtual 122, 3) := by decide +kernel
theorem dX10_was_9 : decode cX10_was 9 = .ok (.ireturn, 1) := by decide +kernel
theorem dX10_task_0 : decode cX10_task 0 = .ok (.aload_n 0, 1) := by decide +kernel
theorem dX10_task_1 : decode cX10_task 1 = .ok (.getfield 29, 3) := by decide +kernel
theorem dX10_task_4 : decode cX10_task 4 = .ok (.iload_n 1, 1) := by decide +kernel
theorem dX10_task_5 : decode cX10_task 5 = .ok (.iload_n 2, 1) := by decide +kernel
theorem dX10_task_6 : decode cX10_task 6 = .ok (.invokevirtual 125, 3) := by decide +kernel
theorem dX10_task_9 : decode cX10_task 9 = .ok (.ireturn, 1) := by decide +kernel
theorem dX10_orderOf_0 : decode cX10_orderOf 0 = .ok (.aload_n 0, 1) := by decide +kernel
theorem dX10_orderOf_1 : decode cX10_orderOf 1 = .ok (.getfield 29, 3) := by decide +kernel
theorem dX10_orderOf_4 : decode cX10_orderOf 4 = .ok (.iload_n 1, 1) := by decide +kernel
theorem dX10_orderOf_5 : decode cX10_orderOf 5 = .ok (.iload_n 2, 1) := by decide +kernel
theorem dX10_orderOf_6 : decode cX10_orderOf 6 = .ok (.invokevirtual 128, 3) := by decide +kernel
theorem dX10_orderOf_9 : decode cX10_orderOf 9 = .ok (.ireturn, 1) := by decide +kernel
theorem dX10_count_0 : decode cX10_count 0 = .ok (.iload_n 1, 1) := by decide +kernel
theorem dX10_count_1 : decode cX10_count 1 = .ok (.tableswitch 147 0 10 #[59, 67, 75, 83, 91, 99, 107, 115, 123, 131, 139], 59) := by decide +kernel
theorem dX10_count_60 : decode cX10_count 60 = .ok (.aload_n 0, 1) := by decide +kernel
theorem dX10_count_61 : decode cX10_count 61 = .ok (.getfield 12, 3) := by decide +kernel
theorem dX10_count_64 : decode cX10_count 64 = .ok (.invokevirtual 64, 3) := by decide +kernel
theorem dX10_count_67 : decode cX10_count 67 = .ok (.ireturn, 1) := by decide +kernel
theorem dX10_count_68 : decode cX10_count 68 = .ok (.aload_n 0, 1) := by decide +kernel
theorem dX10_count_69 : decode cX10_count 69 = .ok (.getfield 38, 3) := by decide +kernel
theorem dX10_count_72 : decode cX10_count 72 = .ok (.invokevirtual 131, 3) := by decide +kernel
theorem dX10_count_75 : decode cX10_count 75 = .ok (.ireturn, 1) := by decide +kernel
theorem dX10_count_76 : decode cX10_count 76 = .ok (.aload_n 0, 1) := by decide +kernel
theorem dX10_count_77 : decode cX10_count 77 = .ok (.getfield 29, 3) := by decide +kernel
theorem dX10_count_80 : decode cX10_count 80 = .ok (.invokevirtual 132, 3) := by decide +kernel
theorem dX10_count_83 : decode cX10_count 83 = .ok (.ireturn, 1) := by decide +kernel
theorem dX10_count_84 : decode cX10_count 84 = .ok (.aload_n 0, 1) := by decide +kernel
theorem dX10_count_85 : decode cX10_count 85 = .ok (.getfield 29, 3) := by decide +kernel
theorem dX10_count_88 : decode cX10_count 88 = .ok (.invokevirtual 113, 3) := by decide +kernel
theorem dX10_count_91 : decode cX10_count 91 = .ok (.ireturn, 1) := by decide +kernel
theorem dX10_count_92 : decode cX10_count 92 = .ok (.aload_n 0, 1) := by decide +kernel
theorem dX10_count_93 : decode cX10_count 93 = .ok (.getfield 29, 3) := by decide +kernel
theorem dX10_count_96 : decode cX10_count 96 = .ok (.invokevirtual 133, 3) := by decide +kernel
theorem dX10_count_99 : decode cX10_count 99 = .ok (.ireturn, 1) := by decide +kernel
theorem dX10_count_100 : decode cX10_count 100 = .ok (.aload_n 0, 1) := by decide +kernel
theorem dX10_count_101 : decode cX10_count 101 = .ok (.getfield 29, 3) := by decide +kernel
theorem dX10_count_104 : decode cX10_count 104 = .ok (.invokevirtual 136, 3) := by decide +kernel
theorem dX10_count_107 : decode cX10_count 107 = .ok (.ireturn, 1) := by decide +kernel
theorem dX10_count_108 : decode cX10_count 108 = .ok (.aload_n 0, 1) := by decide +kernel
theorem dX10_count_109 : decode cX10_count 109 = .ok (.getfield 38, 3) := by decide +kernel
theorem dX10_count_112 : decode cX10_count 112 = .ok (.invokevirtual 82, 3) := by decide +kernel
theorem dX10_count_115 : decode cX10_count 115 = .ok (.ireturn, 1) := by decide +kernel
theorem dX10_count_116 : decode cX10_count 116 = .ok (.aload_n 0, 1) := by decide +kernel
theorem dX10_count_117 : decode cX10_count 117 = .ok (.getfield 38, 3) := by decide +kernel
theorem dX10_count_120 : decode cX10_count 120 = .ok (.invokevirtual 139, 3) := by decide +kernel
theorem dX10_count_123 : decode cX10_count 123 = .ok (.ireturn, 1) := by decide +kernel
theorem dX10_count_124 : decode cX10_count 124 = .ok (.aload_n 0, 1) := by decide +kernel
theorem dX10_count_125 : decode cX10_count 125 = .ok (.getfield 38, 3) := by decide +kernel
theorem dX10_count_128 : decode cX10_count 128 = .ok (.invokevirtual 142, 3) := by decide +kernel
theorem dX10_count_131 : decode cX10_count 131 = .ok (.ireturn, 1) := by decide +kernel
theorem dX10_count_132 : decode cX10_count 132 = .ok (.aload_n 0, 1) := by decide +kernel
theorem dX10_count_133 : decode cX10_count 133 = .ok (.getfield 38, 3) := by decide +kernel
theorem dX10_count_136 : decode cX10_count 136 = .ok (.invokevirtual 145, 3) := by decide +kernel
theorem dX10_count_139 : decode cX10_count 139 = .ok (.ireturn, 1) := by decide +kernel
theorem dX10_count_140 : decode cX10_count 140 = .ok (.aload_n 0, 1) := by decide +kernel
theorem dX10_count_141 : decode cX10_count 141 = .ok (.getfield 38, 3) := by decide +kernel
theorem dX10_count_144 : decode cX10_count 144 = .ok (.invokevirtual 148, 3) := by decide +kernel
theorem dX10_count_147 : decode cX10_count 147 = .ok (.ireturn, 1) := by decide +kernel
theorem dX10_count_148 : decode cX10_count 148 = .ok (.bipush (-2), 2) := by decide +kernel
theorem dX10_count_150 : decode cX10_count 150 = .ok (.ireturn, 1) := by decide +kernel
theorem dX10_findFault_0 : decode cX10_findFault 0 = .ok (.aload_n 0, 1) := by decide +kernel
theorem dX10_findFault_1 : decode cX10_findFault 1 = .ok (.getfield 22, 3) := by decide +kernel
theorem dX10_findFault_4 : decode cX10_findFault 4 = .ok (.invokevirtual 151, 3) := by decide +kernel
theorem dX10_findFault_7 : decode cX10_findFault 7 = .ok (.istore_n 1, 1) := by decide +kernel
theorem dX10_findFault_8 : decode cX10_findFault 8 = .ok (.iload_n 1, 1) := by decide +kernel
theorem dX10_findFault_9 : decode cX10_findFault 9 = .ok (.ifCond .eq 16, 3) := by decide +kernel
theorem dX10_findFault_12 : decode cX10_findFault 12 = .ok (.aload_n 0, 1) := by decide +kernel
theorem dX10_findFault_13 : decode cX10_findFault 13 = .ok (.aload_n 0, 1) := by decide +kernel
theorem dX10_findFault_14 : decode cX10_findFault 14 = .ok (.getfield 22, 3) := by decide +kernel
theorem dX10_findFault_17 : decode cX10_findFault 17 = .ok (.invokevirtual 152, 3) := by decide +kernel
theorem dX10_findFault_20 : decode cX10_findFault 20 = .ok (.putfield 42, 3) := by decide +kernel
theorem dX10_findFault_23 : decode cX10_findFault 23 = .ok (.iload_n 1, 1) := by decide +kernel
theorem dX10_findFault_24 : decode cX10_findFault 24 = .ok (.ireturn, 1) := by decide +kernel
theorem dX10_findFault_25 : decode cX10_findFault 25 = .ok (.aload_n 0, 1) := by decide +kernel
theorem dX10_findFault_26 : decode cX10_findFault 26 = .ok (.getfield 16, 3) := by decide +kernel
theorem dX10_findFault_29 : decode cX10_findFault 29 = .ok (.aload_n 0, 1) := by decide +kernel
theorem dX10_findFault_30 : decode cX10_findFault 30 = .ok (.getfield 22, 3) := by decide +kernel
theorem dX10_findFault_33 : decode cX10_findFault 33 = .ok (.invokevirtual 154, 3) := by decide +kernel
theorem dX10_findFault_36 : decode cX10_findFault 36 = .ok (.aload_n 0, 1) := by decide +kernel
theorem dX10_findFault_37 : decode cX10_findFault 37 = .ok (.getfield 16, 3) := by decide +kernel
theorem dX10_findFault_40 : decode cX10_findFault 40 = .ok (.invokevirtual 158, 3) := by decide +kernel
theorem dX10_findFault_43 : decode cX10_findFault 43 = .ok (.ifCond .ne 17, 3) := by decide +kernel
theorem dX10_findFault_46 : decode cX10_findFault 46 = .ok (.aload_n 0, 1) := by decide +kernel
theorem dX10_findFault_47 : decode cX10_findFault 47 = .ok (.aload_n 0, 1) := by decide +kernel
theorem dX10_findFault_48 : decode cX10_findFault 48 = .ok (.getfield 22, 3) := by decide +kernel
theorem dX10_findFault_51 : decode cX10_findFault 51 = .ok (.invokevirtual 162, 3) := by decide +kernel
theorem dX10_findFault_54 : decode cX10_findFault 54 = .ok (.putfield 42, 3) := by decide +kernel
theorem dX10_findFault_57 : decode cX10_findFault 57 = .ok (.bipush (-13), 2) := by decide +kernel
theorem dX10_findFault_59 : decode cX10_findFault 59 = .ok (.ireturn, 1) := by decide +kernel
theorem dX10_findFault_60 : decode cX10_findFault 60 = .ok (.aload_n 0, 1) := by decide +kernel
theorem dX10_findFault_61 : decode cX10_findFault 61 = .ok (.getfield 16, 3) := by decide +kernel
theorem dX10_findFault_64 : decode cX10_findFault 64 = .ok (.invokevirtual 165, 3) := by decide +kernel
theorem dX10_findFault_67 : decode cX10_findFault 67 = .ok (.istore_n 2, 1) := by decide +kernel
theorem dX10_findFault_68 : decode cX10_findFault 68 = .ok (.iload_n 2, 1) := by decide +kernel
theorem dX10_findFault_69 : decode cX10_findFault 69 = .ok (.iconst (-1), 1) := by decide +kernel
theorem dX10_findFault_70 : decode cX10_findFault 70 = .ok (.if_icmp .eq 18, 3) := by decide +kernel
theorem dX10_findFault_73 : decode cX10_findFault 73 = .ok (.aload_n 0, 1) := by decide +kernel
theorem dX10_findFault_74 : decode cX10_findFault 74 = .ok (.aload_n 0, 1) := by decide +kernel
theorem dX10_findFault_75 : decode cX10_findFault 75 = .ok (.getfield 16, 3) := by decide +kernel
theorem dX10_findFault_78 : decode cX10_findFault 78 = .ok (.iload_n 2, 1) := by decide +kernel
theorem dX10_findFault_79 : decode cX10_findFault 79 = .ok (.invokevirtual 168, 3) := by decide +kernel
theorem dX10_findFault_82 : decode cX10_findFault 82 = .ok (.putfield 42, 3) := by decide +kernel
theorem dX10_findFault_85 : decode cX10_findFault 85 = .ok (.bipush (-14), 2) := by decide +kernel
theorem dX10_findFault_87 : decode cX10_findFault 87 = .ok (.ireturn, 1) := by decide +kernel
theorem dX10_findFault_88 : decode cX10_findFault 88 = .ok (.aload_n 0, 1) := by decide +kernel
theorem dX10_findFault_89 : decode cX10_findFault 89 = .ok (.iconst (-1), 1) := by decide +kernel
theorem dX10_findFault_90 : decode cX10_findFault 90 = .ok (.putfield 42, 3) := by decide +kernel
theorem dX10_findFault_93 : decode cX10_findFault 93 = .ok (.iconst 0, 1) := by decide +kernel
theorem dX10_findFault_94 : decode cX10_findFault 94 = .ok (.ireturn, 1) := by decide +kernel
theorem dX10_areShelves_0 : decode cX10_areShelves 0 = .ok (.aload_n 0, 1) := by decide +kernel
theorem dX10_areShelves_1 : decode cX10_areShelves 1 = .ok (.getfield 12, 3) := by decide +kernel
theorem dX10_areShelves_4 : decode cX10_areShelves 4 = .ok (.iload_n 1, 1) := by decide +kernel
theorem dX10_areShelves_5 : decode cX10_areShelves 5 = .ok (.invokevirtual 67, 3) := by decide +kernel
theorem dX10_areShelves_8 : decode cX10_areShelves 8 = .ok (.iconst 2, 1) := by decide +kernel
theorem dX10_areShelves_9 : decode cX10_areShelves 9 = .ok (.if_icmp .eq 5, 3) := by decide +kernel
theorem dX10_areShelves_12 : decode cX10_areShelves 12 = .ok (.iconst 0, 1) := by decide +kernel
theorem dX10_areShelves_13 : decode cX10_areShelves 13 = .ok (.ireturn, 1) := by decide +kernel
theorem dX10_areShelves_14 : decode cX10_areShelves 14 = .ok (.iload_n 2, 1) := by decide +kernel
theorem dX10_areShelves_15 : decode cX10_areShelves 15 = .ok (.iconst (-1), 1) := by decide +kernel
theorem dX10_areShelves_16 : decode cX10_areShelves 16 = .ok (.if_icmp .ne 14, 3) := by decide +kernel
theorem dX10_areShelves_19 : decode cX10_areShelves 19 = .ok (.iload_n 3, 1) := by decide +kernel
theorem dX10_areShelves_20 : decode cX10_areShelves 20 = .ok (.iconst (-1), 1) := by decide +kernel
theorem dX10_areShelves_21 : decode cX10_areShelves 21 = .ok (.if_icmp .ne 7, 3) := by decide +kernel
theorem dX10_areShelves_24 : decode cX10_areShelves 24 = .ok (.iconst 1, 1) := by decide +kernel
theorem dX10_areShelves_25 : decode cX10_areShelves 25 = .ok (.goto 4, 3) := by decide +kernel
theorem dX10_areShelves_28 : decode cX10_areShelves 28 = .ok (.iconst 0, 1) := by decide +kernel
theorem dX10_areShelves_29 : decode cX10_areShelves 29 = .ok (.ireturn, 1) := by decide +kernel
theorem dX10_areShelves_30 : decode cX10_areShelves 30 = .ok (.aload_n 0, 1) := by decide +kernel
theorem dX10_areShelves_31 : decode cX10_areShelves 31 = .ok (.getfield 12, 3) := by decide +kernel
theorem dX10_areShelves_34 : decode cX10_areShelves 34 = .ok (.iload_n 2, 1) := by decide +kernel
theorem dX10_areShelves_35 : decode cX10_areShelves 35 = .ok (.invokevirtual 67, 3) := by decide +kernel
theorem dX10_areShelves_38 : decode cX10_areShelves 38 = .ok (.iconst 2, 1) := by decide +kernel
theorem dX10_areShelves_39 : decode cX10_areShelves 39 = .ok (.if_icmp .ne 24, 3) := by decide +kernel
theorem dX10_areShelves_42 : decode cX10_areShelves 42 = .ok (.iload_n 3, 1) := by decide +kernel
theorem dX10_areShelves_43 : decode cX10_areShelves 43 = .ok (.iconst (-1), 1) := by decide +kernel
theorem dX10_areShelves_44 : decode cX10_areShelves 44 = .ok (.if_icmp .eq 15, 3) := by decide +kernel
theorem dX10_areShelves_47 : decode cX10_areShelves 47 = .ok (.aload_n 0, 1) := by decide +kernel
theorem dX10_areShelves_48 : decode cX10_areShelves 48 = .ok (.getfield 12, 3) := by decide +kernel
theorem dX10_areShelves_51 : decode cX10_areShelves 51 = .ok (.iload_n 3, 1) := by decide +kernel
theorem dX10_areShelves_52 : decode cX10_areShelves 52 = .ok (.invokevirtual 67, 3) := by decide +kernel
theorem dX10_areShelves_55 : decode cX10_areShelves 55 = .ok (.iconst 2, 1) := by decide +kernel
theorem dX10_areShelves_56 : decode cX10_areShelves 56 = .ok (.if_icmp .ne 7, 3) := by decide +kernel
theorem dX10_areShelves_59 : decode cX10_areShelves 59 = .ok (.iconst 1, 1) := by decide +kernel
theorem dX10_areShelves_60 : decode cX10_areShelves 60 = .ok (.goto 4, 3) := by decide +kernel
theorem dX10_areShelves_63 : decode cX10_areShelves 63 = .ok (.iconst 0, 1) := by decide +kernel
theorem dX10_areShelves_64 : decode cX10_areShelves 64 = .ok (.ireturn, 1) := by decide +kernel
theorem dX10_refusalOfTicks_0 : decode cX10_refusalOfTicks 0 = .ok (.aload_n 0, 1) := by decide +kernel
theorem dX10_refusalOfTicks_1 : decode cX10_refusalOfTicks 1 = .ok (.getfield 38, 3) := by decide +kernel
theorem dX10_refusalOfTicks_4 : decode cX10_refusalOfTicks 4 = .ok (.invokevirtual 131, 3) := by decide +kernel
theorem dX10_refusalOfTicks_7 : decode cX10_refusalOfTicks 7 = .ok (.ifCond .ne 6, 3) := by decide +kernel
theorem dX10_refusalOfTicks_10 : decode cX10_refusalOfTicks 10 = .ok (.bipush (-4), 2) := by decide +kernel
theorem dX10_refusalOfTicks_12 : decode cX10_refusalOfTicks 12 = .ok (.ireturn, 1) := by decide +kernel
theorem dX10_refusalOfTicks_13 : decode cX10_refusalOfTicks 13 = .ok (.iload_n 1, 1) := by decide +kernel
theorem dX10_refusalOfTicks_14 : decode cX10_refusalOfTicks 14 = .ok (.iconst 1, 1) := by decide +kernel
theorem dX10_refusalOfTicks_15 : decode cX10_refusalOfTicks 15 = .ok (.if_icmp .lt 10, 3) := by decide +kernel
theorem dX10_refusalOfTicks_18 : decode cX10_refusalOfTicks 18 = .ok (.iload_n 1, 1) := by decide +kernel
theorem dX10_refusalOfTicks_19 : decode cX10_refusalOfTicks 19 = .ok (.sipush 200, 3) := by decide +kernel
theorem dX10_refusalOfTicks_22 : decode cX10_refusalOfTicks 22 = .ok (.if_icmp .le 6, 3) := by decide +kernel
theorem dX10_refusalOfTicks_25 : decode cX10_refusalOfTicks 25 = .ok (.bipush (-2), 2) := by decide +kernel
theorem dX10_refusalOfTicks_27 : decode cX10_refusalOfTicks 27 = .ok (.ireturn, 1) := by decide +kernel
theorem dX10_refusalOfTicks_28 : decode cX10_refusalOfTicks 28 = .ok (.aload_n 0, 1) := by decide +kernel
theorem dX10_refusalOfTicks_29 : decode cX10_refusalOfTicks 29 = .ok (.getfield 38, 3) := by decide +kernel
theorem dX10_refusalOfTicks_32 : decode cX10_refusalOfTicks 32 = .ok (.invokevirtual 82, 3) := by decide +kernel
theorem dX10_refusalOfTicks_35 : decode cX10_refusalOfTicks 35 = .ok (.iload_n 1, 1) := by decide +kernel
theorem dX10_refusalOfTicks_36 : decode cX10_refusalOfTicks 36 = .ok (.iadd, 1) := by decide +kernel
theorem dX10_refusalOfTicks_37 : decode cX10_refusalOfTicks 37 = .ok (.sipush 4000, 3) := by decide +kernel
theorem dX10_refusalOfTicks_40 : decode cX10_refusalOfTicks 40 = .ok (.if_icmp .le 8, 3) := by decide +kernel
theorem dX10_refusalOfTicks_43 : decode cX10_refusalOfTicks 43 = .ok (.bipush (-3), 2) := by decide +kernel
theorem dX10_refusalOfTicks_45 : decode cX10_refusalOfTicks 45 = .ok (.goto 4, 3) := by decide +kernel
theorem dX10_refusalOfTicks_48 : decode cX10_refusalOfTicks 48 = .ok (.iconst 0, 1) := by decide +kernel
theorem dX10_refusalOfTicks_49 : decode cX10_refusalOfTicks 49 = .ok (.ireturn, 1) := by decide +kernel
end
section
theorem dX11_init_0 : decode cX11_init 0 = .ok (.aload_n 0, 1) := by decide +kernel
theorem dX11_init_1 : decode cX11_init 1 = .ok (.invokespecial 1, 3) := by decide +kernel
theorem dX11_init_4 : decode cX11_init 4 = .ok (.aload_n 0, 1) := by decide +kernel
theorem dX11_init_5 : decode cX11_init 5 = .ok (.bipush 90, 2) := by decide +kernel
theorem dX11_init_7 : decode cX11_init 7 = .ok (.newarray .int, 2) := by decide +kernel
theorem dX11_init_9 : decode cX11_init 9 = .ok (.putfield 7, 3) := by decide +kernel
theorem dX11_init_12 : decode cX11_init 12 = .ok (.aload_n 0, 1) := by decide +kernel
theorem dX11_init_13 : decode cX11_init 13 = .ok (.iconst (-1), 1) := by decide +kernel
theorem dX11_init_14 : decode cX11_init 14 = .ok (.putfield 13, 3) := by decide +kernel
theorem dX11_init_17 : decode cX11_init 17 = .ok (.aload_n 0, 1) := by decide +kernel
theorem dX11_init_18 : decode cX11_init 18 = .ok (.bipush 80, 2) := by decide +kernel
theorem dX11_init_20 : decode cX11_init 20 = .ok (.newarray .int, 2) := by decide +kernel
theorem dX11_init_22 : decode cX11_init 22 = .ok (.putfield 17, 3) := by decide +kernel
theorem dX11_init_25 : decode cX11_init 25 = .ok (.aload_n 0, 1) := by decide +kernel
theorem dX11_init_26 : decode cX11_init 26 = .ok (.bipush 80, 2) := by decide +kernel
theorem dX11_init_28 : decode cX11_init 28 = .ok (.newarray .int, 2) := by decide +kernel
theorem dX11_init_30 : decode cX11_init 30 = .ok (.putfield 20, 3) := by decide +kernel
theorem dX11_init_33 : decode cX11_init 33 = .ok (.aload_n 0, 1) := by decide +kernel
theorem dX11_init_34 : decode cX11_init 34 = .ok (.sipush 6400, 3) := by decide +kernel
theorem dX11_init_37 : decode cX11_init 37 = .ok (.newarray .int, 2) := by decide +kernel
theorem dX11_init_39 : decode cX11_init 39 = .ok (.putfield 23, 3) := by decide +kernel
theorem dX11_init_42 : decode cX11_init 42 = .ok (.aload_n 0, 1) := by decide +kernel
theorem dX11_init_43 : decode cX11_init 43 = .ok (.bipush 80, 2) := by decide +kernel
theorem dX11_init_45 : decode cX11_init 45 = .ok (.newarray .boolean, 2) := by decide +kernel
theorem dX11_init_47 : decode cX11_init 47 = .ok (.putfield 26, 3) := by decide +kernel
theorem dX11_init_50 : decode cX11_init 50 = .ok (.aload_n 0, 1) := by decide +kernel
theorem dX11_init_51 : decode cX11_init 51 = .ok (.sipush 31200, 3) := by decide +kernel
theorem dX11_init_54 : decode cX11_init 54 = .ok (.newarray .int, 2) := by decide +kernel
theorem dX11_init_56 : decode cX11_init 56 = .ok (.putfield 30, 3) := by decide +kernel
theorem dX11_init_59 : decode cX11_init 59 = .ok (.aload_n 0, 1) := by decide +kernel
theorem dX11_init_60 : decode cX11_init 60 = .ok (.bipush 6, 2) := by decide +kernel
theorem dX11_init_62 : decode cX11_init 62 = .ok (.newarray .int, 2) := by decide +kernel
theorem dX11_init_64 : decode cX11_init 64 = .ok (.putfield 33, 3) := by decide +kernel
theorem dX11_init_67 : decode cX11_init 67 = .ok (.aload_n 0, 1) := by decide +kernel
theorem dX11_init_68 : decode cX11_init 68 = .ok (.bipush 6, 2) := by decide +kernel
theorem dX11_init_70 : decode cX11_init 70 = .ok (.newarray .int, 2) := by decide +kernel
theorem dX11_init_72 : decode cX11_init 72 = .ok (.putfield 36, 3) := by decide +kernel
theorem dX11_init_75 : decode cX11_init 75 = .ok (.aload_n 0, 1) := by decide +kernel
theorem dX11_init_76 : decode cX11_init 76 = .ok (.bipush 6, 2) := by decide +kernel
theorem dX11_init_78 : decode cX11_init 78 = .ok (.newarray .int, 2) := by decide +kernel
theorem dX11_init_80 : decode cX11_init 80 = .ok (.putfield 39, 3) := by decide +kernel
theorem dX11_init_83 : decode cX11_init 83 = .ok (.aload_n 0, 1) := by decide +kernel
theorem dX11_init_84 : decode cX11_init 84 = .ok (.bipush 6, 2) := by decide +kernel
theorem dX11_init_86 : decode cX11_init 86 = .ok (.newarray .int, 2) := by decide +kernel
theorem dX11_init_88 : decode cX11_init 88 = .ok (.putfield 42, 3) := by decide +kernel
theorem dX11_init_91 : decode cX11_init 91 = .ok (.aload_n 0, 1) := by decide +kernel
theorem dX11_init_92 : decode cX11_init 92 = .ok (.bipush 6, 2) := by decide +kernel
theorem dX11_init_94 : decode cX11_init 94 = .ok (.newarray .int, 2) := by decide +kernel
theorem dX11_init_96 : decode cX11_init 96 = .ok (.putfield 45, 3) := by decide +kernel
theorem dX11_init_99 : decode cX11_init 99 = .ok (.aload_n 0, 1) := by decide +kernel
theorem dX11_init_100 : decode cX11_init 100 = .ok (.bipush 40, 2) := by decide +kernel
theorem dX11_init_102 : decode cX11_init 102 = .ok (.newarray .int, 2) := by decide +kernel
theorem dX11_init_104 : decode cX11_init 104 = .ok (.putfield 48, 3) := by decide +kernel
theorem dX11_init_107 : decode cX11_init 107 = .ok (.aload_n 0, 1) := by decide +kernel
theorem dX11_init_108 : decode cX11_init 108 = .ok (.bipush 40, 2) := by decide +kernel
theorem dX11_init_110 : decode cX11_init 110 = .ok (.newarray .int, 2) := by decide +kernel
theorem dX11_init_112 : decode cX11_init 112 = .ok (.putfield 51, 3) := by decide +kernel
theorem dX11_init_115 : decode cX11_init 115 = .ok (.aload_n 0, 1) := by decide +kernel
theorem dX11_init_116 : decode cX11_init 116 = .ok (.bipush 40, 2) := by decide +kernel
theorem dX11_init_118 : decode cX11_init 118 = .ok (.newarray .int, 2) := by decide +kernel
theorem dX11_init_120 : decode cX11_init 120 = .ok (.putfield 54, 3) := by decide +kernel
theorem dX11_init_123 : decode cX11_init 123 = .ok (.aload_n 0, 1) := by decide +kernel
theorem dX11_init_124 : decode cX11_init 124 = .ok (.bipush 40, 2) := by decide +kernel
theorem dX11_init_126 : decode cX11_init 126 = .ok (.newarray .int, 2) := by decide +kernel
theorem dX11_init_128 : decode cX11_init 128 = .ok (.putfield 57, 3) := by decide +kernel
theorem dX11_init_131 : decode cX11_init 131 = .ok (.aload_n 0, 1) := by decide +kernel
theorem dX11_init_132 : decode cX11_init 132 = .ok (.bipush 40, 2) := by decide +kernel
theorem dX11_init_134 : decode cX11_init 134 = .ok (.newarray .int, 2) := by decide +kernel
theorem dX11_init_136 : decode cX11_init 136 = .ok (.putfield 60, 3) := by decide +kernel
theorem dX11_init_139 : decode cX11_init 139 = .ok (.aload_n 0, 1) := by decide +kernel
theorem dX11_init_140 : decode cX11_init 140 = .ok (.bipush 90, 2) := by decide +kernel
theorem dX11_init_142 : decode cX11_init 142 = .ok (.newarray .int, 2) := by decide +kernel
theorem dX11_init_144 : decode cX11_init 144 = .ok (.putfield 63, 3) := by decide +kernel
theorem dX11_init_147 : decode cX11_init 147 = .ok (.aload_n 0, 1) := by decide +kernel
theorem dX11_init_148 : decode cX11_init 148 = .ok (.bipush 90, 2) := by decide +kernel
theorem dX11_init_150 : decode cX11_init 150 = .ok (.newarray .int, 2) := by decide +kernel
theorem dX11_init_152 : decode cX11_init 152 = .ok (.putfield 66, 3) := by decide +kernel
theorem dX11_init_155 : decode cX11_init 155 = .ok (.aload_n 0, 1) := by decide +kernel
theorem dX11_init_156 : decode cX11_init 156 = .ok (.bipush 90, 2) := by decide +kernel
theorem dX11_init_158 : decode cX11_init 158 = .ok (.newarray .int, 2) := by decide +kernel
theorem dX11_init_160 : decode cX11_init 160 = .ok (.putfield 69, 3) := by decide +kernel
theorem dX11_init_163 : decode cX11_init 163 = .ok (.aload_n 0, 1) := by decide +kernel
theorem dX11_init_164 : decode cX11_init 164 = .ok (.bipush 90, 2) := by decide +kernel
theorem dX11_init_166 : decode cX11_init 166 = .ok (.newarray .int, 2) := by decide +kernel
theorem dX11_init_168 : decode cX11_init 168 = .ok (.putfield 72, 3) := by decide +kernel
theorem dX11_init_171 : decode cX11_init 171 = .ok (.aload_n 0, 1) := by decide +kernel
theorem dX11_init_172 : decode cX11_init 172 = .ok (.bipush 90, 2) := by decide +kernel
theorem dX11_init_174 : decode cX11_init 174 = .ok (.newarray .int, 2) := by decide +kernel
theorem dX11_init_176 : decode cX11_init 176 = .ok (.putfield 75, 3) := by decide +kernel
theorem dX11_init_179 : decode cX11_init 179 = .ok (.aload_n 0, 1) := by decide +kernel
theorem dX11_init_180 : decode cX11_init 180 = .ok (.bipush 90, 2) := by decide +kernel
theorem dX11_init_182 : decode cX11_init 182 = .ok (.newarray .int, 2) := by decide +kernel
theorem dX11_init_184 : decode cX11_init 184 = .ok (.putfield 78, 3) := by decide +kernel
theorem dX11_init_187 : decode cX11_init 187 = .ok (.aload_n 0, 1) := by decide +kernel
theorem dX11_init_188 : decode cX11_init 188 = .ok (.bipush 90, 2) := by decide +kernel
theorem dX11_init_190 : decode cX11_init 190 = .ok (.newarray .int, 2) := by decide +kernel
theorem dX11_init_192 : decode cX11_init 192 = .ok (.putfield 81, 3) := by decide +kernel
theorem dX11_init_195 : decode cX11_init 195 = .ok (.aload_n 0, 1) := by decide +kernel
theorem dX11_init_196 : decode cX11_init 196 = .ok (.bipush 90, 2) := by decide +kernel
theorem dX11_init_198 : decode cX11_init 198 = .ok (.newarray .int, 2) := by decide +kernel
theorem dX11_init_200 : decode cX11_init 200 = .ok (.putfield 84, 3) := by decide +kernel
theorem dX11_init_203 : decode cX11_init 203 = .ok (.aload_n 0, 1) := by decide +kernel
theorem dX11_init_204 : decode cX11_init 204 = .ok (.ldc 87, 2) := by decide +kernel
theorem dX11_init_206 : decode cX11_init 206 = .ok (.newarray .boolean, 2) := by decide +kernel
theorem dX11_init_208 : decode cX11_init 208 = .ok (.putfield 88, 3) := by decide +kernel
theorem dX11_init_211 : decode cX11_init 211 = .ok (.aload_n 0, 1) := by decide +kernel
theorem dX11_init_212 : decode cX11_init 212 = .ok (.ldc 87, 2) := by decide +kernel
theorem dX11_init_214 : decode cX11_init 214 = .ok (.newarray .boolean, 2) := by decide +kernel
theorem dX11_init_216 : decode cX11_init 216 = .ok (.putfield 91, 3) := by decide +kernel
theorem dX11_init_219 : decode cX11_init 219 = .ok (.return_, 1) := by decide +kernel
theorem dX11_in_0 : decode cX11_in 0 = .ok (.iload_n 0, 1) := by decide +kernel
theorem dX11_in_1 : decode cX11_in 1 = .ok (.iload_n 1, 1) := by decide +kernel
theorem dX11_in_2 : decode cX11_in 2 = .ok (.if_icmp .lt 12, 3) := by decide +kernel
theorem dX11_in_5 : decode cX11_in 5 = .ok (.iload_n 0, 1) := by decide +kernel
theorem dX11_in_6 : decode cX11_in 6 = .ok (.iload_n 2, 1) := by decide +kernel
theorem dX11_in_7 : decode cX11_in 7 = .ok (.if_icmp .gt 7, 3) := by decide +kernel
theorem dX11_in_10 : decode cX11_in 10 = .ok (.iconst 1, 1) := by decide +kernel
theorem dX11_in_11 : decode cX11_in 11 = .ok (.goto 4, 3) := by decide +kernel
theorem dX11_in_14 : decode cX11_in 14 = .ok (.iconst 0, 1) := by decide +kernel
theorem dX11_in_15 : decode cX11_in 15 = .ok (.ireturn, 1) := by decide +kernel
theorem dX11_type_0 : decode cX11_type 0 = .ok (.iconst 0, 1) := by decide +kernel
theorem dX11_type_1 : decode cX11_type 1 = .ok (.istore_n 3, 1) := by decide +kernel
theorem dX11_type_2 : decode cX11_type 2 = .ok (.iload_n 3, 1) := by decide +kernel
theorem dX11_type_3 : decode cX11_type 3 = .ok (.bipush 8, 2) := by decide +kernel
theorem dX11_type_5 : decode cX11_type 5 = .ok (.if_icmp .ge 24, 3) := by decide +kernel
theorem dX11_type_8 : decode cX11_type 8 = .ok (.lload_n 1, 1) := by decide +kernel
theorem dX11_type_9 : decode cX11_type 9 = .ok (.bipush 8, 2) := by decide +kernel
theorem dX11_type_11 : decode cX11_type 11 = .ok (.iload_n 3, 1) := by decide +kernel
theorem dX11_type_12 : decode cX11_type 12 = .ok (.imul, 1) := by decide +kernel
theorem dX11_type_13 : decode cX11_type 13 = .ok (.lshr, 1) := by decide +kernel
theorem dX11_type_14 : decode cX11_type 14 = .ok (.ldc2_w 94, 3) := by decide +kernel
theorem dX11_type_17 : decode cX11_type 17 = .ok (.land, 1) := by decide +kernel
theorem dX11_type_18 : decode cX11_type 18 = .ok (.lconst 0, 1) := by decide +kernel
theorem dX11_type_19 : decode cX11_type 19 = .ok (.lcmp, 1) := by decide +kernel
theorem dX11_type_20 : decode cX11_type 20 = .ok (.ifCond .eq 9, 3) := by decide +kernel
theorem dX11_type_23 : decode cX11_type 23 = .ok (.iinc 3 1, 3) := by decide +kernel
theorem dX11_type_26 : decode cX11_type 26 = .ok (.goto (-24), 3) := by decide +kernel
theorem dX11_type_29 : decode cX11_type 29 = .ok (.aload_n 0, 1) := by decide +kernel
theorem dX11_type_30 : decode cX11_type 30 = .ok (.getfield 96, 3) := by decide +kernel
theorem dX11_type_33 : decode cX11_type 33 = .ok (.iload_n 3, 1) := by decide +kernel
theorem dX11_type_34 : decode cX11_type 34 = .ok (.iadd, 1) := by decide +kernel
theorem dX11_type_35 : decode cX11_type 35 = .ok (.bipush 90, 2) := by decide +kernel
theorem dX11_type_37 : decode cX11_type 37 = .ok (.if_icmp .le 6, 3) := by decide +kernel
theorem dX11_type_40 : decode cX11_type 40 = .ok (.bipush (-3), 2) := by decide +kernel
theorem dX11_type_42 : decode cX11_type 42 = .ok (.ireturn, 1) := by decide +kernel
theorem dX11_type_43 : decode cX11_type 43 = .ok (.iconst 0, 1) := by decide +kernel
theorem dX11_type_44 : decode cX11_type 44 = .ok (.istore 4, 2) := by decide +kernel
theorem dX11_type_46 : decode cX11_type 46 = .ok (.iload 4, 2) := by decide +kernel
theorem dX11_type_48 : decode cX11_type 48 = .ok (.iload_n 3, 1) := by decide +kernel
theorem dX11_type_49 : decode cX11_type 49 = .ok (.if_icmp .ge 40, 3) := by decide +kernel
theorem dX11_type_52 : decode cX11_type 52 = .ok (.aload_n 0, 1) := by decide +kernel
theorem dX11_type_53 : decode cX11_type 53 = .ok (.getfield 7, 3) := by decide +kernel
theorem dX11_type_56 : decode cX11_type 56 = .ok (.aload_n 0, 1) := by decide +kernel
theorem dX11_type_57 : decode cX11_type 57 = .ok (.getfield 96, 3) := by decide +kernel
theorem dX11_type_60 : decode cX11_type 60 = .ok (.lload_n 1, 1) := by decide +kernel
theorem dX11_type_61 : decode cX11_type 61 = .ok (.bipush 8, 2) := by decide +kernel
theorem dX11_type_63 : decode cX11_type 63 = .ok (.iload 4, 2) := by decide +kernel
theorem dX11_type_65 : decode cX11_type 65 = .ok (.imul, 1) := by decide +kernel
theorem dX11_type_66 : decode cX11_type 66 = .ok (.lshr, 1) := by decide +kernel
theorem dX11_type_67 : decode cX11_type 67 = .ok (.ldc2_w 94, 3) := by decide +kernel
theorem dX11_type_70 : decode cX11_type 70 = .ok (.land, 1) := by decide +kernel
theorem dX11_type_71 : decode cX11_type 71 = .ok (.l2i, 1) := by decide +kernel
theorem dX11_type_72 : decode cX11_type 72 = .ok (.iastore, 1) := by decide +kernel
theorem dX11_type_73 : decode cX11_type 73 = .ok (.aload_n 0, 1) := by decide +kernel
theorem dX11_type_74 : decode cX11_type 74 = .ok (.dup, 1) := by decide +kernel
theorem dX11_type_75 : decode cX11_type 75 = .ok (.getfield 96, 3) := by decide +kernel
theorem dX11_type_78 : decode cX11_type 78 = .ok (.iconst 1, 1) := by decide +kernel
theorem dX11_type_79 : decode cX11_type 79 = .ok (.iadd, 1) := by decide +kernel
theorem dX11_type_80 : decode cX11_type 80 = .ok (.putfield 96, 3) := by decide +kernel
theorem dX11_type_83 : decode cX11_type 83 = .ok (.iinc 4 1, 3) := by decide +kernel
theorem dX11_type_86 : decode cX11_type 86 = .ok (.goto (-40), 3) := by decide +kernel
theorem dX11_type_89 : decode cX11_type 89 = .ok (.aload_n 0, 1) := by decide +kernel
theorem dX11_type_90 : decode cX11_type 90 = .ok (.getfield 96, 3) := by decide +kernel
theorem dX11_type_93 : decode cX11_type 93 = .ok (.ireturn, 1) := by decide +kernel
theorem dX11_erase_0 : decode cX11_erase 0 = .ok (.aload_n 0, 1) := by decide +kernel
theorem dX11_erase_1 : decode cX11_erase 1 = .ok (.getfield 96, 3) := by decide +kernel
theorem dX11_erase_4 : decode cX11_erase 4 = .ok (.istore_n 1, 1) := by decide +kernel
theorem dX11_erase_5 : decode cX11_erase 5 = .ok (.aload_n 0, 1) := by decide +kernel
theorem dX11_erase_6 : decode cX11_erase 6 = .ok (.iconst 0, 1) := by decide +kernel
theorem dX11_erase_7 : decode cX11_erase 7 = .ok (.putfield 96, 3) := by decide +kernel
theorem dX11_erase_10 : decode cX11_erase 10 = .ok (.iload_n 1, 1) := by decide +kernel
theorem dX11_erase_11 : decode cX11_erase 11 = .ok (.ireturn, 1) := by decide +kernel
theorem dX11_kindOf_0 : decode cX11_kindOf 0 = .ok (.iload_n 0, 1) := by decide +kernel
theorem dX11_kindOf_1 : decode cX11_kindOf 1 = .ok (.lookupswitch 61 #[(35, 51), (46, 53), (112, 59), (115, 55), (116, 57)], 51) := by decide +kernel
theorem dX11_kindOf_52 : decode cX11_kindOf 52 = .ok (.iconst 0, 1) := by decide +kernel
theorem dX11_kindOf_53 : decode cX11_kindOf 53 = .ok (.ireturn, 1) := by decide +kernel
theorem dX11_kindOf_54 : decode cX11_kindOf 54 = .ok (.iconst 1, 1) := by decide +kernel
theorem dX11_kindOf_55 : decode cX11_kindOf 55 = .ok (.ireturn, 1) := by decide +kernel
theorem dX11_kindOf_56 : decode cX11_kindOf 56 = .ok (.iconst 2, 1) := by decide +kernel
theorem dX11_kindOf_57 : decode cX11_kindOf 57 = .ok (.ireturn, 1) := by decide +kernel
theorem dX11_kindOf_58 : decode cX11_kindOf 58 = .ok (.iconst 3, 1) := by decide +kernel
theorem dX11_kindOf_59 : decode cX11_kindOf 59 = .ok (.ireturn, 1) := by decide +kernel
theorem dX11_kindOf_60 : decode cX11_kindOf 60 = .ok (.iconst 4, 1) := by decide +kernel
theorem dX11_kindOf_61 : decode cX11_kindOf 61 = .ok (.ireturn, 1) := by decide +kernel
theorem dX11_kindOf_62 : decode cX11_kindOf 62 = .ok (.iconst (-1), 1) := by decide +kernel
theorem dX11_kindOf_63 : decode cX11_kindOf 63 = .ok (.ireturn, 1) := by decide +kernel
theorem dX11_wrong_0 : decode cX11_wrong 0 = .ok (.aload_n 0, 1) := by decide +kernel
theorem dX11_wrong_1 : decode cX11_wrong 1 = .ok (.iload_n 2, 1) := by decide +kernel
theorem dX11_wrong_2 : decode cX11_wrong 2 = .ok (.putfield 13, 3) := by decide +kernel
theorem dX11_wrong_5 : decode cX11_wrong 5 = .ok (.iload_n 1, 1) := by decide +kernel
theorem dX11_wrong_6 : decode cX11_wrong 6 = .ok (.ireturn, 1) := by decide +kernel
theorem dX11_readLines_0 : decode cX11_readLines 0 = .ok (.iconst 0, 1) := by decide +kernel
theorem dX11_readLines_1 : decode cX11_readLines 1 = .ok (.istore_n 1, 1) := by decide +kernel
theorem dX11_readLines_2 : decode cX11_readLines 2 = .ok (.iconst 0, 1) := by decide +kernel
theorem dX11_readLines_3 : decode cX11_readLines 3 = .ok (.istore_n 2, 1) := by decide +kernel
theorem dX11_readLines_4 : decode cX11_readLines 4 = .ok (.aload_n 0, 1) := by decide +kernel
theorem dX11_readLines_5 : decode cX11_readLines 5 = .ok (.iconst 0, 1) := by decide +kernel
theorem dX11_readLines_6 : decode cX11_readLines 6 = .ok (.putfield 99, 3) := by decide +kernel
theorem dX11_readLines_9 : decode cX11_readLines 9 = .ok (.aload_n 0, 1) := by decide +kernel
theorem dX11_readLines_10 : decode cX11_readLines 10 = .ok (.iconst 0, 1) := by decide +kernel
theorem dX11_readLines_11 : decode cX11_readLines 11 = .ok (.putfield 102, 3) := by decide +kernel
theorem dX11_readLines_14 : decode cX11_readLines 14 = .ok (.iconst 0, 1) := by decide +kernel
theorem dX11_readLines_15 : decode cX11_readLines 15 = .ok (.istore_n 3, 1) := by decide +kernel
theorem dX11_readLines_16 : decode cX11_readLines 16 = .ok (.iload_n 3, 1) := by decide +kernel
theorem dX11_readLines_17 : decode cX11_readLines 17 = .ok (.aload_n 0, 1) := by decide +kernel
theorem dX11_readLines_18 : decode cX11_readLines 18 = .ok (.getfield 96, 3) := by decide +kernel
theorem dX11_readLines_21 : decode cX11_readLines 21 = .ok (.if_icmp .ge 136, 3) := by decide +kernel
theorem dX11_readLines_24 : decode cX11_readLines 24 = .ok (.aload_n 0, 1) := by decide +kernel
theorem dX11_readLines_25 : decode cX11_readLines 25 = .ok (.getfield 7, 3) := by decide +kernel
theorem dX11_readLines_28 : decode cX11_readLines 28 = .ok (.iload_n 3, 1) := by decide +kernel
theorem dX11_readLines_29 : decode cX11_readLines 29 = .ok (.iaload, 1) := by decide +kernel
theorem dX11_readLines_30 : decode cX11_readLines 30 = .ok (.invokestatic 105, 3) := by decide +kernel
theorem dX11_readLines_33 : decode cX11_readLines 33 = .ok (.istore 4, 2) := by decide +kernel
theorem dX11_readLines_35 : decode cX11_readLines 35 = .ok (.aload_n 0, 1) := by decide +kernel
theorem dX11_readLines_36 : decode cX11_readLines 36 = .ok (.getfield 7, 3) := by decide +kernel
theorem dX11_readLines_39 : decode cX11_readLines 39 = .ok (.iload_n 3, 1) := by decide +kernel
theorem dX11_readLines_40 : decode cX11_readLines 40 = .ok (.iaload, 1) := by decide +kernel
theorem dX11_readLines_41 : decode cX11_readLines 41 = .ok (.bipush 47, 2) := by decide +kernel
theorem dX11_readLines_43 : decode cX11_readLines 43 = .ok (.if_icmp .ne 46, 3) := by decide +kernel
theorem dX11_readLines_46 : decode cX11_readLines 46 = .ok (.iload_n 2, 1) := by decide +kernel
theorem dX11_readLines_47 : decode cX11_readLines 47 = .ok (.ifCond .eq 21, 3) := by decide +kernel
theorem dX11_readLines_50 : decode cX11_readLines 50 = .ok (.iload_n 1, 1) := by decide +kernel
theorem dX11_readLines_51 : decode cX11_readLines 51 = .ok (.ifCond .le 11, 3) := by decide +kernel
theorem dX11_readLines_54 : decode cX11_readLines 54 = .ok (.iload_n 2, 1) := by decide +kernel
theorem dX11_readLines_55 : decode cX11_readLines 55 = .ok (.aload_n 0, 1) := by decide +kernel
theorem dX11_readLines_56 : decode cX11_readLines 56 = .ok (.getfield 102, 3) := by decide +kernel
theorem dX11_readLines_59 : decode cX11_readLines 59 = .ok (.if_icmp .lt 9, 3) := by decide +kernel
theorem dX11_readLines_62 : decode cX11_readLines 62 = .ok (.iload_n 1, 1) := by decide +kernel
theorem dX11_readLines_63 : decode cX11_readLines 63 = .ok (.bipush 7, 2) := by decide +kernel
theorem dX11_readLines_65 : decode cX11_readLines 65 = .ok (.if_icmp .ne 11, 3) := by decide +kernel
theorem dX11_readLines_68 : decode cX11_readLines 68 = .ok (.aload_n 0, 1) := by decide +kernel
theorem dX11_readLines_69 : decode cX11_readLines 69 = .ok (.bipush (-12), 2) := by decide +kernel
theorem dX11_readLines_71 : decode cX11_readLines 71 = .ok (.iload_n 3, 1) := by decide +kernel
theorem dX11_readLines_72 : decode cX11_readLines 72 = .ok (.invokevirtual 109, 3) := by decide +kernel
theorem dX11_readLines_75 : decode cX11_readLines 75 = .ok (.ireturn, 1) := by decide +kernel
theorem dX11_readLines_76 : decode cX11_readLines 76 = .ok (.aload_n 0, 1) := by decide +kernel
theorem dX11_readLines_77 : decode cX11_readLines 77 = .ok (.iload_n 2, 1) := by decide +kernel
theorem dX11_readLines_78 : decode cX11_readLines 78 = .ok (.putfield 102, 3) := by decide +kernel
theorem dX11_readLines_81 : decode cX11_readLines 81 = .ok (.iinc 1 1, 3) := by decide +kernel
theorem dX11_readLines_84 : decode cX11_readLines 84 = .ok (.iconst 0, 1) := by decide +kernel
theorem dX11_readLines_85 : decode cX11_readLines 85 = .ok (.istore_n 2, 1) := by decide +kernel
theorem dX11_readLines_86 : decode cX11_readLines 86 = .ok (.goto 65, 3) := by decide +kernel
theorem dX11_readLines_89 : decode cX11_readLines 89 = .ok (.iload 4, 2) := by decide +kernel
theorem dX11_readLines_91 : decode cX11_readLines 91 = .ok (.ifCond .ge 11, 3) := by decide +kernel
theorem dX11_readLines_94 : decode cX11_readLines 94 = .ok (.aload_n 0, 1) := by decide +kernel
theorem dX11_readLines_95 : decode cX11_readLines 95 = .ok (.bipush (-11), 2) := by decide +kernel
theorem dX11_readLines_97 : decode cX11_readLines 97 = .ok (.iload_n 3, 1) := by decide +kernel
theorem dX11_readLines_98 : decode cX11_readLines 98 = .ok (.invokevirtual 109, 3) := by decide +kernel
theorem dX11_readLines_101 : decode cX11_readLines 101 = .ok (.ireturn, 1) := by decide +kernel
theorem dX11_readLines_102 : decode cX11_readLines 102 = .ok (.iload_n 2, 1) := by decide +kernel
theorem dX11_readLines_103 : decode cX11_readLines 103 = .ok (.iload_n 1, 1) := by decide +kernel
theorem dX11_readLines_104 : decode cX11_readLines 104 = .ok (.ifCond .ne 8, 3) := by decide +kernel
theorem dX11_readLines_107 : decode cX11_readLines 107 = .ok (.bipush 10, 2) := by decide +kernel
theorem dX11_readLines_109 : decode cX11_readLines 109 = .ok (.goto 7, 3) := by decide +kernel
theorem dX11_readLines_112 : decode cX11_readLines 112 = .ok (.aload_n 0, 1) := by decide +kernel
theorem dX11_readLines_113 : decode cX11_readLines 113 = .ok (.getfield 102, 3) := by decide +kernel
theorem dX11_readLines_116 : decode cX11_readLines 116 = .ok (.if_icmp .ne 11, 3) := by decide +kernel
theorem dX11_readLines_119 : decode cX11_readLines 119 = .ok (.aload_n 0, 1) := by decide +kernel
theorem dX11_readLines_120 : decode cX11_readLines 120 = .ok (.bipush (-12), 2) := by decide +kernel
theorem dX11_readLines_122 : decode cX11_readLines 122 = .ok (.iload_n 3, 1) := by decide +kernel
theorem dX11_readLines_123 : decode cX11_readLines 123 = .ok (.invokevirtual 109, 3) := by decide +kernel
theorem dX11_readLines_126 : decode cX11_readLines 126 = .ok (.ireturn, 1) := by decide +kernel
theorem dX11_readLines_127 : decode cX11_readLines 127 = .ok (.aload_n 0, 1) := by decide +kernel
theorem dX11_readLines_128 : decode cX11_readLines 128 = .ok (.getfield 20, 3) := by decide +kernel
theorem dX11_readLines_131 : decode cX11_readLines 131 = .ok (.aload_n 0, 1) := by decide +kernel
theorem dX11_readLines_132 : decode cX11_readLines 132 = .ok (.getfield 99, 3) := by decide +kernel
theorem dX11_readLines_135 : decode cX11_readLines 135 = .ok (.iload 4, 2) := by decide +kernel
theorem dX11_readLines_137 : decode cX11_readLines 137 = .ok (.iastore, 1) := by decide +kernel
theorem dX11_readLines_138 : decode cX11_readLines 138 = .ok (.aload_n 0, 1) := by decide +kernel
theorem dX11_readLines_139 : decode cX11_readLines 139 = .ok (.dup, 1) := by decide +kernel
theorem dX11_readLines_140 : decode cX11_readLines 140 = .ok (.getfield 99, 3) := by decide +kernel
theorem dX11_readLines_143 : decode cX11_readLines 143 = .ok (.iconst 1, 1) := by decide +kernel
theorem dX11_readLines_144 : decode cX11_readLines 144 = .ok (.iadd, 1) := by decide +kernel
theorem dX11_readLines_145 : decode cX11_readLines 145 = .ok (.putfield 99, 3) := by decide +kernel
theorem dX11_readLines_148 : decode cX11_readLines 148 = .ok (.iinc 2 1, 3) := by decide +kernel
theorem dX11_readLines_151 : decode cX11_readLines 151 = .ok (.iinc 3 1, 3) := by decide +kernel
theorem dX11_readLines_154 : decode cX11_readLines 154 = .ok (.goto (-138), 3) := by decide +kernel
theorem dX11_readLines_157 : decode cX11_readLines 157 = .ok (.iload_n 2, 1) := by decide +kernel
theorem dX11_readLines_158 : decode cX11_readLines 158 = .ok (.ifCond .eq 15, 3) := by decide +kernel
theorem dX11_readLines_161 : decode cX11_readLines 161 = .ok (.iload_n 1, 1) := by decide +kernel
theorem dX11_readLines_162 : decode cX11_readLines 162 = .ok (.ifCond .le 22, 3) := by decide +kernel
theorem dX11_readLines_165 : decode cX11_readLines 165 = .ok (.iload_n 2, 1) := by decide +kernel
theorem dX11_readLines_166 : decode cX11_readLines 166 = .ok (.aload_n 0, 1) := by decide +kernel
theorem dX11_readLines_167 : decode cX11_readLines 167 = .ok (.getfield 102, 3) := by decide +kernel
theorem dX11_readLines_170 : decode cX11_readLines 170 = .ok (.if_icmp .ge 14, 3) := by decide +kernel
theorem dX11_readLines_173 : decode cX11_readLines 173 = .ok (.aload_n 0, 1) := by decide +kernel
theorem dX11_readLines_174 : decode cX11_readLines 174 = .ok (.bipush (-12), 2) := by decide +kernel
theorem dX11_readLines_176 : decode cX11_readLines 176 = .ok (.aload_n 0, 1) := by decide +kernel
theorem dX11_readLines_177 : decode cX11_readLines 177 = .ok (.getfield 96, 3) := by decide +kernel
theorem dX11_readLines_180 : decode cX11_readLines 180 = .ok (.invokevirtual 109, 3) := by decide +kernel
theorem dX11_readLines_183 : decode cX11_readLines 183 = .ok (.ireturn, 1) := by decide +kernel
theorem dX11_readLines_184 : decode cX11_readLines 184 = .ok (.aload_n 0, 1) := by decide +kernel
theorem dX11_readLines_185 : decode cX11_readLines 185 = .ok (.iload_n 2, 1) := by decide +kernel
theorem dX11_readLines_186 : decode cX11_readLines 186 = .ok (.putfield 102, 3) := by decide +kernel
theorem dX11_readLines_189 : decode cX11_readLines 189 = .ok (.iconst 0, 1) := by decide +kernel
theorem dX11_readLines_190 : decode cX11_readLines 190 = .ok (.ireturn, 1) := by decide +kernel
theorem dX11_hasKind_0 : decode cX11_hasKind 0 = .ok (.iconst 0, 1) := by decide +kernel
theorem dX11_hasKind_1 : decode cX11_hasKind 1 = .ok (.istore_n 2, 1) := by decide +kernel
theorem dX11_hasKind_2 : decode cX11_hasKind 2 = .ok (.iconst 0, 1) := by decide +kernel
theorem dX11_hasKind_3 : decode cX11_hasKind 3 = .ok (.istore_n 3, 1) := by decide +kernel
theorem dX11_hasKind_4 : decode cX11_hasKind 4 = .ok (.iload_n 3, 1) := by decide +kernel
theorem dX11_hasKind_5 : decode cX11_hasKind 5 = .ok (.aload_n 0, 1) := by decide +kernel
theorem dX11_hasKind_6 : decode cX11_hasKind 6 = .ok (.getfield 99, 3) := by decide +kernel
theorem dX11_hasKind_9 : decode cX11_hasKind 9 = .ok (.if_icmp .ge 29, 3) := by decide +kernel
theorem dX11_hasKind_12 : decode cX11_hasKind 12 = .ok (.iload_n 2, 1) := by decide +kernel
theorem dX11_hasKind_13 : decode cX11_hasKind 13 = .ok (.ifCond .ne 13, 3) := by decide +kernel
theorem dX11_hasKind_16 : decode cX11_hasKind 16 = .ok (.aload_n 0, 1) := by decide +kernel
theorem dX11_hasKind_17 : decode cX11_hasKind 17 = .ok (.getfield 20, 3) := by decide +kernel
theorem dX11_hasKind_20 : decode cX11_hasKind 20 = .ok (.iload_n 3, 1) := by decide +kernel
theorem dX11_hasKind_21 : decode cX11_hasKind 21 = .ok (.iaload, 1) := by decide +kernel
theorem dX11_hasKind_22 : decode cX11_hasKind 22 = .ok (.iload_n 1, 1) := by decide +kernel
theorem dX11_hasKind_23 : decode cX11_hasKind 23 = .ok (.if_icmp .ne 7, 3) := by decide +kernel
theorem dX11_hasKind_26 : decode cX11_hasKind 26 = .ok (.iconst 1, 1) := by decide +kernel
theorem dX11_hasKind_27 : decode cX11_hasKind 27 = .ok (.goto 4, 3) := by decide +kernel
theorem dX11_hasKind_30 : decode cX11_hasKind 30 = .ok (.iconst 0, 1) := by decide +kernel
theorem dX11_hasKind_31 : decode cX11_hasKind 31 = .ok (.istore_n 2, 1) := by decide +kernel
theorem dX11_hasKind_32 : decode cX11_hasKind 32 = .ok (.iinc 3 1, 3) := by decide +kernel
theorem dX11_hasKind_35 : decode cX11_hasKind 35 = .ok (.goto (-31), 3) := by decide +kernel
theorem dX11_hasKind_38 : decode cX11_hasKind 38 = .ok (.iload_n 2, 1) := by decide +kernel
theorem dX11_hasKind_39 : decode cX11_hasKind 39 = .ok (.ireturn, 1) := by decide +kernel
theorem dX11_beside_0 : decode cX11_beside 0 = .ok (.iload_n 1, 1) := by decide +kernel
theorem dX11_beside_1 : decode cX11_beside 1 = .ok (.tableswitch 78 0 3 #[31, 33, 46, 63], 31) := by decide +kernel
theorem dX11_beside_32 : decode cX11_beside 32 = .ok (.iload_n 0, 1) := by decide +kernel
theorem dX11_beside_33 : decode cX11_beside 33 = .ok (.ireturn, 1) := by decide +kernel
theorem dX11_beside_34 : decode cX11_beside 34 = .ok (.iload_n 0, 1) := by decide +kernel
theorem dX11_beside_35 : decode cX11_beside 35 = .ok (.iload_n 2, 1) := by decide +kernel
theorem dX11_beside_36 : decode cX11_beside 36 = .ok (.if_icmp .lt 9, 3) := by decide +kernel
theorem dX11_beside_39 : decode cX11_beside 39 = .ok (.iload_n 0, 1) := by decide +kernel
theorem dX11_beside_40 : decode cX11_beside 40 = .ok (.iload_n 2, 1) := by decide +kernel
theorem dX11_beside_41 : decode cX11_beside 41 = .ok (.isub, 1) := by decide +kernel
theorem dX11_beside_42 : decode cX11_beside 42 = .ok (.goto 4, 3) := by decide +kernel
theorem dX11_beside_45 : decode cX11_beside 45 = .ok (.iconst (-1), 1) := by decide +kernel
theorem dX11_beside_46 : decode cX11_beside 46 = .ok (.ireturn, 1) := by decide +kernel
theorem dX11_beside_47 : decode cX11_beside 47 = .ok (.iload_n 0, 1) := by decide +kernel
theorem dX11_beside_48 : decode cX11_beside 48 = .ok (.iload_n 2, 1) := by decide +kernel
theorem dX11_beside_49 : decode cX11_beside 49 = .ok (.irem, 1) := by decide +kernel
theorem dX11_beside_50 : decode cX11_beside 50 = .ok (.iload_n 2, 1) := by decide +kernel
theorem dX11_beside_51 : decode cX11_beside 51 = .ok (.iconst 1, 1) := by decide +kernel
theorem dX11_beside_52 : decode cX11_beside 52 = .ok (.isub, 1) := by decide +kernel
theorem dX11_beside_53 : decode cX11_beside 53 = .ok (.if_icmp .ge 9, 3) := by decide +kernel
theorem dX11_beside_56 : decode cX11_beside 56 = .ok (.iload_n 0, 1) := by decide +kernel
theorem dX11_beside_57 : decode cX11_beside 57 = .ok (.iconst 1, 1) := by decide +kernel
theorem dX11_beside_58 : decode cX11_beside 58 = .ok (.iadd, 1) := by decide +kernel
theorem dX11_beside_59 : decode cX11_beside 59 = .ok (.goto 4, 3) := by decide +kernel
theorem dX11_beside_62 : decode cX11_beside 62 = .ok (.iconst (-1), 1) := by decide +kernel
theorem dX11_beside_63 : decode cX11_beside 63 = .ok (.ireturn, 1) := by decide +kernel
theorem dX11_beside_64 : decode cX11_beside 64 = .ok (.iload_n 0, 1) := by decide +kernel
theorem dX11_beside_65 : decode cX11_beside 65 = .ok (.iload_n 2, 1) := by decide +kernel
theorem dX11_beside_66 : decode cX11_beside 66 = .ok (.iadd, 1) := by decide +kernel
theorem dX11_beside_67 : decode cX11_beside 67 = .ok (.iload_n 3, 1) := by decide +kernel
theorem dX11_beside_68 : decode cX11_beside 68 = .ok (.if_icmp .ge 9, 3) := by decide +kernel
theorem dX11_beside_71 : decode cX11_beside 71 = .ok (.iload_n 0, 1) := by decide +kernel
theorem dX11_beside_72 : decode cX11_beside 72 = .ok (.iload_n 2, 1) := by decide +kernel
theorem dX11_beside_73 : decode cX11_beside 73 = .ok (.iadd, 1) := by decide +kernel
theorem dX11_beside_74 : decode cX11_beside 74 = .ok (.goto 4, 3) := by decide +kernel
theorem dX11_beside_77 : decode cX11_beside 77 = .ok (.iconst (-1), 1) := by decide +kernel
theorem dX11_beside_78 : decode cX11_beside 78 = .ok (.ireturn, 1) := by decide +kernel
theorem dX11_beside_79 : decode cX11_beside 79 = .ok (.iload_n 0, 1) := by decide +kernel
theorem dX11_beside_80 : decode cX11_beside 80 = .ok (.iload_n 2, 1) := by decide +kernel
theorem dX11_beside_81 : decode cX11_beside 81 = .ok (.irem, 1) := by decide +kernel
theorem dX11_beside_82 : decode cX11_beside 82 = .ok (.ifCond .le 9, 3) := by decide +kernel
theorem dX11_beside_85 : decode cX11_beside 85 = .ok (.iload_n 0, 1) := by decide +kernel
theorem dX11_beside_86 : decode cX11_beside 86 = .ok (.iconst 1, 1) := by decide +kernel
theorem dX11_beside_87 : decode cX11_beside 87 = .ok (.isub, 1) := by decide +kernel
theorem dX11_beside_88 : decode cX11_beside 88 = .ok (.goto 4, 3) := by decide +kernel
theorem dX11_beside_91 : decode cX11_beside 91 = .ok (.iconst (-1), 1) := by decide +kernel
theorem dX11_beside_92 : decode cX11_beside 92 = .ok (.ireturn, 1) := by decide +kernel
theorem dX11_look_0 : decode cX11_look 0 = .ok (.iconst 0, 1) := by decide +kernel
theorem dX11_look_1 : decode cX11_look 1 = .ok (.istore_n 2, 1) := by decide +kernel
theorem dX11_look_2 : decode cX11_look 2 = .ok (.iload_n 2, 1) := by decide +kernel
theorem dX11_look_3 : decode cX11_look 3 = .ok (.bipush 80, 2) := by decide +kernel
theorem dX11_look_5 : decode cX11_look 5 = .ok (.if_icmp .ge 25, 3) := by decide +kernel
theorem dX11_look_8 : decode cX11_look 8 = .ok (.aload_n 0, 1) := by decide +kernel
theorem dX11_look_9 : decode cX11_look 9 = .ok (.getfield 26, 3) := by decide +kernel
theorem dX11_look_12 : decode cX11_look 12 = .ok (.iload_n 2, 1) := by decide +kernel
theorem dX11_look_13 : decode cX11_look 13 = .ok (.iload_n 2, 1) := by decide +kernel
theorem dX11_look_14 : decode cX11_look 14 = .ok (.iload_n 1, 1) := by decide +kernel
theorem dX11_look_15 : decode cX11_look 15 = .ok (.if_icmp .ne 7, 3) := by decide +kernel
theorem dX11_look_18 : decode cX11_look 18 = .ok (.iconst 1, 1) := by decide +kernel
theorem dX11_look_19 : decode cX11_look 19 = .ok (.goto 4, 3) := by decide +kernel
theorem dX11_look_22 : decode cX11_look 22 = .ok (.iconst 0, 1) := by decide +kernel
theorem dX11_look_23 : decode cX11_look 23 = .ok (.bastore, 1) := by decide +kernel
theorem dX11_look_24 : decode cX11_look 24 = .ok (.iinc 2 1, 3) := by decide +kernel
theorem dX11_look_27 : decode cX11_look 27 = .ok (.goto (-25), 3) := by decide +kernel
theorem dX11_look_30 : decode cX11_look 30 = .ok (.iconst 1, 1) := by decide +kernel
theorem dX11_look_31 : decode cX11_look 31 = .ok (.istore_n 2, 1) := by decide +kernel
theorem dX11_look_32 : decode cX11_look 32 = .ok (.iload_n 2, 1) := by decide +kernel
theorem dX11_look_33 : decode cX11_look 33 = .ok (.ifCond .eq 126, 3) := by decide +kernel
theorem dX11_look_36 : decode cX11_look 36 = .ok (.iconst 0, 1) := by decide +kernel
theorem dX11_look_37 : decode cX11_look 37 = .ok (.istore_n 2, 1) := by decide +kernel
theorem dX11_look_38 : decode cX11_look 38 = .ok (.iconst 0, 1) := by decide +kernel
theorem dX11_look_39 : decode cX11_look 39 = .ok (.istore_n 3, 1) := by decide +kernel
theorem dX11_look_40 : decode cX11_look 40 = .ok (.iload_n 3, 1) := by decide +kernel
theorem dX11_look_41 : decode cX11_look 41 = .ok (.aload_n 0, 1) := by decide +kernel
theorem dX11_look_42 : decode cX11_look 42 = .ok (.getfield 99, 3) := by decide +kernel
theorem dX11_look_45 : decode cX11_look 45 = .ok (.if_icmp .ge 111, 3) := by decide +kernel
theorem dX11_look_48 : decode cX11_look 48 = .ok (.aload_n 0, 1) := by decide +kernel
theorem dX11_look_49 : decode cX11_look 49 = .ok (.getfield 26, 3) := by decide +kernel
theorem dX11_look_52 : decode cX11_look 52 = .ok (.iload_n 3, 1) := by decide +kernel
theorem dX11_look_53 : decode cX11_look 53 = .ok (.baload, 1) := by decide +kernel
theorem dX11_look_54 : decode cX11_look 54 = .ok (.ifCond .eq 22, 3) := by decide +kernel
theorem dX11_look_57 : decode cX11_look 57 = .ok (.iload_n 3, 1) := by decide +kernel
theorem dX11_look_58 : decode cX11_look 58 = .ok (.iload_n 1, 1) := by decide +kernel
theorem dX11_look_59 : decode cX11_look 59 = .ok (.if_icmp .eq 13, 3) := by decide +kernel
theorem dX11_look_62 : decode cX11_look 62 = .ok (.aload_n 0, 1) := by decide +kernel
theorem dX11_look_63 : decode cX11_look 63 = .ok (.getfield 20, 3) := by decide +kernel
theorem dX11_look_66 : decode cX11_look 66 = .ok (.iload_n 3, 1) := by decide +kernel
theorem dX11_look_67 : decode cX11_look 67 = .ok (.iaload, 1) := by decide +kernel
theorem dX11_look_68 : decode cX11_look 68 = .ok (.iconst 1, 1) := by decide +kernel
theorem dX11_look_69 : decode cX11_look 69 = .ok (.if_icmp .ne 7, 3) := by decide +kernel
theorem dX11_look_72 : decode cX11_look 72 = .ok (.iconst 1, 1) := by decide +kernel
theorem dX11_look_73 : decode cX11_look 73 = .ok (.goto 4, 3) := by decide +kernel
theorem dX11_look_76 : decode cX11_look 76 = .ok (.iconst 0, 1) := by decide +kernel
theorem dX11_look_77 : decode cX11_look 77 = .ok (.istore 4, 2) := by decide +kernel
theorem dX11_look_79 : decode cX11_look 79 = .ok (.iconst 1, 1) := by decide +kernel
theorem dX11_look_80 : decode cX11_look 80 = .ok (.istore 5, 2) := by decide +kernel
theorem dX11_look_82 : decode cX11_look 82 = .ok (.iload 5, 2) := by decide +kernel
theorem dX11_look_84 : decode cX11_look 84 = .ok (.iconst 5, 1) := by decide +kernel
theorem dX11_look_85 : decode cX11_look 85 = .ok (.if_icmp .ge 65, 3) := by decide +kernel
theorem dX11_look_88 : decode cX11_look 88 = .ok (.iload 4, 2) := by decide +kernel
theorem dX11_look_90 : decode cX11_look 90 = .ok (.ifCond .eq 60, 3) := by decide +kernel
theorem dX11_look_93 : decode cX11_look 93 = .ok (.iload_n 3, 1) := by decide +kernel
theorem dX11_look_94 : decode cX11_look 94 = .ok (.iload 5, 2) := by decide +kernel
theorem dX11_look_96 : decode cX11_look 96 = .ok (.aload_n 0, 1) := by decide +kernel
theorem dX11_look_97 : decode cX11_look 97 = .ok (.getfield 102, 3) := by decide +kernel
theorem dX11_look_100 : decode cX11_look 100 = .ok (.aload_n 0, 1) := by decide +kernel
theorem dX11_look_101 : decode cX11_look 101 = .ok (.getfield 99, 3) := by decide +kernel
theorem dX11_look_104 : decode cX11_look 104 = .ok (.invokestatic 113, 3) := by decide +kernel
theorem dX11_look_107 : decode cX11_look 107 = .ok (.istore 6, 2) := by decide +kernel
theorem dX11_look_109 : decode cX11_look 109 = .ok (.iload 6, 2) := by decide +kernel
theorem dX11_look_111 : decode cX11_look 111 = .ok (.ifCond .lt 33, 3) := by decide +kernel
theorem dX11_look_114 : decode cX11_look 114 = .ok (.aload_n 0, 1) := by decide +kernel
theorem dX11_look_115 : decode cX11_look 115 = .ok (.getfield 20, 3) := by decide +kernel
theorem dX11_look_118 : decode cX11_look 118 = .ok (.iload 6, 2) := by decide +kernel
theorem dX11_look_120 : decode cX11_look 120 = .ok (.iaload, 1) := by decide +kernel
theorem dX11_look_121 : decode cX11_look 121 = .ok (.ifCond .eq 23, 3) := by decide +kernel
theorem dX11_look_124 : decode cX11_look 124 = .ok (.aload_n 0, 1) := by decide +kernel
theorem dX11_look_125 : decode cX11_look 125 = .ok (.getfield 26, 3) := by decide +kernel
theorem dX11_look_128 : decode cX11_look 128 = .ok (.iload 6, 2) := by decide +kernel
theorem dX11_look_130 : decode cX11_look 130 = .ok (.baload, 1) := by decide +kernel
theorem dX11_look_131 : decode cX11_look 131 = .ok (.ifCond .ne 13, 3) := by decide +kernel
theorem dX11_look_134 : decode cX11_look 134 = .ok (.aload_n 0, 1) := by decide +kernel
theorem dX11_look_135 : decode cX11_look 135 = .ok (.getfield 26, 3) := by decide +kernel
theorem dX11_look_138 : decode cX11_look 138 = .ok (.iload 6, 2) := by decide +kernel
theorem dX11_look_140 : decode cX11_look 140 = .ok (.iconst 1, 1) := by decide +kernel
theorem dX11_look_141 : decode cX11_look 141 = .ok (.bastore, 1) := by decide +kernel
theorem dX11_look_142 : decode cX11_look 142 = .ok (.iconst 1, 1) := by decide +kernel
theorem dX11_look_143 : decode cX11_look 143 = .ok (.istore_n 2, 1) := by decide +kernel
theorem dX11_look_144 : decode cX11_look 144 = .ok (.iinc 5 1, 3) := by decide +kernel
theorem dX11_look_147 : decode cX11_look 147 = .ok (.goto (-65), 3) := by decide +kernel
theorem dX11_look_150 : decode cX11_look 150 = .ok (.iinc 3 1, 3) := by decide +kernel
theorem dX11_look_153 : decode cX11_look 153 = .ok (.goto (-113), 3) := by decide +kernel
theorem dX11_look_156 : decode cX11_look 156 = .ok (.goto (-124), 3) := by decide +kernel
theorem dX11_look_159 : decode cX11_look 159 = .ok (.return_, 1) := by decide +kernel
theorem dX11_isApart_0 : decode cX11_isApart 0 = .ok (.aload_n 0, 1) := by decide +kernel
theorem dX11_isApart_1 : decode cX11_isApart 1 = .ok (.iload_n 1, 1) := by decide +kernel
theorem dX11_isApart_2 : decode cX11_isApart 2 = .ok (.invokevirtual 117, 3) := by decide +kernel
theorem dX11_isApart_5 : decode cX11_isApart 5 = .ok (.iconst 0, 1) := by decide +kernel
theorem dX11_isApart_6 : decode cX11_isApart 6 = .ok (.istore_n 2, 1) := by decide +kernel
theorem dX11_isApart_7 : decode cX11_isApart 7 = .ok (.iload_n 1, 1) := by decide +kernel
theorem dX11_isApart_8 : decode cX11_isApart 8 = .ok (.iconst 1, 1) := by decide +kernel
theorem dX11_isApart_9 : decode cX11_isApart 9 = .ok (.iadd, 1) := by decide +kernel
theorem dX11_isApart_10 : decode cX11_isApart 10 = .ok (.istore_n 3, 1) := by decide +kernel
theorem dX11_isApart_11 : decode cX11_isApart 11 = .ok (.iload_n 3, 1) := by decide +kernel
theorem dX11_isApart_12 : decode cX11_isApart 12 = .ok (.aload_n 0, 1) := by decide +kernel
theorem dX11_isApart_13 : decode cX11_isApart 13 = .ok (.getfield 99, 3) := by decide +kernel
theorem dX11_isApart_16 : decode cX11_isApart 16 = .ok (.if_icmp .ge 38, 3) := by decide +kernel
theorem dX11_isApart_19 : decode cX11_isApart 19 = .ok (.iload_n 2, 1) := by decide +kernel
theorem dX11_isApart_20 : decode cX11_isApart 20 = .ok (.ifCond .ne 22, 3) := by decide +kernel
theorem dX11_isApart_23 : decode cX11_isApart 23 = .ok (.aload_n 0, 1) := by decide +kernel
theorem dX11_isApart_24 : decode cX11_isApart 24 = .ok (.getfield 20, 3) := by decide +kernel
theorem dX11_isApart_27 : decode cX11_isApart 27 = .ok (.iload_n 3, 1) := by decide +kernel
theorem dX11_isApart_28 : decode cX11_isApart 28 = .ok (.iaload, 1) := by decide +kernel
theorem dX11_isApart_29 : decode cX11_isApart 29 = .ok (.iconst 1, 1) := by decide +kernel
theorem dX11_isApart_30 : decode cX11_isApart 30 = .ok (.if_icmp .le 16, 3) := by decide +kernel
theorem dX11_isApart_33 : decode cX11_isApart 33 = .ok (.aload_n 0, 1) := by decide +kernel
theorem dX11_isApart_34 : decode cX11_isApart 34 = .ok (.getfield 26, 3) := by decide +kernel
theorem dX11_isApart_37 : decode cX11_isApart 37 = .ok (.iload_n 3, 1) := by decide +kernel
theorem dX11_isApart_38 : decode cX11_isApart 38 = .ok (.baload, 1) := by decide +kernel
theorem dX11_isApart_39 : decode cX11_isApart 39 = .ok (.ifCond .ne 7, 3) := by decide +kernel
theorem dX11_isApart_42 : decode cX11_isApart 42 = .ok (.iconst 1, 1) := by decide +kernel
theorem dX11_isApart_43 : decode cX11_isApart 43 = .ok (.goto 4, 3) := by decide +kernel
theorem dX11_isApart_46 : decode cX11_isApart 46 = .ok (.iconst 0, 1) := by decide +kernel
theorem dX11_isApart_47 : decode cX11_isApart 47 = .ok (.istore_n 2, 1) := by decide +kernel
theorem dX11_isApart_48 : decode cX11_isApart 48 = .ok (.iinc 3 1, 3) := by decide +kernel
theorem dX11_isApart_51 : decode cX11_isApart 51 = .ok (.goto (-40), 3) := by decide +kernel
theorem dX11_isApart_54 : decode cX11_isApart 54 = .ok (.iload_n 2, 1) := by decide +kernel
theorem dX11_isApart_55 : decode cX11_isApart 55 = .ok (.ireturn, 1) := by decide +kernel
theorem dX11_read_0 : decode cX11_read 0 = .ok (.aload_n 0, 1) := by decide +kernel
theorem dX11_read_1 : decode cX11_read 1 = .ok (.iconst (-1), 1) := by decide +kernel
theorem dX11_read_2 : decode cX11_read 2 = .ok (.putfield 13, 3) := by decide +kernel
theorem dX11_read_5 : decode cX11_read 5 = .ok (.aload_n 0, 1) := by decide +kernel
theorem dX11_read_6 : decode cX11_read 6 = .ok (.invokevirtual 121, 3) := by decide +kernel
theorem dX11_read_9 : decode cX11_read 9 = .ok (.istore_n 1, 1) := by decide +kernel
theorem dX11_read_10 : decode cX11_read 10 = .ok (.iload_n 1, 1) := by decide +kernel
theorem dX11_read_11 : decode cX11_read 11 = .ok (.ifCond .ge 5, 3) := by decide +kernel
theorem dX11_read_14 : decode cX11_read 14 = .ok (.iload_n 1, 1) := by decide +kernel
theorem dX11_read_15 : decode cX11_read 15 = .ok (.ireturn, 1) := by decide +kernel
theorem dX11_read_16 : decode cX11_read 16 = .ok (.aload_n 0, 1) := by decide +kernel
theorem dX11_read_17 : decode cX11_read 17 = .ok (.iconst 2, 1) := by decide +kernel
theorem dX11_read_18 : decode cX11_read 18 = .ok (.invokevirtual 125, 3) := by decide +kernel
theorem dX11_read_21 : decode cX11_read 21 = .ok (.ifCond .eq 19, 3) := by decide +kernel
theorem dX11_read_24 : decode cX11_read 24 = .ok (.aload_n 0, 1) := by decide +kernel
theorem dX11_read_25 : decode cX11_read 25 = .ok (.iconst 3, 1) := by decide +kernel
theorem dX11_read_26 : decode cX11_read 26 = .ok (.invokevirtual 125, 3) := by decide +kernel
theorem dX11_read_29 : decode cX11_read 29 = .ok (.ifCond .eq 11, 3) := by decide +kernel
theorem dX11_read_32 : decode cX11_read 32 = .ok (.aload_n 0, 1) := by decide +kernel
theorem dX11_read_33 : decode cX11_read 33 = .ok (.iconst 4, 1) := by decide +kernel
theorem dX11_read_34 : decode cX11_read 34 = .ok (.invokevirtual 125, 3) := by decide +kernel
theorem dX11_read_37 : decode cX11_read 37 = .ok (.ifCond .ne 14, 3) := by decide +kernel
theorem dX11_read_40 : decode cX11_read 40 = .ok (.aload_n 0, 1) := by decide +kernel
theorem dX11_read_41 : decode cX11_read 41 = .ok (.bipush (-13), 2) := by decide +kernel
theorem dX11_read_43 : decode cX11_read 43 = .ok (.aload_n 0, 1) := by decide +kernel
theorem dX11_read_44 : decode cX11_read 44 = .ok (.getfield 96, 3) := by decide +kernel
theorem dX11_read_47 : decode cX11_read 47 = .ok (.invokevirtual 109, 3) := by decide +kernel
theorem dX11_read_50 : decode cX11_read 50 = .ok (.ireturn, 1) := by decide +kernel
theorem dX11_read_51 : decode cX11_read 51 = .ok (.iconst 0, 1) := by decide +kernel
theorem dX11_read_52 : decode cX11_read 52 = .ok (.istore_n 2, 1) := by decide +kernel
theorem dX11_read_53 : decode cX11_read 53 = .ok (.iload_n 2, 1) := by decide +kernel
theorem dX11_read_54 : decode cX11_read 54 = .ok (.aload_n 0, 1) := by decide +kernel
theorem dX11_read_55 : decode cX11_read 55 = .ok (.getfield 99, 3) := by decide +kernel
theorem dX11_read_58 : decode cX11_read 58 = .ok (.if_icmp .ge 54, 3) := by decide +kernel
theorem dX11_read_61 : decode cX11_read 61 = .ok (.aload_n 0, 1) := by decide +kernel
theorem dX11_read_62 : decode cX11_read 62 = .ok (.getfield 20, 3) := by decide +kernel
theorem dX11_read_65 : decode cX11_read 65 = .ok (.iload_n 2, 1) := by decide +kernel
theorem dX11_read_66 : decode cX11_read 66 = .ok (.iaload, 1) := by decide +kernel
theorem dX11_read_67 : decode cX11_read 67 = .ok (.iconst 1, 1) := by decide +kernel
theorem dX11_read_68 : decode cX11_read 68 = .ok (.if_icmp .le 38, 3) := by decide +kernel
theorem dX11_read_71 : decode cX11_read 71 = .ok (.aload_n 0, 1) := by decide +kernel
theorem dX11_read_72 : decode cX11_read 72 = .ok (.iload_n 2, 1) := by decide +kernel
theorem dX11_read_73 : decode cX11_read 73 = .ok (.invokevirtual 129, 3) := by decide +kernel
theorem dX11_read_76 : decode cX11_read 76 = .ok (.ifCond .eq 30, 3) := by decide +kernel
theorem dX11_read_79 : decode cX11_read 79 = .ok (.aload_n 0, 1) := by decide +kernel
theorem dX11_read_80 : decode cX11_read 80 = .ok (.bipush (-14), 2) := by decide +kernel
theorem dX11_read_82 : decode cX11_read 82 = .ok (.iload_n 2, 1) := by decide +kernel
theorem dX11_read_83 : decode cX11_read 83 = .ok (.aload_n 0, 1) := by decide +kernel
theorem dX11_read_84 : decode cX11_read 84 = .ok (.getfield 102, 3) := by decide +kernel
theorem dX11_read_87 : decode cX11_read 87 = .ok (.idiv, 1) := by decide +kernel
theorem dX11_read_88 : decode cX11_read 88 = .ok (.aload_n 0, 1) := by decide +kernel
theorem dX11_read_89 : decode cX11_read 89 = .ok (.getfield 102, 3) := by decide +kernel
theorem dX11_read_92 : decode cX11_read 92 = .ok (.iconst 1, 1) := by decide +kernel
theorem dX11_read_93 : decode cX11_read 93 = .ok (.iadd, 1) := by decide +kernel
theorem dX11_read_94 : decode cX11_read 94 = .ok (.imul, 1) := by decide +kernel
theorem dX11_read_95 : decode cX11_read 95 = .ok (.iload_n 2, 1) := by decide +kernel
theorem dX11_read_96 : decode cX11_read 96 = .ok (.aload_n 0, 1) := by decide +kernel
theorem dX11_read_97 : decode cX11_read 97 = .ok (.getfield 102, 3) := by decide +kernel
theorem dX11_read_100 : decode cX11_read 100 = .ok (.irem, 1) := by decide +kernel
theorem dX11_read_101 : decode cX11_read 101 = .ok (.iadd, 1) := by decide +kernel
theorem dX11_read_102 : decode cX11_read 102 = .ok (.invokevirtual 109, 3) := by decide +kernel
theorem dX11_read_105 : decode cX11_read 105 = .ok (.ireturn, 1) := by decide +kernel
theorem dX11_read_106 : decode cX11_read 106 = .ok (.iinc 2 1, 3) := by decide +kernel
theorem dX11_read_109 : decode cX11_read 109 = .ok (.goto (-56), 3) := by decide +kernel
theorem dX11_read_112 : decode cX11_read 112 = .ok (.aload_n 0, 1) := by decide +kernel
theorem dX11_read_113 : decode cX11_read 113 = .ok (.aload_n 0, 1) := by decide +kernel
theorem dX11_read_114 : decode cX11_read 114 = .ok (.getfield 99, 3) := by decide +kernel
theorem dX11_read_117 : decode cX11_read 117 = .ok (.putfield 132, 3) := by decide +kernel
theorem dX11_read_120 : decode cX11_read 120 = .ok (.aload_n 0, 1) := by decide +kernel
theorem dX11_read_121 : decode cX11_read 121 = .ok (.aload_n 0, 1) := by decide +kernel
theorem dX11_read_122 : decode cX11_read 122 = .ok (.getfield 102, 3) := by decide +kernel
theorem dX11_read_125 : decode cX11_read 125 = .ok (.putfield 135, 3) := by decide +kernel
theorem dX11_read_128 : decode cX11_read 128 = .ok (.iconst 0, 1) := by decide +kernel
theorem dX11_read_129 : decode cX11_read 129 = .ok (.istore_n 2, 1) := by decide +kernel
theorem dX11_read_130 : decode cX11_read 130 = .ok (.iload_n 2, 1) := by decide +kernel
theorem dX11_read_131 : decode cX11_read 131 = .ok (.aload_n 0, 1) := by decide +kernel
theorem dX11_read_132 : decode cX11_read 132 = .ok (.getfield 132, 3) := by decide +kernel
theorem dX11_read_135 : decode cX11_read 135 = .ok (.if_icmp .ge 21, 3) := by decide +kernel
theorem dX11_read_138 : decode cX11_read 138 = .ok (.aload_n 0, 1) := by decide +kernel
theorem dX11_read_139 : decode cX11_read 139 = .ok (.getfield 17, 3) := by decide +kernel
theorem dX11_read_142 : decode cX11_read 142 = .ok (.iload_n 2, 1) := by decide +kernel
theorem dX11_read_143 : decode cX11_read 143 = .ok (.aload_n 0, 1) := by decide +kernel
theorem dX11_read_144 : decode cX11_read 144 = .ok (.getfield 20, 3) := by decide +kernel
theorem dX11_read_147 : decode cX11_read 147 = .ok (.iload_n 2, 1) := by decide +kernel
theorem dX11_read_148 : decode cX11_read 148 = .ok (.iaload, 1) := by decide +kernel
theorem dX11_read_149 : decode cX11_read 149 = .ok (.iastore, 1) := by decide +kernel
theorem dX11_read_150 : decode cX11_read 150 = .ok (.iinc 2 1, 3) := by decide +kernel
theorem dX11_read_153 : decode cX11_read 153 = .ok (.goto (-23), 3) := by decide +kernel
theorem dX11_read_156 : decode cX11_read 156 = .ok (.iconst 0, 1) := by decide +kernel
theorem dX11_read_157 : decode cX11_read 157 = .ok (.istore_n 2, 1) := by decide +kernel
theorem dX11_read_158 : decode cX11_read 158 = .ok (.iload_n 2, 1) := by decide +kernel
theorem dX11_read_159 : decode cX11_read 159 = .ok (.aload_n 0, 1) := by decide +kernel
theorem dX11_read_160 : decode cX11_read 160 = .ok (.getfield 132, 3) := by decide +kernel
theorem dX11_read_163 : decode cX11_read 163 = .ok (.if_icmp .ge 14, 3) := by decide +kernel
theorem dX11_read_166 : decode cX11_read 166 = .ok (.aload_n 0, 1) := by decide +kernel
theorem dX11_read_167 : decode cX11_read 167 = .ok (.iload_n 2, 1) := by decide +kernel
theorem dX11_read_168 : decode cX11_read 168 = .ok (.invokevirtual 138, 3) := by decide +kernel
theorem dX11_read_171 : decode cX11_read 171 = .ok (.iinc 2 1, 3) := by decide +kernel
theorem dX11_read_174 : decode cX11_read 174 = .ok (.goto (-16), 3) := by decide +kernel
theorem dX11_read_177 : decode cX11_read 177 = .ok (.aload_n 0, 1) := by decide +kernel
theorem dX11_read_178 : decode cX11_read 178 = .ok (.iconst 0, 1) := by decide +kernel
theorem dX11_read_179 : decode cX11_read 179 = .ok (.putfield 141, 3) := by decide +kernel
theorem dX11_read_182 : decode cX11_read 182 = .ok (.aload_n 0, 1) := by decide +kernel
theorem dX11_read_183 : decode cX11_read 183 = .ok (.iconst 0, 1) := by decide +kernel
theorem dX11_read_184 : decode cX11_read 184 = .ok (.putfield 144, 3) := by decide +kernel
theorem dX11_read_187 : decode cX11_read 187 = .ok (.aload_n 0, 1) := by decide +kernel
theorem dX11_read_188 : decode cX11_read 188 = .ok (.iconst 0, 1) := by decide +kernel
theorem dX11_read_189 : decode cX11_read 189 = .ok (.putfield 147, 3) := by decide +kernel
theorem dX11_read_192 : decode cX11_read 192 = .ok (.aload_n 0, 1) := by decide +kernel
theorem dX11_read_193 : decode cX11_read 193 = .ok (.iconst 0, 1) := by decide +kernel
theorem dX11_read_194 : decode cX11_read 194 = .ok (.putfield 150, 3) := by decide +kernel
theorem dX11_read_197 : decode cX11_read 197 = .ok (.aload_n 0, 1) := by decide +kernel
theorem dX11_read_198 : decode cX11_read 198 = .ok (.iconst 0, 1) := by decide +kernel
theorem dX11_read_199 : decode cX11_read 199 = .ok (.putfield 153, 3) := by decide +kernel
theorem dX11_read_202 : decode cX11_read 202 = .ok (.aload_n 0, 1) := by decide +kernel
theorem dX11_read_203 : decode cX11_read 203 = .ok (.iconst 0, 1) := by decide +kernel
theorem dX11_read_204 : decode cX11_read 204 = .ok (.putfield 156, 3) := by decide +kernel
theorem dX11_read_207 : decode cX11_read 207 = .ok (.aload_n 0, 1) := by decide +kernel
theorem dX11_read_208 : decode cX11_read 208 = .ok (.iconst 0, 1) := by decide +kernel
theorem dX11_read_209 : decode cX11_read 209 = .ok (.putfield 159, 3) := by decide +kernel
theorem dX11_read_212 : decode cX11_read 212 = .ok (.aload_n 0, 1) := by decide +kernel
theorem dX11_read_213 : decode cX11_read 213 = .ok (.getfield 132, 3) := by decide +kernel
theorem dX11_read_216 : decode cX11_read 216 = .ok (.ireturn, 1) := by decide +kernel
theorem dX11_measure_0 : decode cX11_measure 0 = .ok (.iconst 0, 1) := by decide +kernel
theorem dX11_measure_1 : decode cX11_measure 1 = .ok (.istore_n 2, 1) := by decide +kernel
theorem dX11_measure_2 : decode cX11_measure 2 = .ok (.iload_n 2, 1) := by decide +kernel
theorem dX11_measure_3 : decode cX11_measure 3 = .ok (.aload_n 0, 1) := by decide +kernel
theorem dX11_measure_4 : decode cX11_measure 4 = .ok (.getfield 132, 3) := by decide +kernel
theorem dX11_measure_7 : decode cX11_measure 7 = .ok (.if_icmp .ge 39, 3) := by decide +kernel
theorem dX11_measure_10 : decode cX11_measure 10 = .ok (.aload_n 0, 1) := by decide +kernel
theorem dX11_measure_11 : decode cX11_measure 11 = .ok (.getfield 23, 3) := by decide +kernel
theorem dX11_measure_14 : decode cX11_measure 14 = .ok (.bipush 80, 2) := by decide +kernel
theorem dX11_measure_16 : decode cX11_measure 16 = .ok (.iload_n 1, 1) := by decide +kernel
theorem dX11_measure_17 : decode cX11_measure 17 = .ok (.imul, 1) := by decide +kernel
theorem dX11_measure_18 : decode cX11_measure 18 = .ok (.iload_n 2, 1) := by decide +kernel
theorem dX11_measure_19 : decode cX11_measure 19 = .ok (.iadd, 1) := by decide +kernel
theorem dX11_measure_20 : decode cX11_measure 20 = .ok (.iload_n 2, 1) := by decide +kernel
theorem dX11_measure_21 : decode cX11_measure 21 = .ok (.iload_n 1, 1) := by decide +kernel
theorem dX11_measure_22 : decode cX11_measure 22 = .ok (.if_icmp .ne 16, 3) := by decide +kernel
theorem dX11_measure_25 : decode cX11_measure 25 = .ok (.aload_n 0, 1) := by decide +kernel
theorem dX11_measure_26 : decode cX11_measure 26 = .ok (.getfield 17, 3) := by decide +kernel
theorem dX11_measure_29 : decode cX11_measure 29 = .ok (.iload_n 2, 1) := by decide +kernel
theorem dX11_measure_30 : decode cX11_measure 30 = .ok (.iaload, 1) := by decide +kernel
theorem dX11_measure_31 : decode cX11_measure 31 = .ok (.ifCond .eq 7, 3) := by decide +kernel
theorem dX11_measure_34 : decode cX11_measure 34 = .ok (.iconst 0, 1) := by decide +kernel
theorem dX11_measure_35 : decode cX11_measure 35 = .ok (.goto 4, 3) := by decide +kernel
theorem dX11_measure_38 : decode cX11_measure 38 = .ok (.iconst (-1), 1) := by decide +kernel
theorem dX11_measure_39 : decode cX11_measure 39 = .ok (.iastore, 1) := by decide +kernel
theorem dX11_measure_40 : decode cX11_measure 40 = .ok (.iinc 2 1, 3) := by decide +kernel
theorem dX11_measure_43 : decode cX11_measure 43 = .ok (.goto (-41), 3) := by decide +kernel
theorem dX11_measure_46 : decode cX11_measure 46 = .ok (.iconst 1, 1) := by decide +kernel
theorem dX11_measure_47 : decode cX11_measure 47 = .ok (.istore_n 2, 1) := by decide +kernel
theorem dX11_measure_48 : decode cX11_measure 48 = .ok (.iconst 0, 1) := by decide +kernel
theorem dX11_measure_49 : decode cX11_measure 49 = .ok (.istore_n 3, 1) := by decide +kernel
theorem dX11_measure_50 : decode cX11_measure 50 = .ok (.iload_n 2, 1) := by decide +kernel
theorem dX11_measure_51 : decode cX11_measure 51 = .ok (.ifCond .eq 124, 3) := by decide +kernel
theorem dX11_measure_54 : decode cX11_measure 54 = .ok (.iconst 0, 1) := by decide +kernel
theorem dX11_measure_55 : decode cX11_measure 55 = .ok (.istore_n 2, 1) := by decide +kernel
theorem dX11_measure_56 : decode cX11_measure 56 = .ok (.iconst 0, 1) := by decide +kernel
theorem dX11_measure_57 : decode cX11_measure 57 = .ok (.istore 4, 2) := by decide +kernel
theorem dX11_measure_59 : decode cX11_measure 59 = .ok (.iload 4, 2) := by decide +kernel
theorem dX11_measure_61 : decode cX11_measure 61 = .ok (.aload_n 0, 1) := by decide +kernel
theorem dX11_measure_62 : decode cX11_measure 62 = .ok (.getfield 132, 3) := by decide +kernel
theorem dX11_measure_65 : decode cX11_measure 65 = .ok (.if_icmp .ge 104, 3) := by decide +kernel
theorem dX11_measure_68 : decode cX11_measure 68 = .ok (.iconst 1, 1) := by decide +kernel
theorem dX11_measure_69 : decode cX11_measure 69 = .ok (.istore 5, 2) := by decide +kernel
theorem dX11_measure_71 : decode cX11_measure 71 = .ok (.iload 5, 2) := by decide +kernel
theorem dX11_measure_73 : decode cX11_measure 73 = .ok (.iconst 5, 1) := by decide +kernel
theorem dX11_measure_74 : decode cX11_measure 74 = .ok (.if_icmp .ge 89, 3) := by decide +kernel
theorem dX11_measure_77 : decode cX11_measure 77 = .ok (.aload_n 0, 1) := by decide +kernel
theorem dX11_measure_78 : decode cX11_measure 78 = .ok (.getfield 23, 3) := by decide +kernel
theorem dX11_measure_81 : decode cX11_measure 81 = .ok (.bipush 80, 2) := by decide +kernel
theorem dX11_measure_83 : decode cX11_measure 83 = .ok (.iload_n 1, 1) := by decide +kernel
theorem dX11_measure_84 : decode cX11_measure 84 = .ok (.imul, 1) := by decide +kernel
theorem dX11_measure_85 : decode cX11_measure 85 = .ok (.iload 4, 2) := by decide +kernel
theorem dX11_measure_87 : decode cX11_measure 87 = .ok (.iadd, 1) := by decide +kernel
theorem dX11_measure_88 : decode cX11_measure 88 = .ok (.iaload, 1) := by decide +kernel
theorem dX11_measure_89 : decode cX11_measure 89 = .ok (.iload_n 3, 1) := by decide +kernel
theorem dX11_measure_90 : decode cX11_measure 90 = .ok (.if_icmp .ne 73, 3) := by decide +kernel
theorem dX11_measure_93 : decode cX11_measure 93 = .ok (.iload 4, 2) := by decide +kernel
theorem dX11_measure_95 : decode cX11_measure 95 = .ok (.iload 5, 2) := by decide +kernel
theorem dX11_measure_97 : decode cX11_measure 97 = .ok (.aload_n 0, 1) := by decide +kernel
theorem dX11_measure_98 : decode cX11_measure 98 = .ok (.getfield 135, 3) := by decide +kernel
theorem dX11_measure_101 : decode cX11_measure 101 = .ok (.aload_n 0, 1) := by decide +kernel
theorem dX11_measure_102 : decode cX11_measure 102 = .ok (.getfield 132, 3) := by decide +kernel
theorem dX11_measure_105 : decode cX11_measure 105 = .ok (.invokestatic 113, 3) := by decide +kernel
theorem dX11_measure_108 : decode cX11_measure 108 = .ok (.istore 6, 2) := by decide +kernel
theorem dX11_measure_110 : decode cX11_measure 110 = .ok (.iload 6, 2) := by decide +kernel
theorem dX11_measure_112 : decode cX11_measure 112 = .ok (.ifCond .lt 45, 3) := by decide +kernel
theorem dX11_measure_115 : decode cX11_measure 115 = .ok (.aload_n 0, 1) := by decide +kernel
theorem dX11_measure_116 : decode cX11_measure 116 = .ok (.getfield 17, 3) := by decide +kernel
theorem dX11_measure_119 : decode cX11_measure 119 = .ok (.iload 6, 2) := by decide +kernel
theorem dX11_measure_121 : decode cX11_measure 121 = .ok (.iaload, 1) := by decide +kernel
theorem dX11_measure_122 : decode cX11_measure 122 = .ok (.ifCond .eq 35, 3) := by decide +kernel
theorem dX11_measure_125 : decode cX11_measure 125 = .ok (.aload_n 0, 1) := by decide +kernel
theorem dX11_measure_126 : decode cX11_measure 126 = .ok (.getfield 23, 3) := by decide +kernel
theorem dX11_measure_129 : decode cX11_measure 129 = .ok (.bipush 80, 2) := by decide +kernel
theorem dX11_measure_131 : decode cX11_measure 131 = .ok (.iload_n 1, 1) := by decide +kernel
theorem dX11_measure_132 : decode cX11_measure 132 = .ok (.imul, 1) := by decide +kernel
theorem dX11_measure_133 : decode cX11_measure 133 = .ok (.iload 6, 2) := by decide +kernel
theorem dX11_measure_135 : decode cX11_measure 135 = .ok (.iadd, 1) := by decide +kernel
theorem dX11_measure_136 : decode cX11_measure 136 = .ok (.iaload, 1) := by decide +kernel
end
section
theorem dX11_measure_137 : decode cX11_measure 137 = .ok (.ifCond .ge 20, 3) := by decide +kernel
theorem dX11_measure_140 : decode cX11_measure 140 = .ok (.aload_n 0, 1) := by decide +kernel
theorem dX11_measure_141 : decode cX11_measure 141 = .ok (.getfield 23, 3) := by decide +kernel
theorem dX11_measure_144 : decode cX11_measure 144 = .ok (.bipush 80, 2) := by decide +kernel
theorem dX11_measure_146 : decode cX11_measure 146 = .ok (.iload_n 1, 1) := by decide +kernel
theorem dX11_measure_147 : decode cX11_measure 147 = .ok (.imul, 1) := by decide +kernel
theorem dX11_measure_148 : decode cX11_measure 148 = .ok (.iload 6, 2) := by decide +kernel
theorem dX11_measure_150 : decode cX11_measure 150 = .ok (.iadd, 1) := by decide +kernel
theorem dX11_measure_151 : decode cX11_measure 151 = .ok (.iload_n 3, 1) := by decide +kernel
theorem dX11_measure_152 : decode cX11_measure 152 = .ok (.iconst 1, 1) := by decide +kernel
theorem dX11_measure_153 : decode cX11_measure 153 = .ok (.iadd, 1) := by decide +kernel
theorem dX11_measure_154 : decode cX11_measure 154 = .ok (.iastore, 1) := by decide +kernel
theorem dX11_measure_155 : decode cX11_measure 155 = .ok (.iconst 1, 1) := by decide +kernel
theorem dX11_measure_156 : decode cX11_measure 156 = .ok (.istore_n 2, 1) := by decide +kernel
theorem dX11_measure_157 : decode cX11_measure 157 = .ok (.iinc 5 1, 3) := by decide +kernel
theorem dX11_measure_160 : decode cX11_measure 160 = .ok (.goto (-89), 3) := by decide +kernel
theorem dX11_measure_163 : decode cX11_measure 163 = .ok (.iinc 4 1, 3) := by decide +kernel
theorem dX11_measure_166 : decode cX11_measure 166 = .ok (.goto (-107), 3) := by decide +kernel
theorem dX11_measure_169 : decode cX11_measure 169 = .ok (.iinc 3 1, 3) := by decide +kernel
theorem dX11_measure_172 : decode cX11_measure 172 = .ok (.goto (-122), 3) := by decide +kernel
theorem dX11_measure_175 : decode cX11_measure 175 = .ok (.return_, 1) := by decide +kernel
theorem dX11_place_0 : decode cX11_place 0 = .ok (.aload_n 0, 1) := by decide +kernel
theorem dX11_place_1 : decode cX11_place 1 = .ok (.getfield 13, 3) := by decide +kernel
theorem dX11_place_4 : decode cX11_place 4 = .ok (.ireturn, 1) := by decide +kernel
theorem dX11_cell_0 : decode cX11_cell 0 = .ok (.iload_n 1, 1) := by decide +kernel
theorem dX11_cell_1 : decode cX11_cell 1 = .ok (.iconst 0, 1) := by decide +kernel
theorem dX11_cell_2 : decode cX11_cell 2 = .ok (.aload_n 0, 1) := by decide +kernel
theorem dX11_cell_3 : decode cX11_cell 3 = .ok (.getfield 132, 3) := by decide +kernel
theorem dX11_cell_6 : decode cX11_cell 6 = .ok (.iconst 1, 1) := by decide +kernel
theorem dX11_cell_7 : decode cX11_cell 7 = .ok (.isub, 1) := by decide +kernel
theorem dX11_cell_8 : decode cX11_cell 8 = .ok (.invokestatic 162, 3) := by decide +kernel
theorem dX11_cell_11 : decode cX11_cell 11 = .ok (.ifCond .eq 12, 3) := by decide +kernel
theorem dX11_cell_14 : decode cX11_cell 14 = .ok (.aload_n 0, 1) := by decide +kernel
theorem dX11_cell_15 : decode cX11_cell 15 = .ok (.getfield 17, 3) := by decide +kernel
theorem dX11_cell_18 : decode cX11_cell 18 = .ok (.iload_n 1, 1) := by decide +kernel
theorem dX11_cell_19 : decode cX11_cell 19 = .ok (.iaload, 1) := by decide +kernel
theorem dX11_cell_20 : decode cX11_cell 20 = .ok (.goto 4, 3) := by decide +kernel
theorem dX11_cell_23 : decode cX11_cell 23 = .ok (.iconst (-1), 1) := by decide +kernel
theorem dX11_cell_24 : decode cX11_cell 24 = .ok (.ireturn, 1) := by decide +kernel
theorem dX11_distance_0 : decode cX11_distance 0 = .ok (.iload_n 1, 1) := by decide +kernel
theorem dX11_distance_1 : decode cX11_distance 1 = .ok (.iconst 0, 1) := by decide +kernel
theorem dX11_distance_2 : decode cX11_distance 2 = .ok (.aload_n 0, 1) := by decide +kernel
theorem dX11_distance_3 : decode cX11_distance 3 = .ok (.getfield 132, 3) := by decide +kernel
theorem dX11_distance_6 : decode cX11_distance 6 = .ok (.iconst 1, 1) := by decide +kernel
theorem dX11_distance_7 : decode cX11_distance 7 = .ok (.isub, 1) := by decide +kernel
theorem dX11_distance_8 : decode cX11_distance 8 = .ok (.invokestatic 162, 3) := by decide +kernel
theorem dX11_distance_11 : decode cX11_distance 11 = .ok (.ifCond .eq 31, 3) := by decide +kernel
theorem dX11_distance_14 : decode cX11_distance 14 = .ok (.iload_n 2, 1) := by decide +kernel
theorem dX11_distance_15 : decode cX11_distance 15 = .ok (.iconst 0, 1) := by decide +kernel
theorem dX11_distance_16 : decode cX11_distance 16 = .ok (.aload_n 0, 1) := by decide +kernel
theorem dX11_distance_17 : decode cX11_distance 17 = .ok (.getfield 132, 3) := by decide +kernel
theorem dX11_distance_20 : decode cX11_distance 20 = .ok (.iconst 1, 1) := by decide +kernel
theorem dX11_distance_21 : decode cX11_distance 21 = .ok (.isub, 1) := by decide +kernel
theorem dX11_distance_22 : decode cX11_distance 22 = .ok (.invokestatic 162, 3) := by decide +kernel
theorem dX11_distance_25 : decode cX11_distance 25 = .ok (.ifCond .eq 17, 3) := by decide +kernel
theorem dX11_distance_28 : decode cX11_distance 28 = .ok (.aload_n 0, 1) := by decide +kernel
theorem dX11_distance_29 : decode cX11_distance 29 = .ok (.getfield 23, 3) := by decide +kernel
theorem dX11_distance_32 : decode cX11_distance 32 = .ok (.bipush 80, 2) := by decide +kernel
theorem dX11_distance_34 : decode cX11_distance 34 = .ok (.iload_n 1, 1) := by decide +kernel
theorem dX11_distance_35 : decode cX11_distance 35 = .ok (.imul, 1) := by decide +kernel
theorem dX11_distance_36 : decode cX11_distance 36 = .ok (.iload_n 2, 1) := by decide +kernel
theorem dX11_distance_37 : decode cX11_distance 37 = .ok (.iadd, 1) := by decide +kernel
theorem dX11_distance_38 : decode cX11_distance 38 = .ok (.iaload, 1) := by decide +kernel
theorem dX11_distance_39 : decode cX11_distance 39 = .ok (.goto 5, 3) := by decide +kernel
theorem dX11_distance_42 : decode cX11_distance 42 = .ok (.bipush (-2), 2) := by decide +kernel
theorem dX11_distance_44 : decode cX11_distance 44 = .ok (.ireturn, 1) := by decide +kernel
theorem dX11_isKind_0 : decode cX11_isKind 0 = .ok (.iload_n 1, 1) := by decide +kernel
theorem dX11_isKind_1 : decode cX11_isKind 1 = .ok (.iconst 0, 1) := by decide +kernel
theorem dX11_isKind_2 : decode cX11_isKind 2 = .ok (.aload_n 0, 1) := by decide +kernel
theorem dX11_isKind_3 : decode cX11_isKind 3 = .ok (.getfield 132, 3) := by decide +kernel
theorem dX11_isKind_6 : decode cX11_isKind 6 = .ok (.iconst 1, 1) := by decide +kernel
theorem dX11_isKind_7 : decode cX11_isKind 7 = .ok (.isub, 1) := by decide +kernel
theorem dX11_isKind_8 : decode cX11_isKind 8 = .ok (.invokestatic 162, 3) := by decide +kernel
theorem dX11_isKind_11 : decode cX11_isKind 11 = .ok (.ifCond .eq 17, 3) := by decide +kernel
theorem dX11_isKind_14 : decode cX11_isKind 14 = .ok (.aload_n 0, 1) := by decide +kernel
theorem dX11_isKind_15 : decode cX11_isKind 15 = .ok (.getfield 17, 3) := by decide +kernel
theorem dX11_isKind_18 : decode cX11_isKind 18 = .ok (.iload_n 1, 1) := by decide +kernel
theorem dX11_isKind_19 : decode cX11_isKind 19 = .ok (.iaload, 1) := by decide +kernel
theorem dX11_isKind_20 : decode cX11_isKind 20 = .ok (.iload_n 2, 1) := by decide +kernel
theorem dX11_isKind_21 : decode cX11_isKind 21 = .ok (.if_icmp .ne 7, 3) := by decide +kernel
theorem dX11_isKind_24 : decode cX11_isKind 24 = .ok (.iconst 1, 1) := by decide +kernel
theorem dX11_isKind_25 : decode cX11_isKind 25 = .ok (.goto 4, 3) := by decide +kernel
theorem dX11_isKind_28 : decode cX11_isKind 28 = .ok (.iconst 0, 1) := by decide +kernel
theorem dX11_isKind_29 : decode cX11_isKind 29 = .ok (.ireturn, 1) := by decide +kernel
theorem dX11_at_0 : decode cX11_at 0 = .ok (.aload_n 0, 1) := by decide +kernel
theorem dX11_at_1 : decode cX11_at 1 = .ok (.getfield 30, 3) := by decide +kernel
theorem dX11_at_4 : decode cX11_at 4 = .ok (.sipush 5200, 3) := by decide +kernel
theorem dX11_at_7 : decode cX11_at 7 = .ok (.iload_n 1, 1) := by decide +kernel
theorem dX11_at_8 : decode cX11_at 8 = .ok (.imul, 1) := by decide +kernel
theorem dX11_at_9 : decode cX11_at 9 = .ok (.iload_n 2, 1) := by decide +kernel
theorem dX11_at_10 : decode cX11_at 10 = .ok (.aload_n 0, 1) := by decide +kernel
theorem dX11_at_11 : decode cX11_at 11 = .ok (.getfield 33, 3) := by decide +kernel
theorem dX11_at_14 : decode cX11_at 14 = .ok (.iload_n 1, 1) := by decide +kernel
theorem dX11_at_15 : decode cX11_at 15 = .ok (.iaload, 1) := by decide +kernel
theorem dX11_at_16 : decode cX11_at 16 = .ok (.if_icmp .ge 7, 3) := by decide +kernel
theorem dX11_at_19 : decode cX11_at 19 = .ok (.iload_n 2, 1) := by decide +kernel
theorem dX11_at_20 : decode cX11_at 20 = .ok (.goto 9, 3) := by decide +kernel
theorem dX11_at_23 : decode cX11_at 23 = .ok (.aload_n 0, 1) := by decide +kernel
theorem dX11_at_24 : decode cX11_at 24 = .ok (.getfield 33, 3) := by decide +kernel
theorem dX11_at_27 : decode cX11_at 27 = .ok (.iload_n 1, 1) := by decide +kernel
theorem dX11_at_28 : decode cX11_at 28 = .ok (.iaload, 1) := by decide +kernel
theorem dX11_at_29 : decode cX11_at 29 = .ok (.iadd, 1) := by decide +kernel
theorem dX11_at_30 : decode cX11_at 30 = .ok (.iaload, 1) := by decide +kernel
theorem dX11_at_31 : decode cX11_at 31 = .ok (.ireturn, 1) := by decide +kernel
theorem dX11_endOf_0 : decode cX11_endOf 0 = .ok (.aload_n 0, 1) := by decide +kernel
theorem dX11_endOf_1 : decode cX11_endOf 1 = .ok (.iload_n 1, 1) := by decide +kernel
theorem dX11_endOf_2 : decode cX11_endOf 2 = .ok (.aload_n 0, 1) := by decide +kernel
theorem dX11_endOf_3 : decode cX11_endOf 3 = .ok (.getfield 33, 3) := by decide +kernel
theorem dX11_endOf_6 : decode cX11_endOf 6 = .ok (.iload_n 1, 1) := by decide +kernel
theorem dX11_endOf_7 : decode cX11_endOf 7 = .ok (.iaload, 1) := by decide +kernel
theorem dX11_endOf_8 : decode cX11_endOf 8 = .ok (.invokevirtual 166, 3) := by decide +kernel
theorem dX11_endOf_11 : decode cX11_endOf 11 = .ok (.ireturn, 1) := by decide +kernel
theorem dX11_robot_0 : decode cX11_robot 0 = .ok (.aload_n 0, 1) := by decide +kernel
theorem dX11_robot_1 : decode cX11_robot 1 = .ok (.getfield 132, 3) := by decide +kernel
theorem dX11_robot_4 : decode cX11_robot 4 = .ok (.ifCond .eq 10, 3) := by decide +kernel
theorem dX11_robot_7 : decode cX11_robot 7 = .ok (.aload_n 0, 1) := by decide +kernel
theorem dX11_robot_8 : decode cX11_robot 8 = .ok (.getfield 141, 3) := by decide +kernel
theorem dX11_robot_11 : decode cX11_robot 11 = .ok (.ifCond .le 6, 3) := by decide +kernel
theorem dX11_robot_14 : decode cX11_robot 14 = .ok (.bipush (-4), 2) := by decide +kernel
theorem dX11_robot_16 : decode cX11_robot 16 = .ok (.ireturn, 1) := by decide +kernel
theorem dX11_robot_17 : decode cX11_robot 17 = .ok (.aload_n 0, 1) := by decide +kernel
theorem dX11_robot_18 : decode cX11_robot 18 = .ok (.iload_n 1, 1) := by decide +kernel
theorem dX11_robot_19 : decode cX11_robot 19 = .ok (.iconst 4, 1) := by decide +kernel
theorem dX11_robot_20 : decode cX11_robot 20 = .ok (.invokevirtual 169, 3) := by decide +kernel
theorem dX11_robot_23 : decode cX11_robot 23 = .ok (.ifCond .ne 6, 3) := by decide +kernel
theorem dX11_robot_26 : decode cX11_robot 26 = .ok (.bipush (-2), 2) := by decide +kernel
theorem dX11_robot_28 : decode cX11_robot 28 = .ok (.ireturn, 1) := by decide +kernel
theorem dX11_robot_29 : decode cX11_robot 29 = .ok (.aload_n 0, 1) := by decide +kernel
theorem dX11_robot_30 : decode cX11_robot 30 = .ok (.getfield 144, 3) := by decide +kernel
theorem dX11_robot_33 : decode cX11_robot 33 = .ok (.bipush 6, 2) := by decide +kernel
theorem dX11_robot_35 : decode cX11_robot 35 = .ok (.if_icmp .ne 6, 3) := by decide +kernel
theorem dX11_robot_38 : decode cX11_robot 38 = .ok (.bipush (-3), 2) := by decide +kernel
theorem dX11_robot_40 : decode cX11_robot 40 = .ok (.ireturn, 1) := by decide +kernel
theorem dX11_robot_41 : decode cX11_robot 41 = .ok (.iconst 0, 1) := by decide +kernel
theorem dX11_robot_42 : decode cX11_robot 42 = .ok (.istore_n 2, 1) := by decide +kernel
theorem dX11_robot_43 : decode cX11_robot 43 = .ok (.iload_n 2, 1) := by decide +kernel
theorem dX11_robot_44 : decode cX11_robot 44 = .ok (.aload_n 0, 1) := by decide +kernel
theorem dX11_robot_45 : decode cX11_robot 45 = .ok (.getfield 144, 3) := by decide +kernel
theorem dX11_robot_48 : decode cX11_robot 48 = .ok (.if_icmp .ge 21, 3) := by decide +kernel
theorem dX11_robot_51 : decode cX11_robot 51 = .ok (.aload_n 0, 1) := by decide +kernel
theorem dX11_robot_52 : decode cX11_robot 52 = .ok (.iload_n 2, 1) := by decide +kernel
theorem dX11_robot_53 : decode cX11_robot 53 = .ok (.iconst 0, 1) := by decide +kernel
theorem dX11_robot_54 : decode cX11_robot 54 = .ok (.invokevirtual 166, 3) := by decide +kernel
theorem dX11_robot_57 : decode cX11_robot 57 = .ok (.iload_n 1, 1) := by decide +kernel
theorem dX11_robot_58 : decode cX11_robot 58 = .ok (.if_icmp .ne 5, 3) := by decide +kernel
theorem dX11_robot_61 : decode cX11_robot 61 = .ok (.iconst (-1), 1) := by decide +kernel
theorem dX11_robot_62 : decode cX11_robot 62 = .ok (.ireturn, 1) := by decide +kernel
theorem dX11_robot_63 : decode cX11_robot 63 = .ok (.iinc 2 1, 3) := by decide +kernel
theorem dX11_robot_66 : decode cX11_robot 66 = .ok (.goto (-23), 3) := by decide +kernel
theorem dX11_robot_69 : decode cX11_robot 69 = .ok (.aload_n 0, 1) := by decide +kernel
theorem dX11_robot_70 : decode cX11_robot 70 = .ok (.getfield 30, 3) := by decide +kernel
theorem dX11_robot_73 : decode cX11_robot 73 = .ok (.sipush 5200, 3) := by decide +kernel
theorem dX11_robot_76 : decode cX11_robot 76 = .ok (.aload_n 0, 1) := by decide +kernel
theorem dX11_robot_77 : decode cX11_robot 77 = .ok (.getfield 144, 3) := by decide +kernel
theorem dX11_robot_80 : decode cX11_robot 80 = .ok (.imul, 1) := by decide +kernel
theorem dX11_robot_81 : decode cX11_robot 81 = .ok (.iload_n 1, 1) := by decide +kernel
theorem dX11_robot_82 : decode cX11_robot 82 = .ok (.iastore, 1) := by decide +kernel
theorem dX11_robot_83 : decode cX11_robot 83 = .ok (.aload_n 0, 1) := by decide +kernel
theorem dX11_robot_84 : decode cX11_robot 84 = .ok (.getfield 33, 3) := by decide +kernel
theorem dX11_robot_87 : decode cX11_robot 87 = .ok (.aload_n 0, 1) := by decide +kernel
theorem dX11_robot_88 : decode cX11_robot 88 = .ok (.getfield 144, 3) := by decide +kernel
theorem dX11_robot_91 : decode cX11_robot 91 = .ok (.iconst 0, 1) := by decide +kernel
theorem dX11_robot_92 : decode cX11_robot 92 = .ok (.iastore, 1) := by decide +kernel
theorem dX11_robot_93 : decode cX11_robot 93 = .ok (.aload_n 0, 1) := by decide +kernel
theorem dX11_robot_94 : decode cX11_robot 94 = .ok (.getfield 36, 3) := by decide +kernel
theorem dX11_robot_97 : decode cX11_robot 97 = .ok (.aload_n 0, 1) := by decide +kernel
theorem dX11_robot_98 : decode cX11_robot 98 = .ok (.getfield 144, 3) := by decide +kernel
theorem dX11_robot_101 : decode cX11_robot 101 = .ok (.iconst (-1), 1) := by decide +kernel
theorem dX11_robot_102 : decode cX11_robot 102 = .ok (.iastore, 1) := by decide +kernel
theorem dX11_robot_103 : decode cX11_robot 103 = .ok (.aload_n 0, 1) := by decide +kernel
theorem dX11_robot_104 : decode cX11_robot 104 = .ok (.getfield 39, 3) := by decide +kernel
theorem dX11_robot_107 : decode cX11_robot 107 = .ok (.aload_n 0, 1) := by decide +kernel
theorem dX11_robot_108 : decode cX11_robot 108 = .ok (.getfield 144, 3) := by decide +kernel
theorem dX11_robot_111 : decode cX11_robot 111 = .ok (.iconst 0, 1) := by decide +kernel
theorem dX11_robot_112 : decode cX11_robot 112 = .ok (.iastore, 1) := by decide +kernel
theorem dX11_robot_113 : decode cX11_robot 113 = .ok (.aload_n 0, 1) := by decide +kernel
theorem dX11_robot_114 : decode cX11_robot 114 = .ok (.getfield 42, 3) := by decide +kernel
theorem dX11_robot_117 : decode cX11_robot 117 = .ok (.aload_n 0, 1) := by decide +kernel
theorem dX11_robot_118 : decode cX11_robot 118 = .ok (.getfield 144, 3) := by decide +kernel
theorem dX11_robot_121 : decode cX11_robot 121 = .ok (.iconst 0, 1) := by decide +kernel
theorem dX11_robot_122 : decode cX11_robot 122 = .ok (.iastore, 1) := by decide +kernel
theorem dX11_robot_123 : decode cX11_robot 123 = .ok (.aload_n 0, 1) := by decide +kernel
theorem dX11_robot_124 : decode cX11_robot 124 = .ok (.getfield 45, 3) := by decide +kernel
theorem dX11_robot_127 : decode cX11_robot 127 = .ok (.aload_n 0, 1) := by decide +kernel
theorem dX11_robot_128 : decode cX11_robot 128 = .ok (.getfield 144, 3) := by decide +kernel
theorem dX11_robot_131 : decode cX11_robot 131 = .ok (.iconst 0, 1) := by decide +kernel
theorem dX11_robot_132 : decode cX11_robot 132 = .ok (.iastore, 1) := by decide +kernel
theorem dX11_robot_133 : decode cX11_robot 133 = .ok (.aload_n 0, 1) := by decide +kernel
theorem dX11_robot_134 : decode cX11_robot 134 = .ok (.dup, 1) := by decide +kernel
theorem dX11_robot_135 : decode cX11_robot 135 = .ok (.getfield 144, 3) := by decide +kernel
theorem dX11_robot_138 : decode cX11_robot 138 = .ok (.iconst 1, 1) := by decide +kernel
theorem dX11_robot_139 : decode cX11_robot 139 = .ok (.iadd, 1) := by decide +kernel
theorem dX11_robot_140 : decode cX11_robot 140 = .ok (.putfield 144, 3) := by decide +kernel
theorem dX11_robot_143 : decode cX11_robot 143 = .ok (.aload_n 0, 1) := by decide +kernel
theorem dX11_robot_144 : decode cX11_robot 144 = .ok (.getfield 144, 3) := by decide +kernel
theorem dX11_robot_147 : decode cX11_robot 147 = .ok (.iconst 1, 1) := by decide +kernel
theorem dX11_robot_148 : decode cX11_robot 148 = .ok (.isub, 1) := by decide +kernel
theorem dX11_robot_149 : decode cX11_robot 149 = .ok (.ireturn, 1) := by decide +kernel
theorem dX11_addTask_0 : decode cX11_addTask 0 = .ok (.aload_n 0, 1) := by decide +kernel
theorem dX11_addTask_1 : decode cX11_addTask 1 = .ok (.getfield 63, 3) := by decide +kernel
theorem dX11_addTask_4 : decode cX11_addTask 4 = .ok (.aload_n 0, 1) := by decide +kernel
theorem dX11_addTask_5 : decode cX11_addTask 5 = .ok (.getfield 150, 3) := by decide +kernel
theorem dX11_addTask_8 : decode cX11_addTask 8 = .ok (.aload_n 0, 1) := by decide +kernel
theorem dX11_addTask_9 : decode cX11_addTask 9 = .ok (.getfield 147, 3) := by decide +kernel
theorem dX11_addTask_12 : decode cX11_addTask 12 = .ok (.iastore, 1) := by decide +kernel
theorem dX11_addTask_13 : decode cX11_addTask 13 = .ok (.aload_n 0, 1) := by decide +kernel
theorem dX11_addTask_14 : decode cX11_addTask 14 = .ok (.getfield 66, 3) := by decide +kernel
theorem dX11_addTask_17 : decode cX11_addTask 17 = .ok (.aload_n 0, 1) := by decide +kernel
theorem dX11_addTask_18 : decode cX11_addTask 18 = .ok (.getfield 150, 3) := by decide +kernel
theorem dX11_addTask_21 : decode cX11_addTask 21 = .ok (.iload_n 1, 1) := by decide +kernel
theorem dX11_addTask_22 : decode cX11_addTask 22 = .ok (.iastore, 1) := by decide +kernel
theorem dX11_addTask_23 : decode cX11_addTask 23 = .ok (.aload_n 0, 1) := by decide +kernel
theorem dX11_addTask_24 : decode cX11_addTask 24 = .ok (.getfield 69, 3) := by decide +kernel
theorem dX11_addTask_27 : decode cX11_addTask 27 = .ok (.aload_n 0, 1) := by decide +kernel
theorem dX11_addTask_28 : decode cX11_addTask 28 = .ok (.getfield 150, 3) := by decide +kernel
theorem dX11_addTask_31 : decode cX11_addTask 31 = .ok (.iconst 0, 1) := by decide +kernel
theorem dX11_addTask_32 : decode cX11_addTask 32 = .ok (.iastore, 1) := by decide +kernel
theorem dX11_addTask_33 : decode cX11_addTask 33 = .ok (.aload_n 0, 1) := by decide +kernel
theorem dX11_addTask_34 : decode cX11_addTask 34 = .ok (.getfield 72, 3) := by decide +kernel
theorem dX11_addTask_37 : decode cX11_addTask 37 = .ok (.aload_n 0, 1) := by decide +kernel
theorem dX11_addTask_38 : decode cX11_addTask 38 = .ok (.getfield 150, 3) := by decide +kernel
theorem dX11_addTask_41 : decode cX11_addTask 41 = .ok (.iconst (-1), 1) := by decide +kernel
theorem dX11_addTask_42 : decode cX11_addTask 42 = .ok (.iastore, 1) := by decide +kernel
theorem dX11_addTask_43 : decode cX11_addTask 43 = .ok (.aload_n 0, 1) := by decide +kernel
theorem dX11_addTask_44 : decode cX11_addTask 44 = .ok (.getfield 75, 3) := by decide +kernel
theorem dX11_addTask_47 : decode cX11_addTask 47 = .ok (.aload_n 0, 1) := by decide +kernel
theorem dX11_addTask_48 : decode cX11_addTask 48 = .ok (.getfield 150, 3) := by decide +kernel
theorem dX11_addTask_51 : decode cX11_addTask 51 = .ok (.aload_n 0, 1) := by decide +kernel
theorem dX11_addTask_52 : decode cX11_addTask 52 = .ok (.getfield 141, 3) := by decide +kernel
theorem dX11_addTask_55 : decode cX11_addTask 55 = .ok (.iastore, 1) := by decide +kernel
theorem dX11_addTask_56 : decode cX11_addTask 56 = .ok (.aload_n 0, 1) := by decide +kernel
theorem dX11_addTask_57 : decode cX11_addTask 57 = .ok (.getfield 78, 3) := by decide +kernel
theorem dX11_addTask_60 : decode cX11_addTask 60 = .ok (.aload_n 0, 1) := by decide +kernel
theorem dX11_addTask_61 : decode cX11_addTask 61 = .ok (.getfield 150, 3) := by decide +kernel
theorem dX11_addTask_64 : decode cX11_addTask 64 = .ok (.iconst (-1), 1) := by decide +kernel
theorem dX11_addTask_65 : decode cX11_addTask 65 = .ok (.iastore, 1) := by decide +kernel
theorem dX11_addTask_66 : decode cX11_addTask 66 = .ok (.aload_n 0, 1) := by decide +kernel
theorem dX11_addTask_67 : decode cX11_addTask 67 = .ok (.getfield 81, 3) := by decide +kernel
theorem dX11_addTask_70 : decode cX11_addTask 70 = .ok (.aload_n 0, 1) := by decide +kernel
theorem dX11_addTask_71 : decode cX11_addTask 71 = .ok (.getfield 150, 3) := by decide +kernel
theorem dX11_addTask_74 : decode cX11_addTask 74 = .ok (.iconst (-1), 1) := by decide +kernel
theorem dX11_addTask_75 : decode cX11_addTask 75 = .ok (.iastore, 1) := by decide +kernel
theorem dX11_addTask_76 : decode cX11_addTask 76 = .ok (.aload_n 0, 1) := by decide +kernel
theorem dX11_addTask_77 : decode cX11_addTask 77 = .ok (.getfield 84, 3) := by decide +kernel
theorem dX11_addTask_80 : decode cX11_addTask 80 = .ok (.aload_n 0, 1) := by decide +kernel
theorem dX11_addTask_81 : decode cX11_addTask 81 = .ok (.getfield 150, 3) := by decide +kernel
theorem dX11_addTask_84 : decode cX11_addTask 84 = .ok (.iconst (-1), 1) := by decide +kernel
theorem dX11_addTask_85 : decode cX11_addTask 85 = .ok (.iastore, 1) := by decide +kernel
theorem dX11_addTask_86 : decode cX11_addTask 86 = .ok (.aload_n 0, 1) := by decide +kernel
theorem dX11_addTask_87 : decode cX11_addTask 87 = .ok (.dup, 1) := by decide +kernel
theorem dX11_addTask_88 : decode cX11_addTask 88 = .ok (.getfield 150, 3) := by decide +kernel
theorem dX11_addTask_91 : decode cX11_addTask 91 = .ok (.iconst 1, 1) := by decide +kernel
theorem dX11_addTask_92 : decode cX11_addTask 92 = .ok (.iadd, 1) := by decide +kernel
theorem dX11_addTask_93 : decode cX11_addTask 93 = .ok (.putfield 150, 3) := by decide +kernel
theorem dX11_addTask_96 : decode cX11_addTask 96 = .ok (.return_, 1) := by decide +kernel
theorem dX11_order_0 : decode cX11_order 0 = .ok (.aload_n 0, 1) := by decide +kernel
theorem dX11_order_1 : decode cX11_order 1 = .ok (.getfield 132, 3) := by decide +kernel
theorem dX11_order_4 : decode cX11_order 4 = .ok (.ifCond .ne 6, 3) := by decide +kernel
theorem dX11_order_7 : decode cX11_order 7 = .ok (.bipush (-4), 2) := by decide +kernel
theorem dX11_order_9 : decode cX11_order 9 = .ok (.ireturn, 1) := by decide +kernel
theorem dX11_order_10 : decode cX11_order 10 = .ok (.aload_n 0, 1) := by decide +kernel
theorem dX11_order_11 : decode cX11_order 11 = .ok (.iload_n 1, 1) := by decide +kernel
theorem dX11_order_12 : decode cX11_order 12 = .ok (.iconst 3, 1) := by decide +kernel
theorem dX11_order_13 : decode cX11_order 13 = .ok (.invokevirtual 169, 3) := by decide +kernel
theorem dX11_order_16 : decode cX11_order 16 = .ok (.ifCond .eq 55, 3) := by decide +kernel
theorem dX11_order_19 : decode cX11_order 19 = .ok (.aload_n 0, 1) := by decide +kernel
theorem dX11_order_20 : decode cX11_order 20 = .ok (.iload_n 2, 1) := by decide +kernel
theorem dX11_order_21 : decode cX11_order 21 = .ok (.iconst 2, 1) := by decide +kernel
theorem dX11_order_22 : decode cX11_order 22 = .ok (.invokevirtual 169, 3) := by decide +kernel
theorem dX11_order_25 : decode cX11_order 25 = .ok (.ifCond .eq 46, 3) := by decide +kernel
theorem dX11_order_28 : decode cX11_order 28 = .ok (.iload_n 3, 1) := by decide +kernel
theorem dX11_order_29 : decode cX11_order 29 = .ok (.iconst (-1), 1) := by decide +kernel
theorem dX11_order_30 : decode cX11_order 30 = .ok (.if_icmp .ne 12, 3) := by decide +kernel
theorem dX11_order_33 : decode cX11_order 33 = .ok (.iload 4, 2) := by decide +kernel
theorem dX11_order_35 : decode cX11_order 35 = .ok (.iconst (-1), 1) := by decide +kernel
theorem dX11_order_36 : decode cX11_order 36 = .ok (.if_icmp .ne 35, 3) := by decide +kernel
theorem dX11_order_39 : decode cX11_order 39 = .ok (.goto 28, 3) := by decide +kernel
theorem dX11_order_42 : decode cX11_order 42 = .ok (.aload_n 0, 1) := by decide +kernel
theorem dX11_order_43 : decode cX11_order 43 = .ok (.iload_n 3, 1) := by decide +kernel
theorem dX11_order_44 : decode cX11_order 44 = .ok (.iconst 2, 1) := by decide +kernel
theorem dX11_order_45 : decode cX11_order 45 = .ok (.invokevirtual 169, 3) := by decide +kernel
theorem dX11_order_48 : decode cX11_order 48 = .ok (.ifCond .eq 23, 3) := by decide +kernel
theorem dX11_order_51 : decode cX11_order 51 = .ok (.iload 4, 2) := by decide +kernel
theorem dX11_order_53 : decode cX11_order 53 = .ok (.iconst (-1), 1) := by decide +kernel
theorem dX11_order_54 : decode cX11_order 54 = .ok (.if_icmp .eq 13, 3) := by decide +kernel
theorem dX11_order_57 : decode cX11_order 57 = .ok (.aload_n 0, 1) := by decide +kernel
theorem dX11_order_58 : decode cX11_order 58 = .ok (.iload 4, 2) := by decide +kernel
theorem dX11_order_60 : decode cX11_order 60 = .ok (.iconst 2, 1) := by decide +kernel
theorem dX11_order_61 : decode cX11_order 61 = .ok (.invokevirtual 169, 3) := by decide +kernel
theorem dX11_order_64 : decode cX11_order 64 = .ok (.ifCond .eq 7, 3) := by decide +kernel
theorem dX11_order_67 : decode cX11_order 67 = .ok (.iconst 1, 1) := by decide +kernel
theorem dX11_order_68 : decode cX11_order 68 = .ok (.goto 4, 3) := by decide +kernel
theorem dX11_order_71 : decode cX11_order 71 = .ok (.iconst 0, 1) := by decide +kernel
theorem dX11_order_72 : decode cX11_order 72 = .ok (.istore 5, 2) := by decide +kernel
theorem dX11_order_74 : decode cX11_order 74 = .ok (.iload 5, 2) := by decide +kernel
theorem dX11_order_76 : decode cX11_order 76 = .ok (.ifCond .ne 6, 3) := by decide +kernel
theorem dX11_order_79 : decode cX11_order 79 = .ok (.bipush (-2), 2) := by decide +kernel
theorem dX11_order_81 : decode cX11_order 81 = .ok (.ireturn, 1) := by decide +kernel
theorem dX11_order_82 : decode cX11_order 82 = .ok (.iload_n 3, 1) := by decide +kernel
theorem dX11_order_83 : decode cX11_order 83 = .ok (.iconst (-1), 1) := by decide +kernel
theorem dX11_order_84 : decode cX11_order 84 = .ok (.if_icmp .ne 7, 3) := by decide +kernel
theorem dX11_order_87 : decode cX11_order 87 = .ok (.iconst 1, 1) := by decide +kernel
theorem dX11_order_88 : decode cX11_order 88 = .ok (.goto 14, 3) := by decide +kernel
theorem dX11_order_91 : decode cX11_order 91 = .ok (.iload 4, 2) := by decide +kernel
theorem dX11_order_93 : decode cX11_order 93 = .ok (.iconst (-1), 1) := by decide +kernel
theorem dX11_order_94 : decode cX11_order 94 = .ok (.if_icmp .ne 7, 3) := by decide +kernel
theorem dX11_order_97 : decode cX11_order 97 = .ok (.iconst 2, 1) := by decide +kernel
theorem dX11_order_98 : decode cX11_order 98 = .ok (.goto 4, 3) := by decide +kernel
theorem dX11_order_101 : decode cX11_order 101 = .ok (.iconst 3, 1) := by decide +kernel
theorem dX11_order_102 : decode cX11_order 102 = .ok (.istore 6, 2) := by decide +kernel
theorem dX11_order_104 : decode cX11_order 104 = .ok (.aload_n 0, 1) := by decide +kernel
theorem dX11_order_105 : decode cX11_order 105 = .ok (.getfield 147, 3) := by decide +kernel
theorem dX11_order_108 : decode cX11_order 108 = .ok (.bipush 40, 2) := by decide +kernel
theorem dX11_order_110 : decode cX11_order 110 = .ok (.if_icmp .eq 15, 3) := by decide +kernel
theorem dX11_order_113 : decode cX11_order 113 = .ok (.aload_n 0, 1) := by decide +kernel
theorem dX11_order_114 : decode cX11_order 114 = .ok (.getfield 150, 3) := by decide +kernel
theorem dX11_order_117 : decode cX11_order 117 = .ok (.iload 6, 2) := by decide +kernel
theorem dX11_order_119 : decode cX11_order 119 = .ok (.iadd, 1) := by decide +kernel
theorem dX11_order_120 : decode cX11_order 120 = .ok (.bipush 90, 2) := by decide +kernel
theorem dX11_order_122 : decode cX11_order 122 = .ok (.if_icmp .le 6, 3) := by decide +kernel
theorem dX11_order_125 : decode cX11_order 125 = .ok (.bipush (-3), 2) := by decide +kernel
theorem dX11_order_127 : decode cX11_order 127 = .ok (.ireturn, 1) := by decide +kernel
theorem dX11_order_128 : decode cX11_order 128 = .ok (.aload_n 0, 1) := by decide +kernel
theorem dX11_order_129 : decode cX11_order 129 = .ok (.getfield 48, 3) := by decide +kernel
theorem dX11_order_132 : decode cX11_order 132 = .ok (.aload_n 0, 1) := by decide +kernel
theorem dX11_order_133 : decode cX11_order 133 = .ok (.getfield 147, 3) := by decide +kernel
theorem dX11_order_136 : decode cX11_order 136 = .ok (.iload_n 1, 1) := by decide +kernel
theorem dX11_order_137 : decode cX11_order 137 = .ok (.iastore, 1) := by decide +kernel
theorem dX11_order_138 : decode cX11_order 138 = .ok (.aload_n 0, 1) := by decide +kernel
theorem dX11_order_139 : decode cX11_order 139 = .ok (.getfield 51, 3) := by decide +kernel
theorem dX11_order_142 : decode cX11_order 142 = .ok (.aload_n 0, 1) := by decide +kernel
theorem dX11_order_143 : decode cX11_order 143 = .ok (.getfield 147, 3) := by decide +kernel
theorem dX11_order_146 : decode cX11_order 146 = .ok (.iload 6, 2) := by decide +kernel
theorem dX11_order_148 : decode cX11_order 148 = .ok (.iastore, 1) := by decide +kernel
theorem dX11_order_149 : decode cX11_order 149 = .ok (.aload_n 0, 1) := by decide +kernel
theorem dX11_order_150 : decode cX11_order 150 = .ok (.getfield 54, 3) := by decide +kernel
theorem dX11_order_153 : decode cX11_order 153 = .ok (.aload_n 0, 1) := by decide +kernel
theorem dX11_order_154 : decode cX11_order 154 = .ok (.getfield 147, 3) := by decide +kernel
theorem dX11_order_157 : decode cX11_order 157 = .ok (.aload_n 0, 1) := by decide +kernel
theorem dX11_order_158 : decode cX11_order 158 = .ok (.getfield 150, 3) := by decide +kernel
theorem dX11_order_161 : decode cX11_order 161 = .ok (.iastore, 1) := by decide +kernel
theorem dX11_order_162 : decode cX11_order 162 = .ok (.aload_n 0, 1) := by decide +kernel
theorem dX11_order_163 : decode cX11_order 163 = .ok (.getfield 57, 3) := by decide +kernel
theorem dX11_order_166 : decode cX11_order 166 = .ok (.aload_n 0, 1) := by decide +kernel
theorem dX11_order_167 : decode cX11_order 167 = .ok (.getfield 147, 3) := by decide +kernel
theorem dX11_order_170 : decode cX11_order 170 = .ok (.aload_n 0, 1) := by decide +kernel
theorem dX11_order_171 : decode cX11_order 171 = .ok (.getfield 141, 3) := by decide +kernel
theorem dX11_order_174 : decode cX11_order 174 = .ok (.iastore, 1) := by decide +kernel
theorem dX11_order_175 : decode cX11_order 175 = .ok (.aload_n 0, 1) := by decide +kernel
theorem dX11_order_176 : decode cX11_order 176 = .ok (.getfield 60, 3) := by decide +kernel
theorem dX11_order_179 : decode cX11_order 179 = .ok (.aload_n 0, 1) := by decide +kernel
theorem dX11_order_180 : decode cX11_order 180 = .ok (.getfield 147, 3) := by decide +kernel
theorem dX11_order_183 : decode cX11_order 183 = .ok (.iconst (-1), 1) := by decide +kernel
theorem dX11_order_184 : decode cX11_order 184 = .ok (.iastore, 1) := by decide +kernel
theorem dX11_order_185 : decode cX11_order 185 = .ok (.aload_n 0, 1) := by decide +kernel
theorem dX11_order_186 : decode cX11_order 186 = .ok (.iload_n 2, 1) := by decide +kernel
theorem dX11_order_187 : decode cX11_order 187 = .ok (.invokevirtual 173, 3) := by decide +kernel
theorem dX11_order_190 : decode cX11_order 190 = .ok (.iload 6, 2) := by decide +kernel
theorem dX11_order_192 : decode cX11_order 192 = .ok (.iconst 1, 1) := by decide +kernel
theorem dX11_order_193 : decode cX11_order 193 = .ok (.if_icmp .le 8, 3) := by decide +kernel
theorem dX11_order_196 : decode cX11_order 196 = .ok (.aload_n 0, 1) := by decide +kernel
theorem dX11_order_197 : decode cX11_order 197 = .ok (.iload_n 3, 1) := by decide +kernel
theorem dX11_order_198 : decode cX11_order 198 = .ok (.invokevirtual 173, 3) := by decide +kernel
theorem dX11_order_201 : decode cX11_order 201 = .ok (.iload 6, 2) := by decide +kernel
theorem dX11_order_203 : decode cX11_order 203 = .ok (.iconst 2, 1) := by decide +kernel
theorem dX11_order_204 : decode cX11_order 204 = .ok (.if_icmp .le 9, 3) := by decide +kernel
theorem dX11_order_207 : decode cX11_order 207 = .ok (.aload_n 0, 1) := by decide +kernel
theorem dX11_order_208 : decode cX11_order 208 = .ok (.iload 4, 2) := by decide +kernel
theorem dX11_order_210 : decode cX11_order 210 = .ok (.invokevirtual 173, 3) := by decide +kernel
theorem dX11_order_213 : decode cX11_order 213 = .ok (.aload_n 0, 1) := by decide +kernel
theorem dX11_order_214 : decode cX11_order 214 = .ok (.dup, 1) := by decide +kernel
theorem dX11_order_215 : decode cX11_order 215 = .ok (.getfield 147, 3) := by decide +kernel
theorem dX11_order_218 : decode cX11_order 218 = .ok (.iconst 1, 1) := by decide +kernel
theorem dX11_order_219 : decode cX11_order 219 = .ok (.iadd, 1) := by decide +kernel
theorem dX11_order_220 : decode cX11_order 220 = .ok (.putfield 147, 3) := by decide +kernel
theorem dX11_order_223 : decode cX11_order 223 = .ok (.aload_n 0, 1) := by decide +kernel
theorem dX11_order_224 : decode cX11_order 224 = .ok (.getfield 147, 3) := by decide +kernel
theorem dX11_order_227 : decode cX11_order 227 = .ok (.iconst 1, 1) := by decide +kernel
theorem dX11_order_228 : decode cX11_order 228 = .ok (.isub, 1) := by decide +kernel
theorem dX11_order_229 : decode cX11_order 229 = .ok (.ireturn, 1) := by decide +kernel
theorem dX11_isOpen_0 : decode cX11_isOpen 0 = .ok (.iconst 0, 1) := by decide +kernel
theorem dX11_isOpen_1 : decode cX11_isOpen 1 = .ok (.istore_n 2, 1) := by decide +kernel
theorem dX11_isOpen_2 : decode cX11_isOpen 2 = .ok (.aload_n 0, 1) := by decide +kernel
theorem dX11_isOpen_3 : decode cX11_isOpen 3 = .ok (.getfield 54, 3) := by decide +kernel
theorem dX11_isOpen_6 : decode cX11_isOpen 6 = .ok (.iload_n 1, 1) := by decide +kernel
theorem dX11_isOpen_7 : decode cX11_isOpen 7 = .ok (.iaload, 1) := by decide +kernel
theorem dX11_isOpen_8 : decode cX11_isOpen 8 = .ok (.istore_n 3, 1) := by decide +kernel
theorem dX11_isOpen_9 : decode cX11_isOpen 9 = .ok (.iload_n 3, 1) := by decide +kernel
theorem dX11_isOpen_10 : decode cX11_isOpen 10 = .ok (.aload_n 0, 1) := by decide +kernel
theorem dX11_isOpen_11 : decode cX11_isOpen 11 = .ok (.getfield 54, 3) := by decide +kernel
theorem dX11_isOpen_14 : decode cX11_isOpen 14 = .ok (.iload_n 1, 1) := by decide +kernel
theorem dX11_isOpen_15 : decode cX11_isOpen 15 = .ok (.iaload, 1) := by decide +kernel
theorem dX11_isOpen_16 : decode cX11_isOpen 16 = .ok (.aload_n 0, 1) := by decide +kernel
theorem dX11_isOpen_17 : decode cX11_isOpen 17 = .ok (.getfield 51, 3) := by decide +kernel
theorem dX11_isOpen_20 : decode cX11_isOpen 20 = .ok (.iload_n 1, 1) := by decide +kernel
theorem dX11_isOpen_21 : decode cX11_isOpen 21 = .ok (.iaload, 1) := by decide +kernel
theorem dX11_isOpen_22 : decode cX11_isOpen 22 = .ok (.iadd, 1) := by decide +kernel
theorem dX11_isOpen_23 : decode cX11_isOpen 23 = .ok (.if_icmp .ge 29, 3) := by decide +kernel
theorem dX11_isOpen_26 : decode cX11_isOpen 26 = .ok (.iload_n 2, 1) := by decide +kernel
theorem dX11_isOpen_27 : decode cX11_isOpen 27 = .ok (.ifCond .ne 13, 3) := by decide +kernel
theorem dX11_isOpen_30 : decode cX11_isOpen 30 = .ok (.aload_n 0, 1) := by decide +kernel
theorem dX11_isOpen_31 : decode cX11_isOpen 31 = .ok (.getfield 69, 3) := by decide +kernel
theorem dX11_isOpen_34 : decode cX11_isOpen 34 = .ok (.iload_n 3, 1) := by decide +kernel
theorem dX11_isOpen_35 : decode cX11_isOpen 35 = .ok (.iaload, 1) := by decide +kernel
theorem dX11_isOpen_36 : decode cX11_isOpen 36 = .ok (.iconst 3, 1) := by decide +kernel
theorem dX11_isOpen_37 : decode cX11_isOpen 37 = .ok (.if_icmp .ge 7, 3) := by decide +kernel
theorem dX11_isOpen_40 : decode cX11_isOpen 40 = .ok (.iconst 1, 1) := by decide +kernel
theorem dX11_isOpen_41 : decode cX11_isOpen 41 = .ok (.goto 4, 3) := by decide +kernel
theorem dX11_isOpen_44 : decode cX11_isOpen 44 = .ok (.iconst 0, 1) := by decide +kernel
theorem dX11_isOpen_45 : decode cX11_isOpen 45 = .ok (.istore_n 2, 1) := by decide +kernel
theorem dX11_isOpen_46 : decode cX11_isOpen 46 = .ok (.iinc 3 1, 3) := by decide +kernel
theorem dX11_isOpen_49 : decode cX11_isOpen 49 = .ok (.goto (-40), 3) := by decide +kernel
theorem dX11_isOpen_52 : decode cX11_isOpen 52 = .ok (.iload_n 2, 1) := by decide +kernel
theorem dX11_isOpen_53 : decode cX11_isOpen 53 = .ok (.ireturn, 1) := by decide +kernel
theorem dX11_close_0 : decode cX11_close 0 = .ok (.aload_n 0, 1) := by decide +kernel
theorem dX11_close_1 : decode cX11_close 1 = .ok (.getfield 60, 3) := by decide +kernel
theorem dX11_close_4 : decode cX11_close 4 = .ok (.iload_n 1, 1) := by decide +kernel
theorem dX11_close_5 : decode cX11_close 5 = .ok (.iaload, 1) := by decide +kernel
theorem dX11_close_6 : decode cX11_close 6 = .ok (.ifCond .ge 21, 3) := by decide +kernel
theorem dX11_close_9 : decode cX11_close 9 = .ok (.aload_n 0, 1) := by decide +kernel
theorem dX11_close_10 : decode cX11_close 10 = .ok (.iload_n 1, 1) := by decide +kernel
theorem dX11_close_11 : decode cX11_close 11 = .ok (.invokevirtual 176, 3) := by decide +kernel
theorem dX11_close_14 : decode cX11_close 14 = .ok (.ifCond .ne 13, 3) := by decide +kernel
theorem dX11_close_17 : decode cX11_close 17 = .ok (.aload_n 0, 1) := by decide +kernel
theorem dX11_close_18 : decode cX11_close 18 = .ok (.getfield 60, 3) := by decide +kernel
theorem dX11_close_21 : decode cX11_close 21 = .ok (.iload_n 1, 1) := by decide +kernel
theorem dX11_close_22 : decode cX11_close 22 = .ok (.aload_n 0, 1) := by decide +kernel
theorem dX11_close_23 : decode cX11_close 23 = .ok (.getfield 141, 3) := by decide +kernel
theorem dX11_close_26 : decode cX11_close 26 = .ok (.iastore, 1) := by decide +kernel
theorem dX11_close_27 : decode cX11_close 27 = .ok (.return_, 1) := by decide +kernel
theorem dX11_cancel_0 : decode cX11_cancel 0 = .ok (.iload_n 1, 1) := by decide +kernel
theorem dX11_cancel_1 : decode cX11_cancel 1 = .ok (.iconst 0, 1) := by decide +kernel
theorem dX11_cancel_2 : decode cX11_cancel 2 = .ok (.aload_n 0, 1) := by decide +kernel
theorem dX11_cancel_3 : decode cX11_cancel 3 = .ok (.getfield 147, 3) := by decide +kernel
theorem dX11_cancel_6 : decode cX11_cancel 6 = .ok (.iconst 1, 1) := by decide +kernel
theorem dX11_cancel_7 : decode cX11_cancel 7 = .ok (.isub, 1) := by decide +kernel
theorem dX11_cancel_8 : decode cX11_cancel 8 = .ok (.invokestatic 162, 3) := by decide +kernel
theorem dX11_cancel_11 : decode cX11_cancel 11 = .ok (.ifCond .ne 6, 3) := by decide +kernel
theorem dX11_cancel_14 : decode cX11_cancel 14 = .ok (.bipush (-2), 2) := by decide +kernel
theorem dX11_cancel_16 : decode cX11_cancel 16 = .ok (.ireturn, 1) := by decide +kernel
theorem dX11_cancel_17 : decode cX11_cancel 17 = .ok (.iconst 0, 1) := by decide +kernel
theorem dX11_cancel_18 : decode cX11_cancel 18 = .ok (.istore_n 2, 1) := by decide +kernel
theorem dX11_cancel_19 : decode cX11_cancel 19 = .ok (.aload_n 0, 1) := by decide +kernel
theorem dX11_cancel_20 : decode cX11_cancel 20 = .ok (.getfield 54, 3) := by decide +kernel
theorem dX11_cancel_23 : decode cX11_cancel 23 = .ok (.iload_n 1, 1) := by decide +kernel
theorem dX11_cancel_24 : decode cX11_cancel 24 = .ok (.iaload, 1) := by decide +kernel
theorem dX11_cancel_25 : decode cX11_cancel 25 = .ok (.istore_n 3, 1) := by decide +kernel
theorem dX11_cancel_26 : decode cX11_cancel 26 = .ok (.iload_n 3, 1) := by decide +kernel
theorem dX11_cancel_27 : decode cX11_cancel 27 = .ok (.aload_n 0, 1) := by decide +kernel
theorem dX11_cancel_28 : decode cX11_cancel 28 = .ok (.getfield 54, 3) := by decide +kernel
theorem dX11_cancel_31 : decode cX11_cancel 31 = .ok (.iload_n 1, 1) := by decide +kernel
theorem dX11_cancel_32 : decode cX11_cancel 32 = .ok (.iaload, 1) := by decide +kernel
theorem dX11_cancel_33 : decode cX11_cancel 33 = .ok (.aload_n 0, 1) := by decide +kernel
theorem dX11_cancel_34 : decode cX11_cancel 34 = .ok (.getfield 51, 3) := by decide +kernel
theorem dX11_cancel_37 : decode cX11_cancel 37 = .ok (.iload_n 1, 1) := by decide +kernel
theorem dX11_cancel_38 : decode cX11_cancel 38 = .ok (.iaload, 1) := by decide +kernel
theorem dX11_cancel_39 : decode cX11_cancel 39 = .ok (.iadd, 1) := by decide +kernel
theorem dX11_cancel_40 : decode cX11_cancel 40 = .ok (.if_icmp .ge 28, 3) := by decide +kernel
theorem dX11_cancel_43 : decode cX11_cancel 43 = .ok (.aload_n 0, 1) := by decide +kernel
theorem dX11_cancel_44 : decode cX11_cancel 44 = .ok (.getfield 69, 3) := by decide +kernel
theorem dX11_cancel_47 : decode cX11_cancel 47 = .ok (.iload_n 3, 1) := by decide +kernel
theorem dX11_cancel_48 : decode cX11_cancel 48 = .ok (.iaload, 1) := by decide +kernel
theorem dX11_cancel_49 : decode cX11_cancel 49 = .ok (.ifCond .ne 13, 3) := by decide +kernel
theorem dX11_cancel_52 : decode cX11_cancel 52 = .ok (.aload_n 0, 1) := by decide +kernel
theorem dX11_cancel_53 : decode cX11_cancel 53 = .ok (.getfield 69, 3) := by decide +kernel
theorem dX11_cancel_56 : decode cX11_cancel 56 = .ok (.iload_n 3, 1) := by decide +kernel
theorem dX11_cancel_57 : decode cX11_cancel 57 = .ok (.iconst 4, 1) := by decide +kernel
theorem dX11_cancel_58 : decode cX11_cancel 58 = .ok (.iastore, 1) := by decide +kernel
theorem dX11_cancel_59 : decode cX11_cancel 59 = .ok (.iinc 2 1, 3) := by decide +kernel
theorem dX11_cancel_62 : decode cX11_cancel 62 = .ok (.iinc 3 1, 3) := by decide +kernel
theorem dX11_cancel_65 : decode cX11_cancel 65 = .ok (.goto (-39), 3) := by decide +kernel
theorem dX11_cancel_68 : decode cX11_cancel 68 = .ok (.aload_n 0, 1) := by decide +kernel
theorem dX11_cancel_69 : decode cX11_cancel 69 = .ok (.iload_n 1, 1) := by decide +kernel
theorem dX11_cancel_70 : decode cX11_cancel 70 = .ok (.invokevirtual 179, 3) := by decide +kernel
theorem dX11_cancel_73 : decode cX11_cancel 73 = .ok (.iload_n 2, 1) := by decide +kernel
theorem dX11_cancel_74 : decode cX11_cancel 74 = .ok (.ireturn, 1) := by decide +kernel
theorem dX11_lastIn_0 : decode cX11_lastIn 0 = .ok (.iconst (-1), 1) := by decide +kernel
theorem dX11_lastIn_1 : decode cX11_lastIn 1 = .ok (.istore_n 3, 1) := by decide +kernel
theorem dX11_lastIn_2 : decode cX11_lastIn 2 = .ok (.iconst 0, 1) := by decide +kernel
theorem dX11_lastIn_3 : decode cX11_lastIn 3 = .ok (.istore 4, 2) := by decide +kernel
theorem dX11_lastIn_5 : decode cX11_lastIn 5 = .ok (.iload 4, 2) := by decide +kernel
theorem dX11_lastIn_7 : decode cX11_lastIn 7 = .ok (.aload_n 0, 1) := by decide +kernel
theorem dX11_lastIn_8 : decode cX11_lastIn 8 = .ok (.getfield 144, 3) := by decide +kernel
theorem dX11_lastIn_11 : decode cX11_lastIn 11 = .ok (.if_icmp .ge 84, 3) := by decide +kernel
theorem dX11_lastIn_14 : decode cX11_lastIn 14 = .ok (.iload 4, 2) := by decide +kernel
theorem dX11_lastIn_16 : decode cX11_lastIn 16 = .ok (.iload_n 1, 1) := by decide +kernel
theorem dX11_lastIn_17 : decode cX11_lastIn 17 = .ok (.if_icmp .eq 17, 3) := by decide +kernel
theorem dX11_lastIn_20 : decode cX11_lastIn 20 = .ok (.aload_n 0, 1) := by decide +kernel
theorem dX11_lastIn_21 : decode cX11_lastIn 21 = .ok (.iload 4, 2) := by decide +kernel
theorem dX11_lastIn_23 : decode cX11_lastIn 23 = .ok (.invokevirtual 182, 3) := by decide +kernel
theorem dX11_lastIn_26 : decode cX11_lastIn 26 = .ok (.iload_n 2, 1) := by decide +kernel
theorem dX11_lastIn_27 : decode cX11_lastIn 27 = .ok (.if_icmp .ne 7, 3) := by decide +kernel
theorem dX11_lastIn_30 : decode cX11_lastIn 30 = .ok (.sipush 5200, 3) := by decide +kernel
theorem dX11_lastIn_33 : decode cX11_lastIn 33 = .ok (.istore_n 3, 1) := by decide +kernel
theorem dX11_lastIn_34 : decode cX11_lastIn 34 = .ok (.aload_n 0, 1) := by decide +kernel
theorem dX11_lastIn_35 : decode cX11_lastIn 35 = .ok (.getfield 141, 3) := by decide +kernel
theorem dX11_lastIn_38 : decode cX11_lastIn 38 = .ok (.istore 5, 2) := by decide +kernel
theorem dX11_lastIn_40 : decode cX11_lastIn 40 = .ok (.iload 4, 2) := by decide +kernel
theorem dX11_lastIn_42 : decode cX11_lastIn 42 = .ok (.iload_n 1, 1) := by decide +kernel
theorem dX11_lastIn_43 : decode cX11_lastIn 43 = .ok (.if_icmp .eq 46, 3) := by decide +kernel
theorem dX11_lastIn_46 : decode cX11_lastIn 46 = .ok (.iload 5, 2) := by decide +kernel
theorem dX11_lastIn_48 : decode cX11_lastIn 48 = .ok (.aload_n 0, 1) := by decide +kernel
theorem dX11_lastIn_49 : decode cX11_lastIn 49 = .ok (.getfield 33, 3) := by decide +kernel
theorem dX11_lastIn_52 : decode cX11_lastIn 52 = .ok (.iload 4, 2) := by decide +kernel
theorem dX11_lastIn_54 : decode cX11_lastIn 54 = .ok (.iaload, 1) := by decide +kernel
theorem dX11_lastIn_55 : decode cX11_lastIn 55 = .ok (.if_icmp .ge 34, 3) := by decide +kernel
theorem dX11_lastIn_58 : decode cX11_lastIn 58 = .ok (.aload_n 0, 1) := by decide +kernel
theorem dX11_lastIn_59 : decode cX11_lastIn 59 = .ok (.iload 4, 2) := by decide +kernel
theorem dX11_lastIn_61 : decode cX11_lastIn 61 = .ok (.iload 5, 2) := by decide +kernel
theorem dX11_lastIn_63 : decode cX11_lastIn 63 = .ok (.invokevirtual 166, 3) := by decide +kernel
theorem dX11_lastIn_66 : decode cX11_lastIn 66 = .ok (.iload_n 2, 1) := by decide +kernel
theorem dX11_lastIn_67 : decode cX11_lastIn 67 = .ok (.if_icmp .ne 14, 3) := by decide +kernel
theorem dX11_lastIn_70 : decode cX11_lastIn 70 = .ok (.iload 5, 2) := by decide +kernel
theorem dX11_lastIn_72 : decode cX11_lastIn 72 = .ok (.iload_n 3, 1) := by decide +kernel
theorem dX11_lastIn_73 : decode cX11_lastIn 73 = .ok (.if_icmp .le 8, 3) := by decide +kernel
theorem dX11_lastIn_76 : decode cX11_lastIn 76 = .ok (.iload 5, 2) := by decide +kernel
theorem dX11_lastIn_78 : decode cX11_lastIn 78 = .ok (.goto 4, 3) := by decide +kernel
theorem dX11_lastIn_81 : decode cX11_lastIn 81 = .ok (.iload_n 3, 1) := by decide +kernel
theorem dX11_lastIn_82 : decode cX11_lastIn 82 = .ok (.istore_n 3, 1) := by decide +kernel
theorem dX11_lastIn_83 : decode cX11_lastIn 83 = .ok (.iinc 5 1, 3) := by decide +kernel
theorem dX11_lastIn_86 : decode cX11_lastIn 86 = .ok (.goto (-46), 3) := by decide +kernel
theorem dX11_lastIn_89 : decode cX11_lastIn 89 = .ok (.iinc 4 1, 3) := by decide +kernel
theorem dX11_lastIn_92 : decode cX11_lastIn 92 = .ok (.goto (-87), 3) := by decide +kernel
theorem dX11_lastIn_95 : decode cX11_lastIn 95 = .ok (.iload_n 3, 1) := by decide +kernel
theorem dX11_lastIn_96 : decode cX11_lastIn 96 = .ok (.ireturn, 1) := by decide +kernel
theorem dX11_mayGo_0 : decode cX11_mayGo 0 = .ok (.iload_n 3, 1) := by decide +kernel
theorem dX11_mayGo_1 : decode cX11_mayGo 1 = .ok (.ifCond .lt 16, 3) := by decide +kernel
theorem dX11_mayGo_4 : decode cX11_mayGo 4 = .ok (.aload_n 0, 1) := by decide +kernel
theorem dX11_mayGo_5 : decode cX11_mayGo 5 = .ok (.getfield 17, 3) := by decide +kernel
theorem dX11_mayGo_8 : decode cX11_mayGo 8 = .ok (.iload_n 3, 1) := by decide +kernel
theorem dX11_mayGo_9 : decode cX11_mayGo 9 = .ok (.iaload, 1) := by decide +kernel
theorem dX11_mayGo_10 : decode cX11_mayGo 10 = .ok (.ifCond .eq 7, 3) := by decide +kernel
theorem dX11_mayGo_13 : decode cX11_mayGo 13 = .ok (.iconst 1, 1) := by decide +kernel
theorem dX11_mayGo_14 : decode cX11_mayGo 14 = .ok (.goto 4, 3) := by decide +kernel
theorem dX11_mayGo_17 : decode cX11_mayGo 17 = .ok (.iconst 0, 1) := by decide +kernel
theorem dX11_mayGo_18 : decode cX11_mayGo 18 = .ok (.istore 5, 2) := by decide +kernel
theorem dX11_mayGo_20 : decode cX11_mayGo 20 = .ok (.iconst 0, 1) := by decide +kernel
theorem dX11_mayGo_21 : decode cX11_mayGo 21 = .ok (.istore 6, 2) := by decide +kernel
theorem dX11_mayGo_23 : decode cX11_mayGo 23 = .ok (.iload 6, 2) := by decide +kernel
theorem dX11_mayGo_25 : decode cX11_mayGo 25 = .ok (.aload_n 0, 1) := by decide +kernel
theorem dX11_mayGo_26 : decode cX11_mayGo 26 = .ok (.getfield 144, 3) := by decide +kernel
theorem dX11_mayGo_29 : decode cX11_mayGo 29 = .ok (.if_icmp .ge 67, 3) := by decide +kernel
theorem dX11_mayGo_32 : decode cX11_mayGo 32 = .ok (.iload 5, 2) := by decide +kernel
theorem dX11_mayGo_34 : decode cX11_mayGo 34 = .ok (.ifCond .eq 62, 3) := by decide +kernel
theorem dX11_mayGo_37 : decode cX11_mayGo 37 = .ok (.iload 6, 2) := by decide +kernel
theorem dX11_mayGo_39 : decode cX11_mayGo 39 = .ok (.iload_n 1, 1) := by decide +kernel
theorem dX11_mayGo_40 : decode cX11_mayGo 40 = .ok (.if_icmp .eq 43, 3) := by decide +kernel
theorem dX11_mayGo_43 : decode cX11_mayGo 43 = .ok (.aload_n 0, 1) := by decide +kernel
theorem dX11_mayGo_44 : decode cX11_mayGo 44 = .ok (.iload 6, 2) := by decide +kernel
theorem dX11_mayGo_46 : decode cX11_mayGo 46 = .ok (.iload 4, 2) := by decide +kernel
theorem dX11_mayGo_48 : decode cX11_mayGo 48 = .ok (.iconst 1, 1) := by decide +kernel
theorem dX11_mayGo_49 : decode cX11_mayGo 49 = .ok (.iadd, 1) := by decide +kernel
theorem dX11_mayGo_50 : decode cX11_mayGo 50 = .ok (.invokevirtual 166, 3) := by decide +kernel
theorem dX11_mayGo_53 : decode cX11_mayGo 53 = .ok (.iload_n 3, 1) := by decide +kernel
theorem dX11_mayGo_54 : decode cX11_mayGo 54 = .ok (.if_icmp .eq 33, 3) := by decide +kernel
theorem dX11_mayGo_57 : decode cX11_mayGo 57 = .ok (.aload_n 0, 1) := by decide +kernel
theorem dX11_mayGo_58 : decode cX11_mayGo 58 = .ok (.iload 6, 2) := by decide +kernel
theorem dX11_mayGo_60 : decode cX11_mayGo 60 = .ok (.iload 4, 2) := by decide +kernel
theorem dX11_mayGo_62 : decode cX11_mayGo 62 = .ok (.invokevirtual 166, 3) := by decide +kernel
theorem dX11_mayGo_65 : decode cX11_mayGo 65 = .ok (.iload_n 3, 1) := by decide +kernel
theorem dX11_mayGo_66 : decode cX11_mayGo 66 = .ok (.if_icmp .ne 17, 3) := by decide +kernel
theorem dX11_mayGo_69 : decode cX11_mayGo 69 = .ok (.aload_n 0, 1) := by decide +kernel
theorem dX11_mayGo_70 : decode cX11_mayGo 70 = .ok (.iload 6, 2) := by decide +kernel
theorem dX11_mayGo_72 : decode cX11_mayGo 72 = .ok (.iload 4, 2) := by decide +kernel
theorem dX11_mayGo_74 : decode cX11_mayGo 74 = .ok (.iconst 1, 1) := by decide +kernel
theorem dX11_mayGo_75 : decode cX11_mayGo 75 = .ok (.iadd, 1) := by decide +kernel
theorem dX11_mayGo_76 : decode cX11_mayGo 76 = .ok (.invokevirtual 166, 3) := by decide +kernel
theorem dX11_mayGo_79 : decode cX11_mayGo 79 = .ok (.iload_n 2, 1) := by decide +kernel
theorem dX11_mayGo_80 : decode cX11_mayGo 80 = .ok (.if_icmp .eq 7, 3) := by decide +kernel
theorem dX11_mayGo_83 : decode cX11_mayGo 83 = .ok (.iconst 1, 1) := by decide +kernel
theorem dX11_mayGo_84 : decode cX11_mayGo 84 = .ok (.goto 4, 3) := by decide +kernel
theorem dX11_mayGo_87 : decode cX11_mayGo 87 = .ok (.iconst 0, 1) := by decide +kernel
theorem dX11_mayGo_88 : decode cX11_mayGo 88 = .ok (.istore 5, 2) := by decide +kernel
theorem dX11_mayGo_90 : decode cX11_mayGo 90 = .ok (.iinc 6 1, 3) := by decide +kernel
theorem dX11_mayGo_93 : decode cX11_mayGo 93 = .ok (.goto (-70), 3) := by decide +kernel
theorem dX11_mayGo_96 : decode cX11_mayGo 96 = .ok (.iload 5, 2) := by decide +kernel
theorem dX11_mayGo_98 : decode cX11_mayGo 98 = .ok (.ireturn, 1) := by decide +kernel
theorem dX11_state_0 : decode cX11_state 0 = .ok (.sipush 160, 3) := by decide +kernel
theorem dX11_state_3 : decode cX11_state 3 = .ok (.iload_n 0, 1) := by decide +kernel
theorem dX11_state_4 : decode cX11_state 4 = .ok (.imul, 1) := by decide +kernel
theorem dX11_state_5 : decode cX11_state 5 = .ok (.iload_n 1, 1) := by decide +kernel
theorem dX11_state_6 : decode cX11_state 6 = .ok (.ifCond .eq 8, 3) := by decide +kernel
theorem dX11_state_9 : decode cX11_state 9 = .ok (.bipush 80, 2) := by decide +kernel
theorem dX11_state_11 : decode cX11_state 11 = .ok (.goto 4, 3) := by decide +kernel
theorem dX11_state_14 : decode cX11_state 14 = .ok (.iconst 0, 1) := by decide +kernel
theorem dX11_state_15 : decode cX11_state 15 = .ok (.iadd, 1) := by decide +kernel
theorem dX11_state_16 : decode cX11_state 16 = .ok (.iload_n 2, 1) := by decide +kernel
theorem dX11_state_17 : decode cX11_state 17 = .ok (.iadd, 1) := by decide +kernel
theorem dX11_state_18 : decode cX11_state 18 = .ok (.ireturn, 1) := by decide +kernel
theorem dX11_spread_0 : decode cX11_spread 0 = .ok (.sipush 160, 3) := by decide +kernel
theorem dX11_spread_3 : decode cX11_spread 3 = .ok (.iload_n 2, 1) := by decide +kernel
theorem dX11_spread_4 : decode cX11_spread 4 = .ok (.iconst 1, 1) := by decide +kernel
theorem dX11_spread_5 : decode cX11_spread 5 = .ok (.iadd, 1) := by decide +kernel
theorem dX11_spread_6 : decode cX11_spread 6 = .ok (.imul, 1) := by decide +kernel
theorem dX11_spread_7 : decode cX11_spread 7 = .ok (.istore 4, 2) := by decide +kernel
theorem dX11_spread_9 : decode cX11_spread 9 = .ok (.iload 4, 2) := by decide +kernel
theorem dX11_spread_11 : decode cX11_spread 11 = .ok (.sipush 160, 3) := by decide +kernel
theorem dX11_spread_14 : decode cX11_spread 14 = .ok (.iload_n 2, 1) := by decide +kernel
theorem dX11_spread_15 : decode cX11_spread 15 = .ok (.iconst 2, 1) := by decide +kernel
theorem dX11_spread_16 : decode cX11_spread 16 = .ok (.iadd, 1) := by decide +kernel
theorem dX11_spread_17 : decode cX11_spread 17 = .ok (.imul, 1) := by decide +kernel
theorem dX11_spread_18 : decode cX11_spread 18 = .ok (.if_icmp .ge 17, 3) := by decide +kernel
theorem dX11_spread_21 : decode cX11_spread 21 = .ok (.aload_n 0, 1) := by decide +kernel
theorem dX11_spread_22 : decode cX11_spread 22 = .ok (.getfield 88, 3) := by decide +kernel
theorem dX11_spread_25 : decode cX11_spread 25 = .ok (.iload 4, 2) := by decide +kernel
theorem dX11_spread_27 : decode cX11_spread 27 = .ok (.iconst 0, 1) := by decide +kernel
theorem dX11_spread_28 : decode cX11_spread 28 = .ok (.bastore, 1) := by decide +kernel
theorem dX11_spread_29 : decode cX11_spread 29 = .ok (.iinc 4 1, 3) := by decide +kernel
theorem dX11_spread_32 : decode cX11_spread 32 = .ok (.goto (-23), 3) := by decide +kernel
theorem dX11_spread_35 : decode cX11_spread 35 = .ok (.iconst 0, 1) := by decide +kernel
theorem dX11_spread_36 : decode cX11_spread 36 = .ok (.istore 4, 2) := by decide +kernel
theorem dX11_spread_38 : decode cX11_spread 38 = .ok (.iload 4, 2) := by decide +kernel
theorem dX11_spread_40 : decode cX11_spread 40 = .ok (.sipush 160, 3) := by decide +kernel
theorem dX11_spread_43 : decode cX11_spread 43 = .ok (.if_icmp .ge 114, 3) := by decide +kernel
theorem dX11_spread_46 : decode cX11_spread 46 = .ok (.iload 4, 2) := by decide +kernel
theorem dX11_spread_48 : decode cX11_spread 48 = .ok (.bipush 80, 2) := by decide +kernel
theorem dX11_spread_50 : decode cX11_spread 50 = .ok (.irem, 1) := by decide +kernel
theorem dX11_spread_51 : decode cX11_spread 51 = .ok (.istore 5, 2) := by decide +kernel
theorem dX11_spread_53 : decode cX11_spread 53 = .ok (.iconst 0, 1) := by decide +kernel
theorem dX11_spread_54 : decode cX11_spread 54 = .ok (.istore 6, 2) := by decide +kernel
theorem dX11_spread_56 : decode cX11_spread 56 = .ok (.iload 6, 2) := by decide +kernel
theorem dX11_spread_58 : decode cX11_spread 58 = .ok (.iconst 5, 1) := by decide +kernel
theorem dX11_spread_59 : decode cX11_spread 59 = .ok (.if_icmp .ge 92, 3) := by decide +kernel
theorem dX11_spread_62 : decode cX11_spread 62 = .ok (.aload_n 0, 1) := by decide +kernel
theorem dX11_spread_63 : decode cX11_spread 63 = .ok (.getfield 88, 3) := by decide +kernel
theorem dX11_spread_66 : decode cX11_spread 66 = .ok (.sipush 160, 3) := by decide +kernel
theorem dX11_spread_69 : decode cX11_spread 69 = .ok (.iload_n 2, 1) := by decide +kernel
theorem dX11_spread_70 : decode cX11_spread 70 = .ok (.imul, 1) := by decide +kernel
theorem dX11_spread_71 : decode cX11_spread 71 = .ok (.iload 4, 2) := by decide +kernel
theorem dX11_spread_73 : decode cX11_spread 73 = .ok (.iadd, 1) := by decide +kernel
theorem dX11_spread_74 : decode cX11_spread 74 = .ok (.baload, 1) := by decide +kernel
theorem dX11_spread_75 : decode cX11_spread 75 = .ok (.ifCond .eq 76, 3) := by decide +kernel
theorem dX11_spread_78 : decode cX11_spread 78 = .ok (.iload 5, 2) := by decide +kernel
theorem dX11_spread_80 : decode cX11_spread 80 = .ok (.iload 6, 2) := by decide +kernel
theorem dX11_spread_82 : decode cX11_spread 82 = .ok (.aload_n 0, 1) := by decide +kernel
theorem dX11_spread_83 : decode cX11_spread 83 = .ok (.getfield 135, 3) := by decide +kernel
theorem dX11_spread_86 : decode cX11_spread 86 = .ok (.aload_n 0, 1) := by decide +kernel
theorem dX11_spread_87 : decode cX11_spread 87 = .ok (.getfield 132, 3) := by decide +kernel
theorem dX11_spread_90 : decode cX11_spread 90 = .ok (.invokestatic 113, 3) := by decide +kernel
theorem dX11_spread_93 : decode cX11_spread 93 = .ok (.istore 7, 2) := by decide +kernel
theorem dX11_spread_95 : decode cX11_spread 95 = .ok (.aload_n 0, 1) := by decide +kernel
theorem dX11_spread_96 : decode cX11_spread 96 = .ok (.iload_n 1, 1) := by decide +kernel
theorem dX11_spread_97 : decode cX11_spread 97 = .ok (.iload 5, 2) := by decide +kernel
theorem dX11_spread_99 : decode cX11_spread 99 = .ok (.iload 7, 2) := by decide +kernel
theorem dX11_spread_101 : decode cX11_spread 101 = .ok (.aload_n 0, 1) := by decide +kernel
theorem dX11_spread_102 : decode cX11_spread 102 = .ok (.getfield 141, 3) := by decide +kernel
theorem dX11_spread_105 : decode cX11_spread 105 = .ok (.iload_n 2, 1) := by decide +kernel
theorem dX11_spread_106 : decode cX11_spread 106 = .ok (.iadd, 1) := by decide +kernel
theorem dX11_spread_107 : decode cX11_spread 107 = .ok (.invokevirtual 185, 3) := by decide +kernel
theorem dX11_spread_110 : decode cX11_spread 110 = .ok (.ifCond .eq 35, 3) := by decide +kernel
theorem dX11_spread_113 : decode cX11_spread 113 = .ok (.aload_n 0, 1) := by decide +kernel
theorem dX11_spread_114 : decode cX11_spread 114 = .ok (.getfield 88, 3) := by decide +kernel
theorem dX11_spread_117 : decode cX11_spread 117 = .ok (.iload_n 2, 1) := by decide +kernel
theorem dX11_spread_118 : decode cX11_spread 118 = .ok (.iconst 1, 1) := by decide +kernel
theorem dX11_spread_119 : decode cX11_spread 119 = .ok (.iadd, 1) := by decide +kernel
theorem dX11_spread_120 : decode cX11_spread 120 = .ok (.iload 4, 2) := by decide +kernel
theorem dX11_spread_122 : decode cX11_spread 122 = .ok (.bipush 80, 2) := by decide +kernel
theorem dX11_spread_124 : decode cX11_spread 124 = .ok (.if_icmp .ge 9, 3) := by decide +kernel
theorem dX11_spread_127 : decode cX11_spread 127 = .ok (.iload 7, 2) := by decide +kernel
theorem dX11_spread_129 : decode cX11_spread 129 = .ok (.iload_n 3, 1) := by decide +kernel
theorem dX11_spread_130 : decode cX11_spread 130 = .ok (.if_icmp .ne 7, 3) := by decide +kernel
theorem dX11_spread_133 : decode cX11_spread 133 = .ok (.iconst 1, 1) := by decide +kernel
theorem dX11_spread_134 : decode cX11_spread 134 = .ok (.goto 4, 3) := by decide +kernel
theorem dX11_spread_137 : decode cX11_spread 137 = .ok (.iconst 0, 1) := by decide +kernel
theorem dX11_spread_138 : decode cX11_spread 138 = .ok (.iload 7, 2) := by decide +kernel
theorem dX11_spread_140 : decode cX11_spread 140 = .ok (.invokestatic 189, 3) := by decide +kernel
theorem dX11_spread_143 : decode cX11_spread 143 = .ok (.iconst 1, 1) := by decide +kernel
theorem dX11_spread_144 : decode cX11_spread 144 = .ok (.bastore, 1) := by decide +kernel
theorem dX11_spread_145 : decode cX11_spread 145 = .ok (.iinc 6 1, 3) := by decide +kernel
theorem dX11_spread_148 : decode cX11_spread 148 = .ok (.goto (-92), 3) := by decide +kernel
theorem dX11_spread_151 : decode cX11_spread 151 = .ok (.iinc 4 1, 3) := by decide +kernel
theorem dX11_spread_154 : decode cX11_spread 154 = .ok (.goto (-116), 3) := by decide +kernel
theorem dX11_spread_157 : decode cX11_spread 157 = .ok (.return_, 1) := by decide +kernel
theorem dX11_trace_0 : decode cX11_trace 0 = .ok (.iconst 0, 1) := by decide +kernel
theorem dX11_trace_1 : decode cX11_trace 1 = .ok (.istore 4, 2) := by decide +kernel
theorem dX11_trace_3 : decode cX11_trace 3 = .ok (.iload 4, 2) := by decide +kernel
theorem dX11_trace_5 : decode cX11_trace 5 = .ok (.sipush 160, 3) := by decide +kernel
theorem dX11_trace_8 : decode cX11_trace 8 = .ok (.if_icmp .ge 146, 3) := by decide +kernel
theorem dX11_trace_11 : decode cX11_trace 11 = .ok (.iload 4, 2) := by decide +kernel
theorem dX11_trace_13 : decode cX11_trace 13 = .ok (.bipush 80, 2) := by decide +kernel
theorem dX11_trace_15 : decode cX11_trace 15 = .ok (.irem, 1) := by decide +kernel
theorem dX11_trace_16 : decode cX11_trace 16 = .ok (.istore 5, 2) := by decide +kernel
theorem dX11_trace_18 : decode cX11_trace 18 = .ok (.iconst 0, 1) := by decide +kernel
theorem dX11_trace_19 : decode cX11_trace 19 = .ok (.istore 6, 2) := by decide +kernel
theorem dX11_trace_21 : decode cX11_trace 21 = .ok (.iconst 0, 1) := by decide +kernel
theorem dX11_trace_22 : decode cX11_trace 22 = .ok (.istore 7, 2) := by decide +kernel
theorem dX11_trace_24 : decode cX11_trace 24 = .ok (.iload 7, 2) := by decide +kernel
theorem dX11_trace_26 : decode cX11_trace 26 = .ok (.iconst 5, 1) := by decide +kernel
theorem dX11_trace_27 : decode cX11_trace 27 = .ok (.if_icmp .ge 106, 3) := by decide +kernel
theorem dX11_trace_30 : decode cX11_trace 30 = .ok (.aload_n 0, 1) := by decide +kernel
theorem dX11_trace_31 : decode cX11_trace 31 = .ok (.getfield 88, 3) := by decide +kernel
theorem dX11_trace_34 : decode cX11_trace 34 = .ok (.sipush 160, 3) := by decide +kernel
theorem dX11_trace_37 : decode cX11_trace 37 = .ok (.iload_n 2, 1) := by decide +kernel
theorem dX11_trace_38 : decode cX11_trace 38 = .ok (.imul, 1) := by decide +kernel
theorem dX11_trace_39 : decode cX11_trace 39 = .ok (.iload 4, 2) := by decide +kernel
theorem dX11_trace_41 : decode cX11_trace 41 = .ok (.iadd, 1) := by decide +kernel
theorem dX11_trace_42 : decode cX11_trace 42 = .ok (.baload, 1) := by decide +kernel
theorem dX11_trace_43 : decode cX11_trace 43 = .ok (.ifCond .eq 90, 3) := by decide +kernel
theorem dX11_trace_46 : decode cX11_trace 46 = .ok (.iload 5, 2) := by decide +kernel
theorem dX11_trace_48 : decode cX11_trace 48 = .ok (.iload 7, 2) := by decide +kernel
end
section
theorem dX11_trace_50 : decode cX11_trace 50 = .ok (.aload_n 0, 1) := by decide +kernel
theorem dX11_trace_51 : decode cX11_trace 51 = .ok (.getfield 135, 3) := by decide +kernel
theorem dX11_trace_54 : decode cX11_trace 54 = .ok (.aload_n 0, 1) := by decide +kernel
theorem dX11_trace_55 : decode cX11_trace 55 = .ok (.getfield 132, 3) := by decide +kernel
theorem dX11_trace_58 : decode cX11_trace 58 = .ok (.invokestatic 113, 3) := by decide +kernel
theorem dX11_trace_61 : decode cX11_trace 61 = .ok (.istore 8, 2) := by decide +kernel
theorem dX11_trace_63 : decode cX11_trace 63 = .ok (.iload 6, 2) := by decide +kernel
theorem dX11_trace_65 : decode cX11_trace 65 = .ok (.ifCond .ne 55, 3) := by decide +kernel
theorem dX11_trace_68 : decode cX11_trace 68 = .ok (.aload_n 0, 1) := by decide +kernel
theorem dX11_trace_69 : decode cX11_trace 69 = .ok (.iload_n 1, 1) := by decide +kernel
theorem dX11_trace_70 : decode cX11_trace 70 = .ok (.iload 5, 2) := by decide +kernel
theorem dX11_trace_72 : decode cX11_trace 72 = .ok (.iload 8, 2) := by decide +kernel
theorem dX11_trace_74 : decode cX11_trace 74 = .ok (.aload_n 0, 1) := by decide +kernel
theorem dX11_trace_75 : decode cX11_trace 75 = .ok (.getfield 141, 3) := by decide +kernel
theorem dX11_trace_78 : decode cX11_trace 78 = .ok (.iload_n 2, 1) := by decide +kernel
theorem dX11_trace_79 : decode cX11_trace 79 = .ok (.iadd, 1) := by decide +kernel
theorem dX11_trace_80 : decode cX11_trace 80 = .ok (.invokevirtual 185, 3) := by decide +kernel
theorem dX11_trace_83 : decode cX11_trace 83 = .ok (.ifCond .eq 41, 3) := by decide +kernel
theorem dX11_trace_86 : decode cX11_trace 86 = .ok (.aload_n 0, 1) := by decide +kernel
theorem dX11_trace_87 : decode cX11_trace 87 = .ok (.getfield 91, 3) := by decide +kernel
theorem dX11_trace_90 : decode cX11_trace 90 = .ok (.iload_n 2, 1) := by decide +kernel
theorem dX11_trace_91 : decode cX11_trace 91 = .ok (.iconst 1, 1) := by decide +kernel
theorem dX11_trace_92 : decode cX11_trace 92 = .ok (.iadd, 1) := by decide +kernel
theorem dX11_trace_93 : decode cX11_trace 93 = .ok (.iload 4, 2) := by decide +kernel
theorem dX11_trace_95 : decode cX11_trace 95 = .ok (.bipush 80, 2) := by decide +kernel
theorem dX11_trace_97 : decode cX11_trace 97 = .ok (.if_icmp .ge 9, 3) := by decide +kernel
theorem dX11_trace_100 : decode cX11_trace 100 = .ok (.iload 8, 2) := by decide +kernel
theorem dX11_trace_102 : decode cX11_trace 102 = .ok (.iload_n 3, 1) := by decide +kernel
theorem dX11_trace_103 : decode cX11_trace 103 = .ok (.if_icmp .ne 7, 3) := by decide +kernel
theorem dX11_trace_106 : decode cX11_trace 106 = .ok (.iconst 1, 1) := by decide +kernel
theorem dX11_trace_107 : decode cX11_trace 107 = .ok (.goto 4, 3) := by decide +kernel
theorem dX11_trace_110 : decode cX11_trace 110 = .ok (.iconst 0, 1) := by decide +kernel
theorem dX11_trace_111 : decode cX11_trace 111 = .ok (.iload 8, 2) := by decide +kernel
theorem dX11_trace_113 : decode cX11_trace 113 = .ok (.invokestatic 189, 3) := by decide +kernel
theorem dX11_trace_116 : decode cX11_trace 116 = .ok (.baload, 1) := by decide +kernel
theorem dX11_trace_117 : decode cX11_trace 117 = .ok (.ifCond .eq 7, 3) := by decide +kernel
theorem dX11_trace_120 : decode cX11_trace 120 = .ok (.iconst 1, 1) := by decide +kernel
theorem dX11_trace_121 : decode cX11_trace 121 = .ok (.goto 4, 3) := by decide +kernel
theorem dX11_trace_124 : decode cX11_trace 124 = .ok (.iconst 0, 1) := by decide +kernel
theorem dX11_trace_125 : decode cX11_trace 125 = .ok (.istore 6, 2) := by decide +kernel
theorem dX11_trace_127 : decode cX11_trace 127 = .ok (.iinc 7 1, 3) := by decide +kernel
theorem dX11_trace_130 : decode cX11_trace 130 = .ok (.goto (-106), 3) := by decide +kernel
theorem dX11_trace_133 : decode cX11_trace 133 = .ok (.aload_n 0, 1) := by decide +kernel
theorem dX11_trace_134 : decode cX11_trace 134 = .ok (.getfield 91, 3) := by decide +kernel
theorem dX11_trace_137 : decode cX11_trace 137 = .ok (.sipush 160, 3) := by decide +kernel
theorem dX11_trace_140 : decode cX11_trace 140 = .ok (.iload_n 2, 1) := by decide +kernel
theorem dX11_trace_141 : decode cX11_trace 141 = .ok (.imul, 1) := by decide +kernel
theorem dX11_trace_142 : decode cX11_trace 142 = .ok (.iload 4, 2) := by decide +kernel
theorem dX11_trace_144 : decode cX11_trace 144 = .ok (.iadd, 1) := by decide +kernel
theorem dX11_trace_145 : decode cX11_trace 145 = .ok (.iload 6, 2) := by decide +kernel
theorem dX11_trace_147 : decode cX11_trace 147 = .ok (.bastore, 1) := by decide +kernel
theorem dX11_trace_148 : decode cX11_trace 148 = .ok (.iinc 4 1, 3) := by decide +kernel
theorem dX11_trace_151 : decode cX11_trace 151 = .ok (.goto (-148), 3) := by decide +kernel
theorem dX11_trace_154 : decode cX11_trace 154 = .ok (.return_, 1) := by decide +kernel
theorem dX11_findWay_0 : decode cX11_findWay 0 = .ok (.aload_n 0, 1) := by decide +kernel
theorem dX11_findWay_1 : decode cX11_findWay 1 = .ok (.iload_n 1, 1) := by decide +kernel
theorem dX11_findWay_2 : decode cX11_findWay 2 = .ok (.aload_n 0, 1) := by decide +kernel
theorem dX11_findWay_3 : decode cX11_findWay 3 = .ok (.getfield 141, 3) := by decide +kernel
theorem dX11_findWay_6 : decode cX11_findWay 6 = .ok (.invokevirtual 166, 3) := by decide +kernel
theorem dX11_findWay_9 : decode cX11_findWay 9 = .ok (.istore 4, 2) := by decide +kernel
theorem dX11_findWay_11 : decode cX11_findWay 11 = .ok (.aload_n 0, 1) := by decide +kernel
theorem dX11_findWay_12 : decode cX11_findWay 12 = .ok (.iload_n 1, 1) := by decide +kernel
theorem dX11_findWay_13 : decode cX11_findWay 13 = .ok (.iload_n 3, 1) := by decide +kernel
theorem dX11_findWay_14 : decode cX11_findWay 14 = .ok (.invokevirtual 193, 3) := by decide +kernel
theorem dX11_findWay_17 : decode cX11_findWay 17 = .ok (.istore 5, 2) := by decide +kernel
theorem dX11_findWay_19 : decode cX11_findWay 19 = .ok (.iload_n 2, 1) := by decide +kernel
theorem dX11_findWay_20 : decode cX11_findWay 20 = .ok (.ifCond .lt 9, 3) := by decide +kernel
theorem dX11_findWay_23 : decode cX11_findWay 23 = .ok (.iload 4, 2) := by decide +kernel
theorem dX11_findWay_25 : decode cX11_findWay 25 = .ok (.iload_n 2, 1) := by decide +kernel
theorem dX11_findWay_26 : decode cX11_findWay 26 = .ok (.if_icmp .ne 7, 3) := by decide +kernel
theorem dX11_findWay_29 : decode cX11_findWay 29 = .ok (.iconst 1, 1) := by decide +kernel
theorem dX11_findWay_30 : decode cX11_findWay 30 = .ok (.goto 4, 3) := by decide +kernel
theorem dX11_findWay_33 : decode cX11_findWay 33 = .ok (.iconst 0, 1) := by decide +kernel
theorem dX11_findWay_34 : decode cX11_findWay 34 = .ok (.istore 6, 2) := by decide +kernel
theorem dX11_findWay_36 : decode cX11_findWay 36 = .ok (.iconst 0, 1) := by decide +kernel
theorem dX11_findWay_37 : decode cX11_findWay 37 = .ok (.istore 7, 2) := by decide +kernel
theorem dX11_findWay_39 : decode cX11_findWay 39 = .ok (.iload 7, 2) := by decide +kernel
theorem dX11_findWay_41 : decode cX11_findWay 41 = .ok (.sipush 160, 3) := by decide +kernel
theorem dX11_findWay_44 : decode cX11_findWay 44 = .ok (.if_icmp .ge 34, 3) := by decide +kernel
theorem dX11_findWay_47 : decode cX11_findWay 47 = .ok (.aload_n 0, 1) := by decide +kernel
theorem dX11_findWay_48 : decode cX11_findWay 48 = .ok (.getfield 88, 3) := by decide +kernel
theorem dX11_findWay_51 : decode cX11_findWay 51 = .ok (.iload 7, 2) := by decide +kernel
theorem dX11_findWay_53 : decode cX11_findWay 53 = .ok (.iload 7, 2) := by decide +kernel
theorem dX11_findWay_55 : decode cX11_findWay 55 = .ok (.iconst 0, 1) := by decide +kernel
theorem dX11_findWay_56 : decode cX11_findWay 56 = .ok (.iload 6, 2) := by decide +kernel
theorem dX11_findWay_58 : decode cX11_findWay 58 = .ok (.iload 4, 2) := by decide +kernel
theorem dX11_findWay_60 : decode cX11_findWay 60 = .ok (.invokestatic 189, 3) := by decide +kernel
theorem dX11_findWay_63 : decode cX11_findWay 63 = .ok (.if_icmp .ne 7, 3) := by decide +kernel
theorem dX11_findWay_66 : decode cX11_findWay 66 = .ok (.iconst 1, 1) := by decide +kernel
theorem dX11_findWay_67 : decode cX11_findWay 67 = .ok (.goto 4, 3) := by decide +kernel
theorem dX11_findWay_70 : decode cX11_findWay 70 = .ok (.iconst 0, 1) := by decide +kernel
theorem dX11_findWay_71 : decode cX11_findWay 71 = .ok (.bastore, 1) := by decide +kernel
theorem dX11_findWay_72 : decode cX11_findWay 72 = .ok (.iinc 7 1, 3) := by decide +kernel
theorem dX11_findWay_75 : decode cX11_findWay 75 = .ok (.goto (-36), 3) := by decide +kernel
theorem dX11_findWay_78 : decode cX11_findWay 78 = .ok (.iconst 0, 1) := by decide +kernel
theorem dX11_findWay_79 : decode cX11_findWay 79 = .ok (.istore 7, 2) := by decide +kernel
theorem dX11_findWay_81 : decode cX11_findWay 81 = .ok (.iload 7, 2) := by decide +kernel
theorem dX11_findWay_83 : decode cX11_findWay 83 = .ok (.sipush 1000, 3) := by decide +kernel
theorem dX11_findWay_86 : decode cX11_findWay 86 = .ok (.if_icmp .ge 44, 3) := by decide +kernel
theorem dX11_findWay_89 : decode cX11_findWay 89 = .ok (.aload_n 0, 1) := by decide +kernel
theorem dX11_findWay_90 : decode cX11_findWay 90 = .ok (.getfield 88, 3) := by decide +kernel
theorem dX11_findWay_93 : decode cX11_findWay 93 = .ok (.iload 7, 2) := by decide +kernel
theorem dX11_findWay_95 : decode cX11_findWay 95 = .ok (.iconst 1, 1) := by decide +kernel
theorem dX11_findWay_96 : decode cX11_findWay 96 = .ok (.iload_n 3, 1) := by decide +kernel
theorem dX11_findWay_97 : decode cX11_findWay 97 = .ok (.invokestatic 189, 3) := by decide +kernel
theorem dX11_findWay_100 : decode cX11_findWay 100 = .ok (.baload, 1) := by decide +kernel
theorem dX11_findWay_101 : decode cX11_findWay 101 = .ok (.ifCond .eq 15, 3) := by decide +kernel
theorem dX11_findWay_104 : decode cX11_findWay 104 = .ok (.aload_n 0, 1) := by decide +kernel
theorem dX11_findWay_105 : decode cX11_findWay 105 = .ok (.getfield 141, 3) := by decide +kernel
theorem dX11_findWay_108 : decode cX11_findWay 108 = .ok (.iload 7, 2) := by decide +kernel
theorem dX11_findWay_110 : decode cX11_findWay 110 = .ok (.iadd, 1) := by decide +kernel
theorem dX11_findWay_111 : decode cX11_findWay 111 = .ok (.iload 5, 2) := by decide +kernel
theorem dX11_findWay_113 : decode cX11_findWay 113 = .ok (.if_icmp .gt 17, 3) := by decide +kernel
theorem dX11_findWay_116 : decode cX11_findWay 116 = .ok (.aload_n 0, 1) := by decide +kernel
theorem dX11_findWay_117 : decode cX11_findWay 117 = .ok (.iload_n 1, 1) := by decide +kernel
theorem dX11_findWay_118 : decode cX11_findWay 118 = .ok (.iload 7, 2) := by decide +kernel
theorem dX11_findWay_120 : decode cX11_findWay 120 = .ok (.iload_n 2, 1) := by decide +kernel
theorem dX11_findWay_121 : decode cX11_findWay 121 = .ok (.invokevirtual 196, 3) := by decide +kernel
theorem dX11_findWay_124 : decode cX11_findWay 124 = .ok (.iinc 7 1, 3) := by decide +kernel
theorem dX11_findWay_127 : decode cX11_findWay 127 = .ok (.goto (-46), 3) := by decide +kernel
theorem dX11_findWay_130 : decode cX11_findWay 130 = .ok (.iload 7, 2) := by decide +kernel
theorem dX11_findWay_132 : decode cX11_findWay 132 = .ok (.sipush 1000, 3) := by decide +kernel
theorem dX11_findWay_135 : decode cX11_findWay 135 = .ok (.if_icmp .ne 4, 3) := by decide +kernel
theorem dX11_findWay_138 : decode cX11_findWay 138 = .ok (.return_, 1) := by decide +kernel
theorem dX11_findWay_139 : decode cX11_findWay 139 = .ok (.iconst 0, 1) := by decide +kernel
theorem dX11_findWay_140 : decode cX11_findWay 140 = .ok (.istore 8, 2) := by decide +kernel
theorem dX11_findWay_142 : decode cX11_findWay 142 = .ok (.iload 8, 2) := by decide +kernel
theorem dX11_findWay_144 : decode cX11_findWay 144 = .ok (.sipush 160, 3) := by decide +kernel
theorem dX11_findWay_147 : decode cX11_findWay 147 = .ok (.if_icmp .ge 37, 3) := by decide +kernel
theorem dX11_findWay_150 : decode cX11_findWay 150 = .ok (.aload_n 0, 1) := by decide +kernel
theorem dX11_findWay_151 : decode cX11_findWay 151 = .ok (.getfield 91, 3) := by decide +kernel
theorem dX11_findWay_154 : decode cX11_findWay 154 = .ok (.sipush 160, 3) := by decide +kernel
theorem dX11_findWay_157 : decode cX11_findWay 157 = .ok (.iload 7, 2) := by decide +kernel
theorem dX11_findWay_159 : decode cX11_findWay 159 = .ok (.imul, 1) := by decide +kernel
theorem dX11_findWay_160 : decode cX11_findWay 160 = .ok (.iload 8, 2) := by decide +kernel
theorem dX11_findWay_162 : decode cX11_findWay 162 = .ok (.iadd, 1) := by decide +kernel
theorem dX11_findWay_163 : decode cX11_findWay 163 = .ok (.iload 8, 2) := by decide +kernel
theorem dX11_findWay_165 : decode cX11_findWay 165 = .ok (.bipush 80, 2) := by decide +kernel
theorem dX11_findWay_167 : decode cX11_findWay 167 = .ok (.iload_n 3, 1) := by decide +kernel
theorem dX11_findWay_168 : decode cX11_findWay 168 = .ok (.iadd, 1) := by decide +kernel
theorem dX11_findWay_169 : decode cX11_findWay 169 = .ok (.if_icmp .ne 7, 3) := by decide +kernel
theorem dX11_findWay_172 : decode cX11_findWay 172 = .ok (.iconst 1, 1) := by decide +kernel
theorem dX11_findWay_173 : decode cX11_findWay 173 = .ok (.goto 4, 3) := by decide +kernel
theorem dX11_findWay_176 : decode cX11_findWay 176 = .ok (.iconst 0, 1) := by decide +kernel
theorem dX11_findWay_177 : decode cX11_findWay 177 = .ok (.bastore, 1) := by decide +kernel
theorem dX11_findWay_178 : decode cX11_findWay 178 = .ok (.iinc 8 1, 3) := by decide +kernel
theorem dX11_findWay_181 : decode cX11_findWay 181 = .ok (.goto (-39), 3) := by decide +kernel
theorem dX11_findWay_184 : decode cX11_findWay 184 = .ok (.iload 7, 2) := by decide +kernel
theorem dX11_findWay_186 : decode cX11_findWay 186 = .ok (.iconst 1, 1) := by decide +kernel
theorem dX11_findWay_187 : decode cX11_findWay 187 = .ok (.isub, 1) := by decide +kernel
theorem dX11_findWay_188 : decode cX11_findWay 188 = .ok (.istore 8, 2) := by decide +kernel
theorem dX11_findWay_190 : decode cX11_findWay 190 = .ok (.iload 8, 2) := by decide +kernel
theorem dX11_findWay_192 : decode cX11_findWay 192 = .ok (.ifCond .lt 17, 3) := by decide +kernel
theorem dX11_findWay_195 : decode cX11_findWay 195 = .ok (.aload_n 0, 1) := by decide +kernel
theorem dX11_findWay_196 : decode cX11_findWay 196 = .ok (.iload_n 1, 1) := by decide +kernel
theorem dX11_findWay_197 : decode cX11_findWay 197 = .ok (.iload 8, 2) := by decide +kernel
theorem dX11_findWay_199 : decode cX11_findWay 199 = .ok (.iload_n 2, 1) := by decide +kernel
theorem dX11_findWay_200 : decode cX11_findWay 200 = .ok (.invokevirtual 200, 3) := by decide +kernel
theorem dX11_findWay_203 : decode cX11_findWay 203 = .ok (.iinc 8 (-1), 3) := by decide +kernel
theorem dX11_findWay_206 : decode cX11_findWay 206 = .ok (.goto (-16), 3) := by decide +kernel
theorem dX11_findWay_209 : decode cX11_findWay 209 = .ok (.aload_n 0, 1) := by decide +kernel
theorem dX11_findWay_210 : decode cX11_findWay 210 = .ok (.iload_n 1, 1) := by decide +kernel
theorem dX11_findWay_211 : decode cX11_findWay 211 = .ok (.iload 7, 2) := by decide +kernel
theorem dX11_findWay_213 : decode cX11_findWay 213 = .ok (.iload_n 2, 1) := by decide +kernel
theorem dX11_findWay_214 : decode cX11_findWay 214 = .ok (.iload 6, 2) := by decide +kernel
theorem dX11_findWay_216 : decode cX11_findWay 216 = .ok (.invokevirtual 203, 3) := by decide +kernel
theorem dX11_findWay_219 : decode cX11_findWay 219 = .ok (.aload_n 0, 1) := by decide +kernel
theorem dX11_findWay_220 : decode cX11_findWay 220 = .ok (.dup, 1) := by decide +kernel
theorem dX11_findWay_221 : decode cX11_findWay 221 = .ok (.getfield 156, 3) := by decide +kernel
theorem dX11_findWay_224 : decode cX11_findWay 224 = .ok (.iconst 1, 1) := by decide +kernel
theorem dX11_findWay_225 : decode cX11_findWay 225 = .ok (.iadd, 1) := by decide +kernel
theorem dX11_findWay_226 : decode cX11_findWay 226 = .ok (.putfield 156, 3) := by decide +kernel
theorem dX11_findWay_229 : decode cX11_findWay 229 = .ok (.aload_n 0, 1) := by decide +kernel
theorem dX11_findWay_230 : decode cX11_findWay 230 = .ok (.iload 7, 2) := by decide +kernel
theorem dX11_findWay_232 : decode cX11_findWay 232 = .ok (.aload_n 0, 1) := by decide +kernel
theorem dX11_findWay_233 : decode cX11_findWay 233 = .ok (.getfield 159, 3) := by decide +kernel
theorem dX11_findWay_236 : decode cX11_findWay 236 = .ok (.if_icmp .le 8, 3) := by decide +kernel
theorem dX11_findWay_239 : decode cX11_findWay 239 = .ok (.iload 7, 2) := by decide +kernel
theorem dX11_findWay_241 : decode cX11_findWay 241 = .ok (.goto 7, 3) := by decide +kernel
theorem dX11_findWay_244 : decode cX11_findWay 244 = .ok (.aload_n 0, 1) := by decide +kernel
theorem dX11_findWay_245 : decode cX11_findWay 245 = .ok (.getfield 159, 3) := by decide +kernel
theorem dX11_findWay_248 : decode cX11_findWay 248 = .ok (.putfield 159, 3) := by decide +kernel
theorem dX11_findWay_251 : decode cX11_findWay 251 = .ok (.return_, 1) := by decide +kernel
theorem dX11_follow_0 : decode cX11_follow 0 = .ok (.aload_n 0, 1) := by decide +kernel
theorem dX11_follow_1 : decode cX11_follow 1 = .ok (.iload_n 1, 1) := by decide +kernel
theorem dX11_follow_2 : decode cX11_follow 2 = .ok (.aload_n 0, 1) := by decide +kernel
theorem dX11_follow_3 : decode cX11_follow 3 = .ok (.getfield 141, 3) := by decide +kernel
theorem dX11_follow_6 : decode cX11_follow 6 = .ok (.invokevirtual 166, 3) := by decide +kernel
theorem dX11_follow_9 : decode cX11_follow 9 = .ok (.istore 5, 2) := by decide +kernel
theorem dX11_follow_11 : decode cX11_follow 11 = .ok (.iload 4, 2) := by decide +kernel
theorem dX11_follow_13 : decode cX11_follow 13 = .ok (.istore 6, 2) := by decide +kernel
theorem dX11_follow_15 : decode cX11_follow 15 = .ok (.iconst 0, 1) := by decide +kernel
theorem dX11_follow_16 : decode cX11_follow 16 = .ok (.istore 7, 2) := by decide +kernel
theorem dX11_follow_18 : decode cX11_follow 18 = .ok (.iload 7, 2) := by decide +kernel
theorem dX11_follow_20 : decode cX11_follow 20 = .ok (.iload_n 2, 1) := by decide +kernel
theorem dX11_follow_21 : decode cX11_follow 21 = .ok (.if_icmp .ge 165, 3) := by decide +kernel
theorem dX11_follow_24 : decode cX11_follow 24 = .ok (.iconst (-1), 1) := by decide +kernel
theorem dX11_follow_25 : decode cX11_follow 25 = .ok (.istore 8, 2) := by decide +kernel
theorem dX11_follow_27 : decode cX11_follow 27 = .ok (.iconst 0, 1) := by decide +kernel
theorem dX11_follow_28 : decode cX11_follow 28 = .ok (.istore 9, 2) := by decide +kernel
theorem dX11_follow_30 : decode cX11_follow 30 = .ok (.iload 9, 2) := by decide +kernel
theorem dX11_follow_32 : decode cX11_follow 32 = .ok (.iconst 5, 1) := by decide +kernel
theorem dX11_follow_33 : decode cX11_follow 33 = .ok (.if_icmp .ge 103, 3) := by decide +kernel
theorem dX11_follow_36 : decode cX11_follow 36 = .ok (.iload 8, 2) := by decide +kernel
theorem dX11_follow_38 : decode cX11_follow 38 = .ok (.ifCond .ge 98, 3) := by decide +kernel
theorem dX11_follow_41 : decode cX11_follow 41 = .ok (.iload 5, 2) := by decide +kernel
theorem dX11_follow_43 : decode cX11_follow 43 = .ok (.iload 9, 2) := by decide +kernel
theorem dX11_follow_45 : decode cX11_follow 45 = .ok (.aload_n 0, 1) := by decide +kernel
theorem dX11_follow_46 : decode cX11_follow 46 = .ok (.getfield 135, 3) := by decide +kernel
theorem dX11_follow_49 : decode cX11_follow 49 = .ok (.aload_n 0, 1) := by decide +kernel
theorem dX11_follow_50 : decode cX11_follow 50 = .ok (.getfield 132, 3) := by decide +kernel
theorem dX11_follow_53 : decode cX11_follow 53 = .ok (.invokestatic 113, 3) := by decide +kernel
theorem dX11_follow_56 : decode cX11_follow 56 = .ok (.istore 10, 2) := by decide +kernel
theorem dX11_follow_58 : decode cX11_follow 58 = .ok (.aload_n 0, 1) := by decide +kernel
theorem dX11_follow_59 : decode cX11_follow 59 = .ok (.iload_n 1, 1) := by decide +kernel
theorem dX11_follow_60 : decode cX11_follow 60 = .ok (.iload 5, 2) := by decide +kernel
theorem dX11_follow_62 : decode cX11_follow 62 = .ok (.iload 10, 2) := by decide +kernel
theorem dX11_follow_64 : decode cX11_follow 64 = .ok (.aload_n 0, 1) := by decide +kernel
theorem dX11_follow_65 : decode cX11_follow 65 = .ok (.getfield 141, 3) := by decide +kernel
theorem dX11_follow_68 : decode cX11_follow 68 = .ok (.iload 7, 2) := by decide +kernel
theorem dX11_follow_70 : decode cX11_follow 70 = .ok (.iadd, 1) := by decide +kernel
theorem dX11_follow_71 : decode cX11_follow 71 = .ok (.invokevirtual 185, 3) := by decide +kernel
theorem dX11_follow_74 : decode cX11_follow 74 = .ok (.ifCond .eq 40, 3) := by decide +kernel
theorem dX11_follow_77 : decode cX11_follow 77 = .ok (.aload_n 0, 1) := by decide +kernel
theorem dX11_follow_78 : decode cX11_follow 78 = .ok (.getfield 91, 3) := by decide +kernel
theorem dX11_follow_81 : decode cX11_follow 81 = .ok (.iload 7, 2) := by decide +kernel
theorem dX11_follow_83 : decode cX11_follow 83 = .ok (.iconst 1, 1) := by decide +kernel
theorem dX11_follow_84 : decode cX11_follow 84 = .ok (.iadd, 1) := by decide +kernel
theorem dX11_follow_85 : decode cX11_follow 85 = .ok (.iload 6, 2) := by decide +kernel
theorem dX11_follow_87 : decode cX11_follow 87 = .ok (.ifCond .ne 9, 3) := by decide +kernel
theorem dX11_follow_90 : decode cX11_follow 90 = .ok (.iload 10, 2) := by decide +kernel
theorem dX11_follow_92 : decode cX11_follow 92 = .ok (.iload_n 3, 1) := by decide +kernel
theorem dX11_follow_93 : decode cX11_follow 93 = .ok (.if_icmp .ne 7, 3) := by decide +kernel
theorem dX11_follow_96 : decode cX11_follow 96 = .ok (.iconst 1, 1) := by decide +kernel
theorem dX11_follow_97 : decode cX11_follow 97 = .ok (.goto 4, 3) := by decide +kernel
theorem dX11_follow_100 : decode cX11_follow 100 = .ok (.iconst 0, 1) := by decide +kernel
theorem dX11_follow_101 : decode cX11_follow 101 = .ok (.iload 10, 2) := by decide +kernel
theorem dX11_follow_103 : decode cX11_follow 103 = .ok (.invokestatic 189, 3) := by decide +kernel
theorem dX11_follow_106 : decode cX11_follow 106 = .ok (.baload, 1) := by decide +kernel
theorem dX11_follow_107 : decode cX11_follow 107 = .ok (.ifCond .eq 7, 3) := by decide +kernel
theorem dX11_follow_110 : decode cX11_follow 110 = .ok (.iconst 1, 1) := by decide +kernel
theorem dX11_follow_111 : decode cX11_follow 111 = .ok (.goto 4, 3) := by decide +kernel
theorem dX11_follow_114 : decode cX11_follow 114 = .ok (.iconst 0, 1) := by decide +kernel
theorem dX11_follow_115 : decode cX11_follow 115 = .ok (.istore 11, 2) := by decide +kernel
theorem dX11_follow_117 : decode cX11_follow 117 = .ok (.iload 11, 2) := by decide +kernel
theorem dX11_follow_119 : decode cX11_follow 119 = .ok (.ifCond .eq 8, 3) := by decide +kernel
theorem dX11_follow_122 : decode cX11_follow 122 = .ok (.iload 10, 2) := by decide +kernel
theorem dX11_follow_124 : decode cX11_follow 124 = .ok (.goto 4, 3) := by decide +kernel
theorem dX11_follow_127 : decode cX11_follow 127 = .ok (.iconst (-1), 1) := by decide +kernel
theorem dX11_follow_128 : decode cX11_follow 128 = .ok (.istore 8, 2) := by decide +kernel
theorem dX11_follow_130 : decode cX11_follow 130 = .ok (.iinc 9 1, 3) := by decide +kernel
theorem dX11_follow_133 : decode cX11_follow 133 = .ok (.goto (-103), 3) := by decide +kernel
theorem dX11_follow_136 : decode cX11_follow 136 = .ok (.iload 8, 2) := by decide +kernel
theorem dX11_follow_138 : decode cX11_follow 138 = .ok (.istore 5, 2) := by decide +kernel
theorem dX11_follow_140 : decode cX11_follow 140 = .ok (.iload 6, 2) := by decide +kernel
theorem dX11_follow_142 : decode cX11_follow 142 = .ok (.ifCond .ne 9, 3) := by decide +kernel
theorem dX11_follow_145 : decode cX11_follow 145 = .ok (.iload 5, 2) := by decide +kernel
theorem dX11_follow_147 : decode cX11_follow 147 = .ok (.iload_n 3, 1) := by decide +kernel
theorem dX11_follow_148 : decode cX11_follow 148 = .ok (.if_icmp .ne 7, 3) := by decide +kernel
theorem dX11_follow_151 : decode cX11_follow 151 = .ok (.iconst 1, 1) := by decide +kernel
theorem dX11_follow_152 : decode cX11_follow 152 = .ok (.goto 4, 3) := by decide +kernel
theorem dX11_follow_155 : decode cX11_follow 155 = .ok (.iconst 0, 1) := by decide +kernel
theorem dX11_follow_156 : decode cX11_follow 156 = .ok (.istore 6, 2) := by decide +kernel
theorem dX11_follow_158 : decode cX11_follow 158 = .ok (.aload_n 0, 1) := by decide +kernel
theorem dX11_follow_159 : decode cX11_follow 159 = .ok (.getfield 30, 3) := by decide +kernel
theorem dX11_follow_162 : decode cX11_follow 162 = .ok (.sipush 5200, 3) := by decide +kernel
theorem dX11_follow_165 : decode cX11_follow 165 = .ok (.iload_n 1, 1) := by decide +kernel
theorem dX11_follow_166 : decode cX11_follow 166 = .ok (.imul, 1) := by decide +kernel
theorem dX11_follow_167 : decode cX11_follow 167 = .ok (.aload_n 0, 1) := by decide +kernel
theorem dX11_follow_168 : decode cX11_follow 168 = .ok (.getfield 141, 3) := by decide +kernel
theorem dX11_follow_171 : decode cX11_follow 171 = .ok (.iadd, 1) := by decide +kernel
theorem dX11_follow_172 : decode cX11_follow 172 = .ok (.iload 7, 2) := by decide +kernel
theorem dX11_follow_174 : decode cX11_follow 174 = .ok (.iadd, 1) := by decide +kernel
theorem dX11_follow_175 : decode cX11_follow 175 = .ok (.iconst 1, 1) := by decide +kernel
theorem dX11_follow_176 : decode cX11_follow 176 = .ok (.iadd, 1) := by decide +kernel
theorem dX11_follow_177 : decode cX11_follow 177 = .ok (.iload 5, 2) := by decide +kernel
theorem dX11_follow_179 : decode cX11_follow 179 = .ok (.iastore, 1) := by decide +kernel
theorem dX11_follow_180 : decode cX11_follow 180 = .ok (.iinc 7 1, 3) := by decide +kernel
theorem dX11_follow_183 : decode cX11_follow 183 = .ok (.goto (-165), 3) := by decide +kernel
theorem dX11_follow_186 : decode cX11_follow 186 = .ok (.aload_n 0, 1) := by decide +kernel
theorem dX11_follow_187 : decode cX11_follow 187 = .ok (.getfield 33, 3) := by decide +kernel
theorem dX11_follow_190 : decode cX11_follow 190 = .ok (.iload_n 1, 1) := by decide +kernel
theorem dX11_follow_191 : decode cX11_follow 191 = .ok (.aload_n 0, 1) := by decide +kernel
theorem dX11_follow_192 : decode cX11_follow 192 = .ok (.getfield 141, 3) := by decide +kernel
theorem dX11_follow_195 : decode cX11_follow 195 = .ok (.iload_n 2, 1) := by decide +kernel
theorem dX11_follow_196 : decode cX11_follow 196 = .ok (.iadd, 1) := by decide +kernel
theorem dX11_follow_197 : decode cX11_follow 197 = .ok (.iastore, 1) := by decide +kernel
theorem dX11_follow_198 : decode cX11_follow 198 = .ok (.return_, 1) := by decide +kernel
theorem dX11_isOthersEnd_0 : decode cX11_isOthersEnd 0 = .ok (.iconst 0, 1) := by decide +kernel
theorem dX11_isOthersEnd_1 : decode cX11_isOthersEnd 1 = .ok (.istore_n 3, 1) := by decide +kernel
theorem dX11_isOthersEnd_2 : decode cX11_isOthersEnd 2 = .ok (.iconst 0, 1) := by decide +kernel
theorem dX11_isOthersEnd_3 : decode cX11_isOthersEnd 3 = .ok (.istore 4, 2) := by decide +kernel
theorem dX11_isOthersEnd_5 : decode cX11_isOthersEnd 5 = .ok (.iload 4, 2) := by decide +kernel
theorem dX11_isOthersEnd_7 : decode cX11_isOthersEnd 7 = .ok (.aload_n 0, 1) := by decide +kernel
theorem dX11_isOthersEnd_8 : decode cX11_isOthersEnd 8 = .ok (.getfield 144, 3) := by decide +kernel
theorem dX11_isOthersEnd_11 : decode cX11_isOthersEnd 11 = .ok (.if_icmp .ge 35, 3) := by decide +kernel
theorem dX11_isOthersEnd_14 : decode cX11_isOthersEnd 14 = .ok (.iload_n 3, 1) := by decide +kernel
theorem dX11_isOthersEnd_15 : decode cX11_isOthersEnd 15 = .ok (.ifCond .ne 19, 3) := by decide +kernel
theorem dX11_isOthersEnd_18 : decode cX11_isOthersEnd 18 = .ok (.iload 4, 2) := by decide +kernel
theorem dX11_isOthersEnd_20 : decode cX11_isOthersEnd 20 = .ok (.iload_n 1, 1) := by decide +kernel
theorem dX11_isOthersEnd_21 : decode cX11_isOthersEnd 21 = .ok (.if_icmp .eq 17, 3) := by decide +kernel
theorem dX11_isOthersEnd_24 : decode cX11_isOthersEnd 24 = .ok (.aload_n 0, 1) := by decide +kernel
theorem dX11_isOthersEnd_25 : decode cX11_isOthersEnd 25 = .ok (.iload 4, 2) := by decide +kernel
theorem dX11_isOthersEnd_27 : decode cX11_isOthersEnd 27 = .ok (.invokevirtual 182, 3) := by decide +kernel
theorem dX11_isOthersEnd_30 : decode cX11_isOthersEnd 30 = .ok (.iload_n 2, 1) := by decide +kernel
theorem dX11_isOthersEnd_31 : decode cX11_isOthersEnd 31 = .ok (.if_icmp .ne 7, 3) := by decide +kernel
theorem dX11_isOthersEnd_34 : decode cX11_isOthersEnd 34 = .ok (.iconst 1, 1) := by decide +kernel
theorem dX11_isOthersEnd_35 : decode cX11_isOthersEnd 35 = .ok (.goto 4, 3) := by decide +kernel
theorem dX11_isOthersEnd_38 : decode cX11_isOthersEnd 38 = .ok (.iconst 0, 1) := by decide +kernel
theorem dX11_isOthersEnd_39 : decode cX11_isOthersEnd 39 = .ok (.istore_n 3, 1) := by decide +kernel
theorem dX11_isOthersEnd_40 : decode cX11_isOthersEnd 40 = .ok (.iinc 4 1, 3) := by decide +kernel
theorem dX11_isOthersEnd_43 : decode cX11_isOthersEnd 43 = .ok (.goto (-38), 3) := by decide +kernel
theorem dX11_isOthersEnd_46 : decode cX11_isOthersEnd 46 = .ok (.iload_n 3, 1) := by decide +kernel
theorem dX11_isOthersEnd_47 : decode cX11_isOthersEnd 47 = .ok (.ireturn, 1) := by decide +kernel
theorem dX11_fitTask_0 : decode cX11_fitTask 0 = .ok (.aload_n 0, 1) := by decide +kernel
theorem dX11_fitTask_1 : decode cX11_fitTask 1 = .ok (.iload_n 1, 1) := by decide +kernel
theorem dX11_fitTask_2 : decode cX11_fitTask 2 = .ok (.aload_n 0, 1) := by decide +kernel
theorem dX11_fitTask_3 : decode cX11_fitTask 3 = .ok (.getfield 141, 3) := by decide +kernel
theorem dX11_fitTask_6 : decode cX11_fitTask 6 = .ok (.invokevirtual 166, 3) := by decide +kernel
theorem dX11_fitTask_9 : decode cX11_fitTask 9 = .ok (.istore_n 2, 1) := by decide +kernel
theorem dX11_fitTask_10 : decode cX11_fitTask 10 = .ok (.iconst (-1), 1) := by decide +kernel
theorem dX11_fitTask_11 : decode cX11_fitTask 11 = .ok (.istore_n 3, 1) := by decide +kernel
theorem dX11_fitTask_12 : decode cX11_fitTask 12 = .ok (.iconst 0, 1) := by decide +kernel
theorem dX11_fitTask_13 : decode cX11_fitTask 13 = .ok (.istore 4, 2) := by decide +kernel
theorem dX11_fitTask_15 : decode cX11_fitTask 15 = .ok (.iload 4, 2) := by decide +kernel
theorem dX11_fitTask_17 : decode cX11_fitTask 17 = .ok (.aload_n 0, 1) := by decide +kernel
theorem dX11_fitTask_18 : decode cX11_fitTask 18 = .ok (.getfield 150, 3) := by decide +kernel
theorem dX11_fitTask_21 : decode cX11_fitTask 21 = .ok (.if_icmp .ge 113, 3) := by decide +kernel
theorem dX11_fitTask_24 : decode cX11_fitTask 24 = .ok (.aload_n 0, 1) := by decide +kernel
theorem dX11_fitTask_25 : decode cX11_fitTask 25 = .ok (.getfield 69, 3) := by decide +kernel
theorem dX11_fitTask_28 : decode cX11_fitTask 28 = .ok (.iload 4, 2) := by decide +kernel
theorem dX11_fitTask_30 : decode cX11_fitTask 30 = .ok (.iaload, 1) := by decide +kernel
theorem dX11_fitTask_31 : decode cX11_fitTask 31 = .ok (.ifCond .ne 42, 3) := by decide +kernel
theorem dX11_fitTask_34 : decode cX11_fitTask 34 = .ok (.aload_n 0, 1) := by decide +kernel
theorem dX11_fitTask_35 : decode cX11_fitTask 35 = .ok (.iload_n 1, 1) := by decide +kernel
theorem dX11_fitTask_36 : decode cX11_fitTask 36 = .ok (.aload_n 0, 1) := by decide +kernel
theorem dX11_fitTask_37 : decode cX11_fitTask 37 = .ok (.getfield 66, 3) := by decide +kernel
theorem dX11_fitTask_40 : decode cX11_fitTask 40 = .ok (.iload 4, 2) := by decide +kernel
theorem dX11_fitTask_42 : decode cX11_fitTask 42 = .ok (.iaload, 1) := by decide +kernel
theorem dX11_fitTask_43 : decode cX11_fitTask 43 = .ok (.invokevirtual 207, 3) := by decide +kernel
theorem dX11_fitTask_46 : decode cX11_fitTask 46 = .ok (.ifCond .ne 27, 3) := by decide +kernel
theorem dX11_fitTask_49 : decode cX11_fitTask 49 = .ok (.aload_n 0, 1) := by decide +kernel
theorem dX11_fitTask_50 : decode cX11_fitTask 50 = .ok (.iload_n 1, 1) := by decide +kernel
theorem dX11_fitTask_51 : decode cX11_fitTask 51 = .ok (.aload_n 0, 1) := by decide +kernel
theorem dX11_fitTask_52 : decode cX11_fitTask 52 = .ok (.getfield 48, 3) := by decide +kernel
theorem dX11_fitTask_55 : decode cX11_fitTask 55 = .ok (.aload_n 0, 1) := by decide +kernel
theorem dX11_fitTask_56 : decode cX11_fitTask 56 = .ok (.getfield 63, 3) := by decide +kernel
theorem dX11_fitTask_59 : decode cX11_fitTask 59 = .ok (.iload 4, 2) := by decide +kernel
theorem dX11_fitTask_61 : decode cX11_fitTask 61 = .ok (.iaload, 1) := by decide +kernel
theorem dX11_fitTask_62 : decode cX11_fitTask 62 = .ok (.iaload, 1) := by decide +kernel
theorem dX11_fitTask_63 : decode cX11_fitTask 63 = .ok (.invokevirtual 207, 3) := by decide +kernel
theorem dX11_fitTask_66 : decode cX11_fitTask 66 = .ok (.ifCond .ne 7, 3) := by decide +kernel
theorem dX11_fitTask_69 : decode cX11_fitTask 69 = .ok (.iconst 1, 1) := by decide +kernel
theorem dX11_fitTask_70 : decode cX11_fitTask 70 = .ok (.goto 4, 3) := by decide +kernel
theorem dX11_fitTask_73 : decode cX11_fitTask 73 = .ok (.iconst 0, 1) := by decide +kernel
theorem dX11_fitTask_74 : decode cX11_fitTask 74 = .ok (.istore 5, 2) := by decide +kernel
theorem dX11_fitTask_76 : decode cX11_fitTask 76 = .ok (.iload 5, 2) := by decide +kernel
theorem dX11_fitTask_78 : decode cX11_fitTask 78 = .ok (.ifCond .eq 48, 3) := by decide +kernel
theorem dX11_fitTask_81 : decode cX11_fitTask 81 = .ok (.iload_n 3, 1) := by decide +kernel
theorem dX11_fitTask_82 : decode cX11_fitTask 82 = .ok (.ifCond .lt 39, 3) := by decide +kernel
theorem dX11_fitTask_85 : decode cX11_fitTask 85 = .ok (.aload_n 0, 1) := by decide +kernel
theorem dX11_fitTask_86 : decode cX11_fitTask 86 = .ok (.getfield 23, 3) := by decide +kernel
theorem dX11_fitTask_89 : decode cX11_fitTask 89 = .ok (.bipush 80, 2) := by decide +kernel
theorem dX11_fitTask_91 : decode cX11_fitTask 91 = .ok (.iload_n 2, 1) := by decide +kernel
theorem dX11_fitTask_92 : decode cX11_fitTask 92 = .ok (.imul, 1) := by decide +kernel
theorem dX11_fitTask_93 : decode cX11_fitTask 93 = .ok (.aload_n 0, 1) := by decide +kernel
theorem dX11_fitTask_94 : decode cX11_fitTask 94 = .ok (.getfield 66, 3) := by decide +kernel
theorem dX11_fitTask_97 : decode cX11_fitTask 97 = .ok (.iload 4, 2) := by decide +kernel
theorem dX11_fitTask_99 : decode cX11_fitTask 99 = .ok (.iaload, 1) := by decide +kernel
theorem dX11_fitTask_100 : decode cX11_fitTask 100 = .ok (.iadd, 1) := by decide +kernel
theorem dX11_fitTask_101 : decode cX11_fitTask 101 = .ok (.iaload, 1) := by decide +kernel
theorem dX11_fitTask_102 : decode cX11_fitTask 102 = .ok (.aload_n 0, 1) := by decide +kernel
theorem dX11_fitTask_103 : decode cX11_fitTask 103 = .ok (.getfield 23, 3) := by decide +kernel
theorem dX11_fitTask_106 : decode cX11_fitTask 106 = .ok (.bipush 80, 2) := by decide +kernel
theorem dX11_fitTask_108 : decode cX11_fitTask 108 = .ok (.iload_n 2, 1) := by decide +kernel
theorem dX11_fitTask_109 : decode cX11_fitTask 109 = .ok (.imul, 1) := by decide +kernel
theorem dX11_fitTask_110 : decode cX11_fitTask 110 = .ok (.aload_n 0, 1) := by decide +kernel
theorem dX11_fitTask_111 : decode cX11_fitTask 111 = .ok (.getfield 66, 3) := by decide +kernel
theorem dX11_fitTask_114 : decode cX11_fitTask 114 = .ok (.iload_n 3, 1) := by decide +kernel
theorem dX11_fitTask_115 : decode cX11_fitTask 115 = .ok (.iaload, 1) := by decide +kernel
theorem dX11_fitTask_116 : decode cX11_fitTask 116 = .ok (.iadd, 1) := by decide +kernel
theorem dX11_fitTask_117 : decode cX11_fitTask 117 = .ok (.iaload, 1) := by decide +kernel
theorem dX11_fitTask_118 : decode cX11_fitTask 118 = .ok (.if_icmp .ge 8, 3) := by decide +kernel
theorem dX11_fitTask_121 : decode cX11_fitTask 121 = .ok (.iload 4, 2) := by decide +kernel
theorem dX11_fitTask_123 : decode cX11_fitTask 123 = .ok (.goto 4, 3) := by decide +kernel
theorem dX11_fitTask_126 : decode cX11_fitTask 126 = .ok (.iload_n 3, 1) := by decide +kernel
theorem dX11_fitTask_127 : decode cX11_fitTask 127 = .ok (.istore_n 3, 1) := by decide +kernel
theorem dX11_fitTask_128 : decode cX11_fitTask 128 = .ok (.iinc 4 1, 3) := by decide +kernel
theorem dX11_fitTask_131 : decode cX11_fitTask 131 = .ok (.goto (-116), 3) := by decide +kernel
theorem dX11_fitTask_134 : decode cX11_fitTask 134 = .ok (.iload_n 3, 1) := by decide +kernel
theorem dX11_fitTask_135 : decode cX11_fitTask 135 = .ok (.ireturn, 1) := by decide +kernel
theorem dX11_isWanted_0 : decode cX11_isWanted 0 = .ok (.iconst 0, 1) := by decide +kernel
theorem dX11_isWanted_1 : decode cX11_isWanted 1 = .ok (.istore_n 2, 1) := by decide +kernel
theorem dX11_isWanted_2 : decode cX11_isWanted 2 = .ok (.iconst 0, 1) := by decide +kernel
theorem dX11_isWanted_3 : decode cX11_isWanted 3 = .ok (.istore_n 3, 1) := by decide +kernel
theorem dX11_isWanted_4 : decode cX11_isWanted 4 = .ok (.iload_n 3, 1) := by decide +kernel
theorem dX11_isWanted_5 : decode cX11_isWanted 5 = .ok (.aload_n 0, 1) := by decide +kernel
theorem dX11_isWanted_6 : decode cX11_isWanted 6 = .ok (.getfield 150, 3) := by decide +kernel
theorem dX11_isWanted_9 : decode cX11_isWanted 9 = .ok (.if_icmp .ge 43, 3) := by decide +kernel
theorem dX11_isWanted_12 : decode cX11_isWanted 12 = .ok (.iload_n 2, 1) := by decide +kernel
theorem dX11_isWanted_13 : decode cX11_isWanted 13 = .ok (.ifCond .ne 27, 3) := by decide +kernel
theorem dX11_isWanted_16 : decode cX11_isWanted 16 = .ok (.aload_n 0, 1) := by decide +kernel
theorem dX11_isWanted_17 : decode cX11_isWanted 17 = .ok (.getfield 69, 3) := by decide +kernel
theorem dX11_isWanted_20 : decode cX11_isWanted 20 = .ok (.iload_n 3, 1) := by decide +kernel
theorem dX11_isWanted_21 : decode cX11_isWanted 21 = .ok (.iaload, 1) := by decide +kernel
theorem dX11_isWanted_22 : decode cX11_isWanted 22 = .ok (.ifCond .ne 22, 3) := by decide +kernel
theorem dX11_isWanted_25 : decode cX11_isWanted 25 = .ok (.aload_n 0, 1) := by decide +kernel
theorem dX11_isWanted_26 : decode cX11_isWanted 26 = .ok (.getfield 48, 3) := by decide +kernel
theorem dX11_isWanted_29 : decode cX11_isWanted 29 = .ok (.aload_n 0, 1) := by decide +kernel
theorem dX11_isWanted_30 : decode cX11_isWanted 30 = .ok (.getfield 63, 3) := by decide +kernel
theorem dX11_isWanted_33 : decode cX11_isWanted 33 = .ok (.iload_n 3, 1) := by decide +kernel
theorem dX11_isWanted_34 : decode cX11_isWanted 34 = .ok (.iaload, 1) := by decide +kernel
theorem dX11_isWanted_35 : decode cX11_isWanted 35 = .ok (.iaload, 1) := by decide +kernel
theorem dX11_isWanted_36 : decode cX11_isWanted 36 = .ok (.iload_n 1, 1) := by decide +kernel
theorem dX11_isWanted_37 : decode cX11_isWanted 37 = .ok (.if_icmp .ne 7, 3) := by decide +kernel
theorem dX11_isWanted_40 : decode cX11_isWanted 40 = .ok (.iconst 1, 1) := by decide +kernel
theorem dX11_isWanted_41 : decode cX11_isWanted 41 = .ok (.goto 4, 3) := by decide +kernel
theorem dX11_isWanted_44 : decode cX11_isWanted 44 = .ok (.iconst 0, 1) := by decide +kernel
theorem dX11_isWanted_45 : decode cX11_isWanted 45 = .ok (.istore_n 2, 1) := by decide +kernel
theorem dX11_isWanted_46 : decode cX11_isWanted 46 = .ok (.iinc 3 1, 3) := by decide +kernel
theorem dX11_isWanted_49 : decode cX11_isWanted 49 = .ok (.goto (-45), 3) := by decide +kernel
theorem dX11_isWanted_52 : decode cX11_isWanted 52 = .ok (.iload_n 2, 1) := by decide +kernel
theorem dX11_isWanted_53 : decode cX11_isWanted 53 = .ok (.ireturn, 1) := by decide +kernel
theorem dX11_aside_0 : decode cX11_aside 0 = .ok (.aload_n 0, 1) := by decide +kernel
theorem dX11_aside_1 : decode cX11_aside 1 = .ok (.iload_n 1, 1) := by decide +kernel
theorem dX11_aside_2 : decode cX11_aside 2 = .ok (.aload_n 0, 1) := by decide +kernel
theorem dX11_aside_3 : decode cX11_aside 3 = .ok (.getfield 141, 3) := by decide +kernel
theorem dX11_aside_6 : decode cX11_aside 6 = .ok (.invokevirtual 166, 3) := by decide +kernel
theorem dX11_aside_9 : decode cX11_aside 9 = .ok (.istore_n 2, 1) := by decide +kernel
theorem dX11_aside_10 : decode cX11_aside 10 = .ok (.iconst (-1), 1) := by decide +kernel
theorem dX11_aside_11 : decode cX11_aside 11 = .ok (.istore_n 3, 1) := by decide +kernel
theorem dX11_aside_12 : decode cX11_aside 12 = .ok (.iconst 0, 1) := by decide +kernel
theorem dX11_aside_13 : decode cX11_aside 13 = .ok (.istore 4, 2) := by decide +kernel
theorem dX11_aside_15 : decode cX11_aside 15 = .ok (.iload 4, 2) := by decide +kernel
theorem dX11_aside_17 : decode cX11_aside 17 = .ok (.aload_n 0, 1) := by decide +kernel
theorem dX11_aside_18 : decode cX11_aside 18 = .ok (.getfield 132, 3) := by decide +kernel
theorem dX11_aside_21 : decode cX11_aside 21 = .ok (.if_icmp .ge 88, 3) := by decide +kernel
theorem dX11_aside_24 : decode cX11_aside 24 = .ok (.aload_n 0, 1) := by decide +kernel
theorem dX11_aside_25 : decode cX11_aside 25 = .ok (.getfield 17, 3) := by decide +kernel
theorem dX11_aside_28 : decode cX11_aside 28 = .ok (.iload 4, 2) := by decide +kernel
theorem dX11_aside_30 : decode cX11_aside 30 = .ok (.iaload, 1) := by decide +kernel
theorem dX11_aside_31 : decode cX11_aside 31 = .ok (.iconst 1, 1) := by decide +kernel
theorem dX11_aside_32 : decode cX11_aside 32 = .ok (.if_icmp .le 26, 3) := by decide +kernel
theorem dX11_aside_35 : decode cX11_aside 35 = .ok (.aload_n 0, 1) := by decide +kernel
theorem dX11_aside_36 : decode cX11_aside 36 = .ok (.iload 4, 2) := by decide +kernel
theorem dX11_aside_38 : decode cX11_aside 38 = .ok (.invokevirtual 210, 3) := by decide +kernel
theorem dX11_aside_41 : decode cX11_aside 41 = .ok (.ifCond .ne 17, 3) := by decide +kernel
theorem dX11_aside_44 : decode cX11_aside 44 = .ok (.aload_n 0, 1) := by decide +kernel
theorem dX11_aside_45 : decode cX11_aside 45 = .ok (.iload_n 1, 1) := by decide +kernel
theorem dX11_aside_46 : decode cX11_aside 46 = .ok (.iload 4, 2) := by decide +kernel
theorem dX11_aside_48 : decode cX11_aside 48 = .ok (.invokevirtual 207, 3) := by decide +kernel
theorem dX11_aside_51 : decode cX11_aside 51 = .ok (.ifCond .ne 7, 3) := by decide +kernel
theorem dX11_aside_54 : decode cX11_aside 54 = .ok (.iconst 1, 1) := by decide +kernel
theorem dX11_aside_55 : decode cX11_aside 55 = .ok (.goto 4, 3) := by decide +kernel
theorem dX11_aside_58 : decode cX11_aside 58 = .ok (.iconst 0, 1) := by decide +kernel
theorem dX11_aside_59 : decode cX11_aside 59 = .ok (.istore 5, 2) := by decide +kernel
theorem dX11_aside_61 : decode cX11_aside 61 = .ok (.iload 5, 2) := by decide +kernel
theorem dX11_aside_63 : decode cX11_aside 63 = .ok (.ifCond .eq 38, 3) := by decide +kernel
theorem dX11_aside_66 : decode cX11_aside 66 = .ok (.iload_n 3, 1) := by decide +kernel
theorem dX11_aside_67 : decode cX11_aside 67 = .ok (.ifCond .lt 29, 3) := by decide +kernel
theorem dX11_aside_70 : decode cX11_aside 70 = .ok (.aload_n 0, 1) := by decide +kernel
theorem dX11_aside_71 : decode cX11_aside 71 = .ok (.getfield 23, 3) := by decide +kernel
theorem dX11_aside_74 : decode cX11_aside 74 = .ok (.bipush 80, 2) := by decide +kernel
theorem dX11_aside_76 : decode cX11_aside 76 = .ok (.iload_n 2, 1) := by decide +kernel
theorem dX11_aside_77 : decode cX11_aside 77 = .ok (.imul, 1) := by decide +kernel
theorem dX11_aside_78 : decode cX11_aside 78 = .ok (.iload 4, 2) := by decide +kernel
theorem dX11_aside_80 : decode cX11_aside 80 = .ok (.iadd, 1) := by decide +kernel
theorem dX11_aside_81 : decode cX11_aside 81 = .ok (.iaload, 1) := by decide +kernel
theorem dX11_aside_82 : decode cX11_aside 82 = .ok (.aload_n 0, 1) := by decide +kernel
theorem dX11_aside_83 : decode cX11_aside 83 = .ok (.getfield 23, 3) := by decide +kernel
theorem dX11_aside_86 : decode cX11_aside 86 = .ok (.bipush 80, 2) := by decide +kernel
theorem dX11_aside_88 : decode cX11_aside 88 = .ok (.iload_n 2, 1) := by decide +kernel
theorem dX11_aside_89 : decode cX11_aside 89 = .ok (.imul, 1) := by decide +kernel
theorem dX11_aside_90 : decode cX11_aside 90 = .ok (.iload_n 3, 1) := by decide +kernel
theorem dX11_aside_91 : decode cX11_aside 91 = .ok (.iadd, 1) := by decide +kernel
theorem dX11_aside_92 : decode cX11_aside 92 = .ok (.iaload, 1) := by decide +kernel
theorem dX11_aside_93 : decode cX11_aside 93 = .ok (.if_icmp .ge 8, 3) := by decide +kernel
theorem dX11_aside_96 : decode cX11_aside 96 = .ok (.iload 4, 2) := by decide +kernel
theorem dX11_aside_98 : decode cX11_aside 98 = .ok (.goto 4, 3) := by decide +kernel
theorem dX11_aside_101 : decode cX11_aside 101 = .ok (.iload_n 3, 1) := by decide +kernel
theorem dX11_aside_102 : decode cX11_aside 102 = .ok (.istore_n 3, 1) := by decide +kernel
theorem dX11_aside_103 : decode cX11_aside 103 = .ok (.iinc 4 1, 3) := by decide +kernel
theorem dX11_aside_106 : decode cX11_aside 106 = .ok (.goto (-91), 3) := by decide +kernel
theorem dX11_aside_109 : decode cX11_aside 109 = .ok (.iload_n 3, 1) := by decide +kernel
theorem dX11_aside_110 : decode cX11_aside 110 = .ok (.ireturn, 1) := by decide +kernel
theorem dX11_seek_0 : decode cX11_seek 0 = .ok (.aload_n 0, 1) := by decide +kernel
theorem dX11_seek_1 : decode cX11_seek 1 = .ok (.iload_n 1, 1) := by decide +kernel
theorem dX11_seek_2 : decode cX11_seek 2 = .ok (.invokevirtual 213, 3) := by decide +kernel
theorem dX11_seek_5 : decode cX11_seek 5 = .ok (.istore_n 2, 1) := by decide +kernel
theorem dX11_seek_6 : decode cX11_seek 6 = .ok (.aload_n 0, 1) := by decide +kernel
theorem dX11_seek_7 : decode cX11_seek 7 = .ok (.iload_n 1, 1) := by decide +kernel
theorem dX11_seek_8 : decode cX11_seek 8 = .ok (.aload_n 0, 1) := by decide +kernel
theorem dX11_seek_9 : decode cX11_seek 9 = .ok (.getfield 141, 3) := by decide +kernel
theorem dX11_seek_12 : decode cX11_seek 12 = .ok (.invokevirtual 166, 3) := by decide +kernel
theorem dX11_seek_15 : decode cX11_seek 15 = .ok (.istore_n 3, 1) := by decide +kernel
theorem dX11_seek_16 : decode cX11_seek 16 = .ok (.iload_n 2, 1) := by decide +kernel
theorem dX11_seek_17 : decode cX11_seek 17 = .ok (.ifCond .lt 86, 3) := by decide +kernel
theorem dX11_seek_20 : decode cX11_seek 20 = .ok (.aload_n 0, 1) := by decide +kernel
theorem dX11_seek_21 : decode cX11_seek 21 = .ok (.getfield 69, 3) := by decide +kernel
theorem dX11_seek_24 : decode cX11_seek 24 = .ok (.iload_n 2, 1) := by decide +kernel
theorem dX11_seek_25 : decode cX11_seek 25 = .ok (.iconst 1, 1) := by decide +kernel
theorem dX11_seek_26 : decode cX11_seek 26 = .ok (.iastore, 1) := by decide +kernel
theorem dX11_seek_27 : decode cX11_seek 27 = .ok (.aload_n 0, 1) := by decide +kernel
theorem dX11_seek_28 : decode cX11_seek 28 = .ok (.getfield 72, 3) := by decide +kernel
theorem dX11_seek_31 : decode cX11_seek 31 = .ok (.iload_n 2, 1) := by decide +kernel
theorem dX11_seek_32 : decode cX11_seek 32 = .ok (.iload_n 1, 1) := by decide +kernel
theorem dX11_seek_33 : decode cX11_seek 33 = .ok (.iastore, 1) := by decide +kernel
theorem dX11_seek_34 : decode cX11_seek 34 = .ok (.aload_n 0, 1) := by decide +kernel
theorem dX11_seek_35 : decode cX11_seek 35 = .ok (.getfield 78, 3) := by decide +kernel
theorem dX11_seek_38 : decode cX11_seek 38 = .ok (.iload_n 2, 1) := by decide +kernel
theorem dX11_seek_39 : decode cX11_seek 39 = .ok (.aload_n 0, 1) := by decide +kernel
theorem dX11_seek_40 : decode cX11_seek 40 = .ok (.getfield 141, 3) := by decide +kernel
theorem dX11_seek_43 : decode cX11_seek 43 = .ok (.iastore, 1) := by decide +kernel
theorem dX11_seek_44 : decode cX11_seek 44 = .ok (.aload_n 0, 1) := by decide +kernel
theorem dX11_seek_45 : decode cX11_seek 45 = .ok (.getfield 36, 3) := by decide +kernel
theorem dX11_seek_48 : decode cX11_seek 48 = .ok (.iload_n 1, 1) := by decide +kernel
theorem dX11_seek_49 : decode cX11_seek 49 = .ok (.iload_n 2, 1) := by decide +kernel
theorem dX11_seek_50 : decode cX11_seek 50 = .ok (.iastore, 1) := by decide +kernel
theorem dX11_seek_51 : decode cX11_seek 51 = .ok (.aload_n 0, 1) := by decide +kernel
theorem dX11_seek_52 : decode cX11_seek 52 = .ok (.iload_n 1, 1) := by decide +kernel
theorem dX11_seek_53 : decode cX11_seek 53 = .ok (.aload_n 0, 1) := by decide +kernel
theorem dX11_seek_54 : decode cX11_seek 54 = .ok (.getfield 66, 3) := by decide +kernel
theorem dX11_seek_57 : decode cX11_seek 57 = .ok (.iload_n 2, 1) := by decide +kernel
theorem dX11_seek_58 : decode cX11_seek 58 = .ok (.iaload, 1) := by decide +kernel
theorem dX11_seek_59 : decode cX11_seek 59 = .ok (.aload_n 0, 1) := by decide +kernel
theorem dX11_seek_60 : decode cX11_seek 60 = .ok (.getfield 48, 3) := by decide +kernel
theorem dX11_seek_63 : decode cX11_seek 63 = .ok (.aload_n 0, 1) := by decide +kernel
theorem dX11_seek_64 : decode cX11_seek 64 = .ok (.getfield 63, 3) := by decide +kernel
theorem dX11_seek_67 : decode cX11_seek 67 = .ok (.iload_n 2, 1) := by decide +kernel
theorem dX11_seek_68 : decode cX11_seek 68 = .ok (.iaload, 1) := by decide +kernel
theorem dX11_seek_69 : decode cX11_seek 69 = .ok (.iaload, 1) := by decide +kernel
theorem dX11_seek_70 : decode cX11_seek 70 = .ok (.invokevirtual 216, 3) := by decide +kernel
theorem dX11_seek_73 : decode cX11_seek 73 = .ok (.iload_n 3, 1) := by decide +kernel
theorem dX11_seek_74 : decode cX11_seek 74 = .ok (.aload_n 0, 1) := by decide +kernel
theorem dX11_seek_75 : decode cX11_seek 75 = .ok (.getfield 66, 3) := by decide +kernel
theorem dX11_seek_78 : decode cX11_seek 78 = .ok (.iload_n 2, 1) := by decide +kernel
theorem dX11_seek_79 : decode cX11_seek 79 = .ok (.iaload, 1) := by decide +kernel
theorem dX11_seek_80 : decode cX11_seek 80 = .ok (.if_icmp .ne 61, 3) := by decide +kernel
theorem dX11_seek_83 : decode cX11_seek 83 = .ok (.aload_n 0, 1) := by decide +kernel
theorem dX11_seek_84 : decode cX11_seek 84 = .ok (.getfield 69, 3) := by decide +kernel
theorem dX11_seek_87 : decode cX11_seek 87 = .ok (.iload_n 2, 1) := by decide +kernel
theorem dX11_seek_88 : decode cX11_seek 88 = .ok (.iconst 2, 1) := by decide +kernel
theorem dX11_seek_89 : decode cX11_seek 89 = .ok (.iastore, 1) := by decide +kernel
theorem dX11_seek_90 : decode cX11_seek 90 = .ok (.aload_n 0, 1) := by decide +kernel
theorem dX11_seek_91 : decode cX11_seek 91 = .ok (.getfield 81, 3) := by decide +kernel
theorem dX11_seek_94 : decode cX11_seek 94 = .ok (.iload_n 2, 1) := by decide +kernel
theorem dX11_seek_95 : decode cX11_seek 95 = .ok (.aload_n 0, 1) := by decide +kernel
theorem dX11_seek_96 : decode cX11_seek 96 = .ok (.getfield 141, 3) := by decide +kernel
theorem dX11_seek_99 : decode cX11_seek 99 = .ok (.iastore, 1) := by decide +kernel
theorem dX11_seek_100 : decode cX11_seek 100 = .ok (.goto 41, 3) := by decide +kernel
theorem dX11_seek_103 : decode cX11_seek 103 = .ok (.aload_n 0, 1) := by decide +kernel
theorem dX11_seek_104 : decode cX11_seek 104 = .ok (.iload_n 3, 1) := by decide +kernel
theorem dX11_seek_105 : decode cX11_seek 105 = .ok (.invokevirtual 210, 3) := by decide +kernel
theorem dX11_seek_108 : decode cX11_seek 108 = .ok (.ifCond .eq 33, 3) := by decide +kernel
theorem dX11_seek_111 : decode cX11_seek 111 = .ok (.aload_n 0, 1) := by decide +kernel
theorem dX11_seek_112 : decode cX11_seek 112 = .ok (.iload_n 1, 1) := by decide +kernel
theorem dX11_seek_113 : decode cX11_seek 113 = .ok (.invokevirtual 219, 3) := by decide +kernel
theorem dX11_seek_116 : decode cX11_seek 116 = .ok (.istore 4, 2) := by decide +kernel
theorem dX11_seek_118 : decode cX11_seek 118 = .ok (.iload 4, 2) := by decide +kernel
theorem dX11_seek_120 : decode cX11_seek 120 = .ok (.ifCond .lt 21, 3) := by decide +kernel
theorem dX11_seek_123 : decode cX11_seek 123 = .ok (.aload_n 0, 1) := by decide +kernel
theorem dX11_seek_124 : decode cX11_seek 124 = .ok (.iload_n 1, 1) := by decide +kernel
theorem dX11_seek_125 : decode cX11_seek 125 = .ok (.iconst (-1), 1) := by decide +kernel
theorem dX11_seek_126 : decode cX11_seek 126 = .ok (.iload 4, 2) := by decide +kernel
theorem dX11_seek_128 : decode cX11_seek 128 = .ok (.invokevirtual 216, 3) := by decide +kernel
theorem dX11_seek_131 : decode cX11_seek 131 = .ok (.aload_n 0, 1) := by decide +kernel
theorem dX11_seek_132 : decode cX11_seek 132 = .ok (.getfield 45, 3) := by decide +kernel
theorem dX11_seek_135 : decode cX11_seek 135 = .ok (.iload_n 1, 1) := by decide +kernel
theorem dX11_seek_136 : decode cX11_seek 136 = .ok (.dup2, 1) := by decide +kernel
theorem dX11_seek_137 : decode cX11_seek 137 = .ok (.iaload, 1) := by decide +kernel
theorem dX11_seek_138 : decode cX11_seek 138 = .ok (.iconst 1, 1) := by decide +kernel
theorem dX11_seek_139 : decode cX11_seek 139 = .ok (.iadd, 1) := by decide +kernel
theorem dX11_seek_140 : decode cX11_seek 140 = .ok (.iastore, 1) := by decide +kernel
theorem dX11_seek_141 : decode cX11_seek 141 = .ok (.return_, 1) := by decide +kernel
theorem dX11_settleRobot_0 : decode cX11_settleRobot 0 = .ok (.aload_n 0, 1) := by decide +kernel
theorem dX11_settleRobot_1 : decode cX11_settleRobot 1 = .ok (.getfield 36, 3) := by decide +kernel
theorem dX11_settleRobot_4 : decode cX11_settleRobot 4 = .ok (.iload_n 1, 1) := by decide +kernel
theorem dX11_settleRobot_5 : decode cX11_settleRobot 5 = .ok (.iaload, 1) := by decide +kernel
theorem dX11_settleRobot_6 : decode cX11_settleRobot 6 = .ok (.istore_n 2, 1) := by decide +kernel
theorem dX11_settleRobot_7 : decode cX11_settleRobot 7 = .ok (.aload_n 0, 1) := by decide +kernel
theorem dX11_settleRobot_8 : decode cX11_settleRobot 8 = .ok (.getfield 39, 3) := by decide +kernel
theorem dX11_settleRobot_11 : decode cX11_settleRobot 11 = .ok (.iload_n 1, 1) := by decide +kernel
theorem dX11_settleRobot_12 : decode cX11_settleRobot 12 = .ok (.dup2, 1) := by decide +kernel
theorem dX11_settleRobot_13 : decode cX11_settleRobot 13 = .ok (.iaload, 1) := by decide +kernel
theorem dX11_settleRobot_14 : decode cX11_settleRobot 14 = .ok (.aload_n 0, 1) := by decide +kernel
theorem dX11_settleRobot_15 : decode cX11_settleRobot 15 = .ok (.iload_n 1, 1) := by decide +kernel
theorem dX11_settleRobot_16 : decode cX11_settleRobot 16 = .ok (.aload_n 0, 1) := by decide +kernel
theorem dX11_settleRobot_17 : decode cX11_settleRobot 17 = .ok (.getfield 141, 3) := by decide +kernel
theorem dX11_settleRobot_20 : decode cX11_settleRobot 20 = .ok (.invokevirtual 166, 3) := by decide +kernel
theorem dX11_settleRobot_23 : decode cX11_settleRobot 23 = .ok (.aload_n 0, 1) := by decide +kernel
theorem dX11_settleRobot_24 : decode cX11_settleRobot 24 = .ok (.iload_n 1, 1) := by decide +kernel
theorem dX11_settleRobot_25 : decode cX11_settleRobot 25 = .ok (.aload_n 0, 1) := by decide +kernel
theorem dX11_settleRobot_26 : decode cX11_settleRobot 26 = .ok (.getfield 141, 3) := by decide +kernel
theorem dX11_settleRobot_29 : decode cX11_settleRobot 29 = .ok (.iconst 1, 1) := by decide +kernel
theorem dX11_settleRobot_30 : decode cX11_settleRobot 30 = .ok (.isub, 1) := by decide +kernel
theorem dX11_settleRobot_31 : decode cX11_settleRobot 31 = .ok (.invokevirtual 166, 3) := by decide +kernel
theorem dX11_settleRobot_34 : decode cX11_settleRobot 34 = .ok (.if_icmp .eq 7, 3) := by decide +kernel
theorem dX11_settleRobot_37 : decode cX11_settleRobot 37 = .ok (.iconst 1, 1) := by decide +kernel
theorem dX11_settleRobot_38 : decode cX11_settleRobot 38 = .ok (.goto 4, 3) := by decide +kernel
theorem dX11_settleRobot_41 : decode cX11_settleRobot 41 = .ok (.iconst 0, 1) := by decide +kernel
theorem dX11_settleRobot_42 : decode cX11_settleRobot 42 = .ok (.iadd, 1) := by decide +kernel
theorem dX11_settleRobot_43 : decode cX11_settleRobot 43 = .ok (.iastore, 1) := by decide +kernel
theorem dX11_settleRobot_44 : decode cX11_settleRobot 44 = .ok (.iload_n 2, 1) := by decide +kernel
theorem dX11_settleRobot_45 : decode cX11_settleRobot 45 = .ok (.ifCond .ge 4, 3) := by decide +kernel
theorem dX11_settleRobot_48 : decode cX11_settleRobot 48 = .ok (.return_, 1) := by decide +kernel
theorem dX11_settleRobot_49 : decode cX11_settleRobot 49 = .ok (.aload_n 0, 1) := by decide +kernel
theorem dX11_settleRobot_50 : decode cX11_settleRobot 50 = .ok (.getfield 69, 3) := by decide +kernel
theorem dX11_settleRobot_53 : decode cX11_settleRobot 53 = .ok (.iload_n 2, 1) := by decide +kernel
theorem dX11_settleRobot_54 : decode cX11_settleRobot 54 = .ok (.iaload, 1) := by decide +kernel
theorem dX11_settleRobot_55 : decode cX11_settleRobot 55 = .ok (.iconst 1, 1) := by decide +kernel
theorem dX11_settleRobot_56 : decode cX11_settleRobot 56 = .ok (.if_icmp .ne 38, 3) := by decide +kernel
theorem dX11_settleRobot_59 : decode cX11_settleRobot 59 = .ok (.aload_n 0, 1) := by decide +kernel
theorem dX11_settleRobot_60 : decode cX11_settleRobot 60 = .ok (.iload_n 1, 1) := by decide +kernel
theorem dX11_settleRobot_61 : decode cX11_settleRobot 61 = .ok (.aload_n 0, 1) := by decide +kernel
theorem dX11_settleRobot_62 : decode cX11_settleRobot 62 = .ok (.getfield 141, 3) := by decide +kernel
theorem dX11_settleRobot_65 : decode cX11_settleRobot 65 = .ok (.invokevirtual 166, 3) := by decide +kernel
theorem dX11_settleRobot_68 : decode cX11_settleRobot 68 = .ok (.aload_n 0, 1) := by decide +kernel
theorem dX11_settleRobot_69 : decode cX11_settleRobot 69 = .ok (.getfield 66, 3) := by decide +kernel
theorem dX11_settleRobot_72 : decode cX11_settleRobot 72 = .ok (.iload_n 2, 1) := by decide +kernel
theorem dX11_settleRobot_73 : decode cX11_settleRobot 73 = .ok (.iaload, 1) := by decide +kernel
theorem dX11_settleRobot_74 : decode cX11_settleRobot 74 = .ok (.if_icmp .ne 20, 3) := by decide +kernel
theorem dX11_settleRobot_77 : decode cX11_settleRobot 77 = .ok (.aload_n 0, 1) := by decide +kernel
theorem dX11_settleRobot_78 : decode cX11_settleRobot 78 = .ok (.getfield 69, 3) := by decide +kernel
theorem dX11_settleRobot_81 : decode cX11_settleRobot 81 = .ok (.iload_n 2, 1) := by decide +kernel
theorem dX11_settleRobot_82 : decode cX11_settleRobot 82 = .ok (.iconst 2, 1) := by decide +kernel
theorem dX11_settleRobot_83 : decode cX11_settleRobot 83 = .ok (.iastore, 1) := by decide +kernel
theorem dX11_settleRobot_84 : decode cX11_settleRobot 84 = .ok (.aload_n 0, 1) := by decide +kernel
theorem dX11_settleRobot_85 : decode cX11_settleRobot 85 = .ok (.getfield 81, 3) := by decide +kernel
theorem dX11_settleRobot_88 : decode cX11_settleRobot 88 = .ok (.iload_n 2, 1) := by decide +kernel
theorem dX11_settleRobot_89 : decode cX11_settleRobot 89 = .ok (.aload_n 0, 1) := by decide +kernel
theorem dX11_settleRobot_90 : decode cX11_settleRobot 90 = .ok (.getfield 141, 3) := by decide +kernel
theorem dX11_settleRobot_93 : decode cX11_settleRobot 93 = .ok (.iastore, 1) := by decide +kernel
theorem dX11_settleRobot_94 : decode cX11_settleRobot 94 = .ok (.aload_n 0, 1) := by decide +kernel
theorem dX11_settleRobot_95 : decode cX11_settleRobot 95 = .ok (.getfield 69, 3) := by decide +kernel
theorem dX11_settleRobot_98 : decode cX11_settleRobot 98 = .ok (.iload_n 2, 1) := by decide +kernel
theorem dX11_settleRobot_99 : decode cX11_settleRobot 99 = .ok (.iaload, 1) := by decide +kernel
theorem dX11_settleRobot_100 : decode cX11_settleRobot 100 = .ok (.iconst 2, 1) := by decide +kernel
theorem dX11_settleRobot_101 : decode cX11_settleRobot 101 = .ok (.if_icmp .ne 60, 3) := by decide +kernel
theorem dX11_settleRobot_104 : decode cX11_settleRobot 104 = .ok (.aload_n 0, 1) := by decide +kernel
theorem dX11_settleRobot_105 : decode cX11_settleRobot 105 = .ok (.getfield 33, 3) := by decide +kernel
theorem dX11_settleRobot_108 : decode cX11_settleRobot 108 = .ok (.iload_n 1, 1) := by decide +kernel
theorem dX11_settleRobot_109 : decode cX11_settleRobot 109 = .ok (.iaload, 1) := by decide +kernel
theorem dX11_settleRobot_110 : decode cX11_settleRobot 110 = .ok (.aload_n 0, 1) := by decide +kernel
theorem dX11_settleRobot_111 : decode cX11_settleRobot 111 = .ok (.getfield 141, 3) := by decide +kernel
theorem dX11_settleRobot_114 : decode cX11_settleRobot 114 = .ok (.if_icmp .ne 47, 3) := by decide +kernel
theorem dX11_settleRobot_117 : decode cX11_settleRobot 117 = .ok (.aload_n 0, 1) := by decide +kernel
theorem dX11_settleRobot_118 : decode cX11_settleRobot 118 = .ok (.getfield 69, 3) := by decide +kernel
theorem dX11_settleRobot_121 : decode cX11_settleRobot 121 = .ok (.iload_n 2, 1) := by decide +kernel
theorem dX11_settleRobot_122 : decode cX11_settleRobot 122 = .ok (.iconst 3, 1) := by decide +kernel
theorem dX11_settleRobot_123 : decode cX11_settleRobot 123 = .ok (.iastore, 1) := by decide +kernel
theorem dX11_settleRobot_124 : decode cX11_settleRobot 124 = .ok (.aload_n 0, 1) := by decide +kernel
theorem dX11_settleRobot_125 : decode cX11_settleRobot 125 = .ok (.getfield 84, 3) := by decide +kernel
theorem dX11_settleRobot_128 : decode cX11_settleRobot 128 = .ok (.iload_n 2, 1) := by decide +kernel
theorem dX11_settleRobot_129 : decode cX11_settleRobot 129 = .ok (.aload_n 0, 1) := by decide +kernel
theorem dX11_settleRobot_130 : decode cX11_settleRobot 130 = .ok (.getfield 141, 3) := by decide +kernel
theorem dX11_settleRobot_133 : decode cX11_settleRobot 133 = .ok (.iastore, 1) := by decide +kernel
theorem dX11_settleRobot_134 : decode cX11_settleRobot 134 = .ok (.aload_n 0, 1) := by decide +kernel
theorem dX11_settleRobot_135 : decode cX11_settleRobot 135 = .ok (.getfield 42, 3) := by decide +kernel
theorem dX11_settleRobot_138 : decode cX11_settleRobot 138 = .ok (.iload_n 1, 1) := by decide +kernel
theorem dX11_settleRobot_139 : decode cX11_settleRobot 139 = .ok (.dup2, 1) := by decide +kernel
theorem dX11_settleRobot_140 : decode cX11_settleRobot 140 = .ok (.iaload, 1) := by decide +kernel
theorem dX11_settleRobot_141 : decode cX11_settleRobot 141 = .ok (.iconst 1, 1) := by decide +kernel
theorem dX11_settleRobot_142 : decode cX11_settleRobot 142 = .ok (.iadd, 1) := by decide +kernel
theorem dX11_settleRobot_143 : decode cX11_settleRobot 143 = .ok (.iastore, 1) := by decide +kernel
theorem dX11_settleRobot_144 : decode cX11_settleRobot 144 = .ok (.aload_n 0, 1) := by decide +kernel
theorem dX11_settleRobot_145 : decode cX11_settleRobot 145 = .ok (.getfield 36, 3) := by decide +kernel
theorem dX11_settleRobot_148 : decode cX11_settleRobot 148 = .ok (.iload_n 1, 1) := by decide +kernel
theorem dX11_settleRobot_149 : decode cX11_settleRobot 149 = .ok (.iconst (-1), 1) := by decide +kernel
theorem dX11_settleRobot_150 : decode cX11_settleRobot 150 = .ok (.iastore, 1) := by decide +kernel
theorem dX11_settleRobot_151 : decode cX11_settleRobot 151 = .ok (.aload_n 0, 1) := by decide +kernel
theorem dX11_settleRobot_152 : decode cX11_settleRobot 152 = .ok (.aload_n 0, 1) := by decide +kernel
theorem dX11_settleRobot_153 : decode cX11_settleRobot 153 = .ok (.getfield 63, 3) := by decide +kernel
theorem dX11_settleRobot_156 : decode cX11_settleRobot 156 = .ok (.iload_n 2, 1) := by decide +kernel
theorem dX11_settleRobot_157 : decode cX11_settleRobot 157 = .ok (.iaload, 1) := by decide +kernel
theorem dX11_settleRobot_158 : decode cX11_settleRobot 158 = .ok (.invokevirtual 179, 3) := by decide +kernel
theorem dX11_settleRobot_161 : decode cX11_settleRobot 161 = .ok (.return_, 1) := by decide +kernel
theorem dX11_watch_0 : decode cX11_watch 0 = .ok (.iconst 0, 1) := by decide +kernel
theorem dX11_watch_1 : decode cX11_watch 1 = .ok (.istore_n 1, 1) := by decide +kernel
theorem dX11_watch_2 : decode cX11_watch 2 = .ok (.iload_n 1, 1) := by decide +kernel
theorem dX11_watch_3 : decode cX11_watch 3 = .ok (.aload_n 0, 1) := by decide +kernel
theorem dX11_watch_4 : decode cX11_watch 4 = .ok (.getfield 144, 3) := by decide +kernel
theorem dX11_watch_7 : decode cX11_watch 7 = .ok (.if_icmp .ge 213, 3) := by decide +kernel
theorem dX11_watch_10 : decode cX11_watch 10 = .ok (.aload_n 0, 1) := by decide +kernel
theorem dX11_watch_11 : decode cX11_watch 11 = .ok (.iload_n 1, 1) := by decide +kernel
theorem dX11_watch_12 : decode cX11_watch 12 = .ok (.aload_n 0, 1) := by decide +kernel
theorem dX11_watch_13 : decode cX11_watch 13 = .ok (.getfield 141, 3) := by decide +kernel
theorem dX11_watch_16 : decode cX11_watch 16 = .ok (.invokevirtual 166, 3) := by decide +kernel
theorem dX11_watch_19 : decode cX11_watch 19 = .ok (.istore_n 2, 1) := by decide +kernel
theorem dX11_watch_20 : decode cX11_watch 20 = .ok (.aload_n 0, 1) := by decide +kernel
theorem dX11_watch_21 : decode cX11_watch 21 = .ok (.iload_n 1, 1) := by decide +kernel
theorem dX11_watch_22 : decode cX11_watch 22 = .ok (.aload_n 0, 1) := by decide +kernel
theorem dX11_watch_23 : decode cX11_watch 23 = .ok (.getfield 141, 3) := by decide +kernel
theorem dX11_watch_26 : decode cX11_watch 26 = .ok (.iconst 1, 1) := by decide +kernel
theorem dX11_watch_27 : decode cX11_watch 27 = .ok (.isub, 1) := by decide +kernel
theorem dX11_watch_28 : decode cX11_watch 28 = .ok (.invokevirtual 166, 3) := by decide +kernel
theorem dX11_watch_31 : decode cX11_watch 31 = .ok (.istore_n 3, 1) := by decide +kernel
theorem dX11_watch_32 : decode cX11_watch 32 = .ok (.iconst 0, 1) := by decide +kernel
theorem dX11_watch_33 : decode cX11_watch 33 = .ok (.istore 4, 2) := by decide +kernel
theorem dX11_watch_35 : decode cX11_watch 35 = .ok (.iconst 0, 1) := by decide +kernel
theorem dX11_watch_36 : decode cX11_watch 36 = .ok (.istore 5, 2) := by decide +kernel
end
section
theorem dX11_watch_38 : decode cX11_watch 38 = .ok (.iload 5, 2) := by decide +kernel
theorem dX11_watch_40 : decode cX11_watch 40 = .ok (.iconst 5, 1) := by decide +kernel
theorem dX11_watch_41 : decode cX11_watch 41 = .ok (.if_icmp .ge 39, 3) := by decide +kernel
theorem dX11_watch_44 : decode cX11_watch 44 = .ok (.iload 4, 2) := by decide +kernel
theorem dX11_watch_46 : decode cX11_watch 46 = .ok (.ifCond .ne 21, 3) := by decide +kernel
theorem dX11_watch_49 : decode cX11_watch 49 = .ok (.iload_n 3, 1) := by decide +kernel
theorem dX11_watch_50 : decode cX11_watch 50 = .ok (.iload 5, 2) := by decide +kernel
theorem dX11_watch_52 : decode cX11_watch 52 = .ok (.aload_n 0, 1) := by decide +kernel
theorem dX11_watch_53 : decode cX11_watch 53 = .ok (.getfield 135, 3) := by decide +kernel
theorem dX11_watch_56 : decode cX11_watch 56 = .ok (.aload_n 0, 1) := by decide +kernel
theorem dX11_watch_57 : decode cX11_watch 57 = .ok (.getfield 132, 3) := by decide +kernel
theorem dX11_watch_60 : decode cX11_watch 60 = .ok (.invokestatic 113, 3) := by decide +kernel
theorem dX11_watch_63 : decode cX11_watch 63 = .ok (.iload_n 2, 1) := by decide +kernel
theorem dX11_watch_64 : decode cX11_watch 64 = .ok (.if_icmp .ne 7, 3) := by decide +kernel
theorem dX11_watch_67 : decode cX11_watch 67 = .ok (.iconst 1, 1) := by decide +kernel
theorem dX11_watch_68 : decode cX11_watch 68 = .ok (.goto 4, 3) := by decide +kernel
theorem dX11_watch_71 : decode cX11_watch 71 = .ok (.iconst 0, 1) := by decide +kernel
theorem dX11_watch_72 : decode cX11_watch 72 = .ok (.istore 4, 2) := by decide +kernel
theorem dX11_watch_74 : decode cX11_watch 74 = .ok (.iinc 5 1, 3) := by decide +kernel
theorem dX11_watch_77 : decode cX11_watch 77 = .ok (.goto (-39), 3) := by decide +kernel
theorem dX11_watch_80 : decode cX11_watch 80 = .ok (.aload_n 0, 1) := by decide +kernel
theorem dX11_watch_81 : decode cX11_watch 81 = .ok (.dup, 1) := by decide +kernel
theorem dX11_watch_82 : decode cX11_watch 82 = .ok (.getfield 153, 3) := by decide +kernel
theorem dX11_watch_85 : decode cX11_watch 85 = .ok (.aload_n 0, 1) := by decide +kernel
theorem dX11_watch_86 : decode cX11_watch 86 = .ok (.getfield 17, 3) := by decide +kernel
theorem dX11_watch_89 : decode cX11_watch 89 = .ok (.iload_n 2, 1) := by decide +kernel
theorem dX11_watch_90 : decode cX11_watch 90 = .ok (.iaload, 1) := by decide +kernel
theorem dX11_watch_91 : decode cX11_watch 91 = .ok (.ifCond .ne 7, 3) := by decide +kernel
theorem dX11_watch_94 : decode cX11_watch 94 = .ok (.iconst 1, 1) := by decide +kernel
theorem dX11_watch_95 : decode cX11_watch 95 = .ok (.goto 4, 3) := by decide +kernel
theorem dX11_watch_98 : decode cX11_watch 98 = .ok (.iconst 0, 1) := by decide +kernel
theorem dX11_watch_99 : decode cX11_watch 99 = .ok (.iadd, 1) := by decide +kernel
theorem dX11_watch_100 : decode cX11_watch 100 = .ok (.putfield 153, 3) := by decide +kernel
theorem dX11_watch_103 : decode cX11_watch 103 = .ok (.aload_n 0, 1) := by decide +kernel
theorem dX11_watch_104 : decode cX11_watch 104 = .ok (.dup, 1) := by decide +kernel
theorem dX11_watch_105 : decode cX11_watch 105 = .ok (.getfield 153, 3) := by decide +kernel
theorem dX11_watch_108 : decode cX11_watch 108 = .ok (.iload 4, 2) := by decide +kernel
theorem dX11_watch_110 : decode cX11_watch 110 = .ok (.ifCond .eq 7, 3) := by decide +kernel
theorem dX11_watch_113 : decode cX11_watch 113 = .ok (.iconst 0, 1) := by decide +kernel
theorem dX11_watch_114 : decode cX11_watch 114 = .ok (.goto 4, 3) := by decide +kernel
theorem dX11_watch_117 : decode cX11_watch 117 = .ok (.iconst 1, 1) := by decide +kernel
theorem dX11_watch_118 : decode cX11_watch 118 = .ok (.iadd, 1) := by decide +kernel
theorem dX11_watch_119 : decode cX11_watch 119 = .ok (.putfield 153, 3) := by decide +kernel
theorem dX11_watch_122 : decode cX11_watch 122 = .ok (.iconst 0, 1) := by decide +kernel
theorem dX11_watch_123 : decode cX11_watch 123 = .ok (.istore 5, 2) := by decide +kernel
theorem dX11_watch_125 : decode cX11_watch 125 = .ok (.iload 5, 2) := by decide +kernel
theorem dX11_watch_127 : decode cX11_watch 127 = .ok (.iload_n 1, 1) := by decide +kernel
theorem dX11_watch_128 : decode cX11_watch 128 = .ok (.if_icmp .ge 86, 3) := by decide +kernel
theorem dX11_watch_131 : decode cX11_watch 131 = .ok (.aload_n 0, 1) := by decide +kernel
theorem dX11_watch_132 : decode cX11_watch 132 = .ok (.dup, 1) := by decide +kernel
theorem dX11_watch_133 : decode cX11_watch 133 = .ok (.getfield 153, 3) := by decide +kernel
theorem dX11_watch_136 : decode cX11_watch 136 = .ok (.aload_n 0, 1) := by decide +kernel
theorem dX11_watch_137 : decode cX11_watch 137 = .ok (.iload 5, 2) := by decide +kernel
theorem dX11_watch_139 : decode cX11_watch 139 = .ok (.aload_n 0, 1) := by decide +kernel
theorem dX11_watch_140 : decode cX11_watch 140 = .ok (.getfield 141, 3) := by decide +kernel
theorem dX11_watch_143 : decode cX11_watch 143 = .ok (.invokevirtual 166, 3) := by decide +kernel
theorem dX11_watch_146 : decode cX11_watch 146 = .ok (.iload_n 2, 1) := by decide +kernel
theorem dX11_watch_147 : decode cX11_watch 147 = .ok (.if_icmp .ne 7, 3) := by decide +kernel
theorem dX11_watch_150 : decode cX11_watch 150 = .ok (.iconst 1, 1) := by decide +kernel
theorem dX11_watch_151 : decode cX11_watch 151 = .ok (.goto 4, 3) := by decide +kernel
theorem dX11_watch_154 : decode cX11_watch 154 = .ok (.iconst 0, 1) := by decide +kernel
theorem dX11_watch_155 : decode cX11_watch 155 = .ok (.iadd, 1) := by decide +kernel
theorem dX11_watch_156 : decode cX11_watch 156 = .ok (.putfield 153, 3) := by decide +kernel
theorem dX11_watch_159 : decode cX11_watch 159 = .ok (.aload_n 0, 1) := by decide +kernel
theorem dX11_watch_160 : decode cX11_watch 160 = .ok (.dup, 1) := by decide +kernel
theorem dX11_watch_161 : decode cX11_watch 161 = .ok (.getfield 153, 3) := by decide +kernel
theorem dX11_watch_164 : decode cX11_watch 164 = .ok (.iload_n 2, 1) := by decide +kernel
theorem dX11_watch_165 : decode cX11_watch 165 = .ok (.iload_n 3, 1) := by decide +kernel
theorem dX11_watch_166 : decode cX11_watch 166 = .ok (.if_icmp .eq 37, 3) := by decide +kernel
theorem dX11_watch_169 : decode cX11_watch 169 = .ok (.aload_n 0, 1) := by decide +kernel
theorem dX11_watch_170 : decode cX11_watch 170 = .ok (.iload 5, 2) := by decide +kernel
theorem dX11_watch_172 : decode cX11_watch 172 = .ok (.aload_n 0, 1) := by decide +kernel
theorem dX11_watch_173 : decode cX11_watch 173 = .ok (.getfield 141, 3) := by decide +kernel
theorem dX11_watch_176 : decode cX11_watch 176 = .ok (.invokevirtual 166, 3) := by decide +kernel
theorem dX11_watch_179 : decode cX11_watch 179 = .ok (.iload_n 3, 1) := by decide +kernel
theorem dX11_watch_180 : decode cX11_watch 180 = .ok (.if_icmp .ne 23, 3) := by decide +kernel
theorem dX11_watch_183 : decode cX11_watch 183 = .ok (.aload_n 0, 1) := by decide +kernel
theorem dX11_watch_184 : decode cX11_watch 184 = .ok (.iload 5, 2) := by decide +kernel
theorem dX11_watch_186 : decode cX11_watch 186 = .ok (.aload_n 0, 1) := by decide +kernel
theorem dX11_watch_187 : decode cX11_watch 187 = .ok (.getfield 141, 3) := by decide +kernel
theorem dX11_watch_190 : decode cX11_watch 190 = .ok (.iconst 1, 1) := by decide +kernel
theorem dX11_watch_191 : decode cX11_watch 191 = .ok (.isub, 1) := by decide +kernel
theorem dX11_watch_192 : decode cX11_watch 192 = .ok (.invokevirtual 166, 3) := by decide +kernel
theorem dX11_watch_195 : decode cX11_watch 195 = .ok (.iload_n 2, 1) := by decide +kernel
theorem dX11_watch_196 : decode cX11_watch 196 = .ok (.if_icmp .ne 7, 3) := by decide +kernel
theorem dX11_watch_199 : decode cX11_watch 199 = .ok (.iconst 1, 1) := by decide +kernel
theorem dX11_watch_200 : decode cX11_watch 200 = .ok (.goto 4, 3) := by decide +kernel
theorem dX11_watch_203 : decode cX11_watch 203 = .ok (.iconst 0, 1) := by decide +kernel
theorem dX11_watch_204 : decode cX11_watch 204 = .ok (.iadd, 1) := by decide +kernel
theorem dX11_watch_205 : decode cX11_watch 205 = .ok (.putfield 153, 3) := by decide +kernel
theorem dX11_watch_208 : decode cX11_watch 208 = .ok (.iinc 5 1, 3) := by decide +kernel
theorem dX11_watch_211 : decode cX11_watch 211 = .ok (.goto (-86), 3) := by decide +kernel
theorem dX11_watch_214 : decode cX11_watch 214 = .ok (.iinc 1 1, 3) := by decide +kernel
theorem dX11_watch_217 : decode cX11_watch 217 = .ok (.goto (-215), 3) := by decide +kernel
theorem dX11_watch_220 : decode cX11_watch 220 = .ok (.return_, 1) := by decide +kernel
theorem dX11_tickOnce_0 : decode cX11_tickOnce 0 = .ok (.iconst 0, 1) := by decide +kernel
theorem dX11_tickOnce_1 : decode cX11_tickOnce 1 = .ok (.istore_n 1, 1) := by decide +kernel
theorem dX11_tickOnce_2 : decode cX11_tickOnce 2 = .ok (.iload_n 1, 1) := by decide +kernel
theorem dX11_tickOnce_3 : decode cX11_tickOnce 3 = .ok (.aload_n 0, 1) := by decide +kernel
theorem dX11_tickOnce_4 : decode cX11_tickOnce 4 = .ok (.getfield 144, 3) := by decide +kernel
theorem dX11_tickOnce_7 : decode cX11_tickOnce 7 = .ok (.if_icmp .ge 32, 3) := by decide +kernel
theorem dX11_tickOnce_10 : decode cX11_tickOnce 10 = .ok (.aload_n 0, 1) := by decide +kernel
theorem dX11_tickOnce_11 : decode cX11_tickOnce 11 = .ok (.getfield 33, 3) := by decide +kernel
theorem dX11_tickOnce_14 : decode cX11_tickOnce 14 = .ok (.iload_n 1, 1) := by decide +kernel
theorem dX11_tickOnce_15 : decode cX11_tickOnce 15 = .ok (.iaload, 1) := by decide +kernel
theorem dX11_tickOnce_16 : decode cX11_tickOnce 16 = .ok (.aload_n 0, 1) := by decide +kernel
theorem dX11_tickOnce_17 : decode cX11_tickOnce 17 = .ok (.getfield 141, 3) := by decide +kernel
theorem dX11_tickOnce_20 : decode cX11_tickOnce 20 = .ok (.if_icmp .gt 13, 3) := by decide +kernel
theorem dX11_tickOnce_23 : decode cX11_tickOnce 23 = .ok (.aload_n 0, 1) := by decide +kernel
theorem dX11_tickOnce_24 : decode cX11_tickOnce 24 = .ok (.iload_n 1, 1) := by decide +kernel
theorem dX11_tickOnce_25 : decode cX11_tickOnce 25 = .ok (.invokevirtual 222, 3) := by decide +kernel
theorem dX11_tickOnce_28 : decode cX11_tickOnce 28 = .ok (.aload_n 0, 1) := by decide +kernel
theorem dX11_tickOnce_29 : decode cX11_tickOnce 29 = .ok (.iload_n 1, 1) := by decide +kernel
theorem dX11_tickOnce_30 : decode cX11_tickOnce 30 = .ok (.invokevirtual 225, 3) := by decide +kernel
theorem dX11_tickOnce_33 : decode cX11_tickOnce 33 = .ok (.iinc 1 1, 3) := by decide +kernel
theorem dX11_tickOnce_36 : decode cX11_tickOnce 36 = .ok (.goto (-34), 3) := by decide +kernel
theorem dX11_tickOnce_39 : decode cX11_tickOnce 39 = .ok (.aload_n 0, 1) := by decide +kernel
theorem dX11_tickOnce_40 : decode cX11_tickOnce 40 = .ok (.dup, 1) := by decide +kernel
theorem dX11_tickOnce_41 : decode cX11_tickOnce 41 = .ok (.getfield 141, 3) := by decide +kernel
theorem dX11_tickOnce_44 : decode cX11_tickOnce 44 = .ok (.iconst 1, 1) := by decide +kernel
theorem dX11_tickOnce_45 : decode cX11_tickOnce 45 = .ok (.iadd, 1) := by decide +kernel
theorem dX11_tickOnce_46 : decode cX11_tickOnce 46 = .ok (.putfield 141, 3) := by decide +kernel
theorem dX11_tickOnce_49 : decode cX11_tickOnce 49 = .ok (.iconst 0, 1) := by decide +kernel
theorem dX11_tickOnce_50 : decode cX11_tickOnce 50 = .ok (.istore_n 1, 1) := by decide +kernel
theorem dX11_tickOnce_51 : decode cX11_tickOnce 51 = .ok (.iload_n 1, 1) := by decide +kernel
theorem dX11_tickOnce_52 : decode cX11_tickOnce 52 = .ok (.aload_n 0, 1) := by decide +kernel
theorem dX11_tickOnce_53 : decode cX11_tickOnce 53 = .ok (.getfield 144, 3) := by decide +kernel
theorem dX11_tickOnce_56 : decode cX11_tickOnce 56 = .ok (.if_icmp .ge 32, 3) := by decide +kernel
theorem dX11_tickOnce_59 : decode cX11_tickOnce 59 = .ok (.aload_n 0, 1) := by decide +kernel
theorem dX11_tickOnce_60 : decode cX11_tickOnce 60 = .ok (.getfield 33, 3) := by decide +kernel
theorem dX11_tickOnce_63 : decode cX11_tickOnce 63 = .ok (.iload_n 1, 1) := by decide +kernel
theorem dX11_tickOnce_64 : decode cX11_tickOnce 64 = .ok (.iaload, 1) := by decide +kernel
theorem dX11_tickOnce_65 : decode cX11_tickOnce 65 = .ok (.aload_n 0, 1) := by decide +kernel
theorem dX11_tickOnce_66 : decode cX11_tickOnce 66 = .ok (.getfield 141, 3) := by decide +kernel
theorem dX11_tickOnce_69 : decode cX11_tickOnce 69 = .ok (.if_icmp .ge 8, 3) := by decide +kernel
theorem dX11_tickOnce_72 : decode cX11_tickOnce 72 = .ok (.aload_n 0, 1) := by decide +kernel
theorem dX11_tickOnce_73 : decode cX11_tickOnce 73 = .ok (.iload_n 1, 1) := by decide +kernel
theorem dX11_tickOnce_74 : decode cX11_tickOnce 74 = .ok (.invokevirtual 222, 3) := by decide +kernel
theorem dX11_tickOnce_77 : decode cX11_tickOnce 77 = .ok (.aload_n 0, 1) := by decide +kernel
theorem dX11_tickOnce_78 : decode cX11_tickOnce 78 = .ok (.iload_n 1, 1) := by decide +kernel
theorem dX11_tickOnce_79 : decode cX11_tickOnce 79 = .ok (.invokevirtual 228, 3) := by decide +kernel
theorem dX11_tickOnce_82 : decode cX11_tickOnce 82 = .ok (.iinc 1 1, 3) := by decide +kernel
theorem dX11_tickOnce_85 : decode cX11_tickOnce 85 = .ok (.goto (-34), 3) := by decide +kernel
theorem dX11_tickOnce_88 : decode cX11_tickOnce 88 = .ok (.aload_n 0, 1) := by decide +kernel
theorem dX11_tickOnce_89 : decode cX11_tickOnce 89 = .ok (.invokevirtual 231, 3) := by decide +kernel
theorem dX11_tickOnce_92 : decode cX11_tickOnce 92 = .ok (.return_, 1) := by decide +kernel
theorem dX11_stay_0 : decode cX11_stay 0 = .ok (.aload_n 0, 1) := by decide +kernel
theorem dX11_stay_1 : decode cX11_stay 1 = .ok (.getfield 30, 3) := by decide +kernel
theorem dX11_stay_4 : decode cX11_stay 4 = .ok (.sipush 5200, 3) := by decide +kernel
theorem dX11_stay_7 : decode cX11_stay 7 = .ok (.iload_n 1, 1) := by decide +kernel
theorem dX11_stay_8 : decode cX11_stay 8 = .ok (.imul, 1) := by decide +kernel
theorem dX11_stay_9 : decode cX11_stay 9 = .ok (.aload_n 0, 1) := by decide +kernel
theorem dX11_stay_10 : decode cX11_stay 10 = .ok (.getfield 141, 3) := by decide +kernel
theorem dX11_stay_13 : decode cX11_stay 13 = .ok (.iadd, 1) := by decide +kernel
theorem dX11_stay_14 : decode cX11_stay 14 = .ok (.aload_n 0, 1) := by decide +kernel
theorem dX11_stay_15 : decode cX11_stay 15 = .ok (.iload_n 1, 1) := by decide +kernel
theorem dX11_stay_16 : decode cX11_stay 16 = .ok (.invokevirtual 182, 3) := by decide +kernel
theorem dX11_stay_19 : decode cX11_stay 19 = .ok (.iastore, 1) := by decide +kernel
theorem dX11_stay_20 : decode cX11_stay 20 = .ok (.aload_n 0, 1) := by decide +kernel
theorem dX11_stay_21 : decode cX11_stay 21 = .ok (.getfield 33, 3) := by decide +kernel
theorem dX11_stay_24 : decode cX11_stay 24 = .ok (.iload_n 1, 1) := by decide +kernel
theorem dX11_stay_25 : decode cX11_stay 25 = .ok (.aload_n 0, 1) := by decide +kernel
theorem dX11_stay_26 : decode cX11_stay 26 = .ok (.getfield 141, 3) := by decide +kernel
theorem dX11_stay_29 : decode cX11_stay 29 = .ok (.iastore, 1) := by decide +kernel
theorem dX11_stay_30 : decode cX11_stay 30 = .ok (.return_, 1) := by decide +kernel
theorem dX11_refusal_0 : decode cX11_refusal 0 = .ok (.aload_n 0, 1) := by decide +kernel
theorem dX11_refusal_1 : decode cX11_refusal 1 = .ok (.getfield 144, 3) := by decide +kernel
theorem dX11_refusal_4 : decode cX11_refusal 4 = .ok (.ifCond .ne 8, 3) := by decide +kernel
theorem dX11_refusal_7 : decode cX11_refusal 7 = .ok (.bipush (-4), 2) := by decide +kernel
theorem dX11_refusal_9 : decode cX11_refusal 9 = .ok (.goto 37, 3) := by decide +kernel
theorem dX11_refusal_12 : decode cX11_refusal 12 = .ok (.iload_n 1, 1) := by decide +kernel
theorem dX11_refusal_13 : decode cX11_refusal 13 = .ok (.iconst 1, 1) := by decide +kernel
theorem dX11_refusal_14 : decode cX11_refusal 14 = .ok (.sipush 200, 3) := by decide +kernel
theorem dX11_refusal_17 : decode cX11_refusal 17 = .ok (.invokestatic 162, 3) := by decide +kernel
theorem dX11_refusal_20 : decode cX11_refusal 20 = .ok (.ifCond .ne 8, 3) := by decide +kernel
theorem dX11_refusal_23 : decode cX11_refusal 23 = .ok (.bipush (-2), 2) := by decide +kernel
theorem dX11_refusal_25 : decode cX11_refusal 25 = .ok (.goto 21, 3) := by decide +kernel
theorem dX11_refusal_28 : decode cX11_refusal 28 = .ok (.aload_n 0, 1) := by decide +kernel
theorem dX11_refusal_29 : decode cX11_refusal 29 = .ok (.getfield 141, 3) := by decide +kernel
theorem dX11_refusal_32 : decode cX11_refusal 32 = .ok (.iload_n 1, 1) := by decide +kernel
theorem dX11_refusal_33 : decode cX11_refusal 33 = .ok (.iadd, 1) := by decide +kernel
theorem dX11_refusal_34 : decode cX11_refusal 34 = .ok (.sipush 4000, 3) := by decide +kernel
theorem dX11_refusal_37 : decode cX11_refusal 37 = .ok (.if_icmp .le 8, 3) := by decide +kernel
theorem dX11_refusal_40 : decode cX11_refusal 40 = .ok (.bipush (-3), 2) := by decide +kernel
theorem dX11_refusal_42 : decode cX11_refusal 42 = .ok (.goto 4, 3) := by decide +kernel
theorem dX11_refusal_45 : decode cX11_refusal 45 = .ok (.iconst 0, 1) := by decide +kernel
theorem dX11_refusal_46 : decode cX11_refusal 46 = .ok (.ireturn, 1) := by decide +kernel
theorem dX11_tick_0 : decode cX11_tick 0 = .ok (.aload_n 0, 1) := by decide +kernel
theorem dX11_tick_1 : decode cX11_tick 1 = .ok (.iload_n 1, 1) := by decide +kernel
theorem dX11_tick_2 : decode cX11_tick 2 = .ok (.invokevirtual 234, 3) := by decide +kernel
theorem dX11_tick_5 : decode cX11_tick 5 = .ok (.istore_n 2, 1) := by decide +kernel
theorem dX11_tick_6 : decode cX11_tick 6 = .ok (.iload_n 2, 1) := by decide +kernel
theorem dX11_tick_7 : decode cX11_tick 7 = .ok (.ifCond .ge 5, 3) := by decide +kernel
theorem dX11_tick_10 : decode cX11_tick 10 = .ok (.iload_n 2, 1) := by decide +kernel
theorem dX11_tick_11 : decode cX11_tick 11 = .ok (.ireturn, 1) := by decide +kernel
theorem dX11_tick_12 : decode cX11_tick 12 = .ok (.iconst 0, 1) := by decide +kernel
theorem dX11_tick_13 : decode cX11_tick 13 = .ok (.istore_n 3, 1) := by decide +kernel
theorem dX11_tick_14 : decode cX11_tick 14 = .ok (.iload_n 3, 1) := by decide +kernel
theorem dX11_tick_15 : decode cX11_tick 15 = .ok (.iload_n 1, 1) := by decide +kernel
theorem dX11_tick_16 : decode cX11_tick 16 = .ok (.if_icmp .ge 13, 3) := by decide +kernel
theorem dX11_tick_19 : decode cX11_tick 19 = .ok (.aload_n 0, 1) := by decide +kernel
theorem dX11_tick_20 : decode cX11_tick 20 = .ok (.invokevirtual 237, 3) := by decide +kernel
theorem dX11_tick_23 : decode cX11_tick 23 = .ok (.iinc 3 1, 3) := by decide +kernel
theorem dX11_tick_26 : decode cX11_tick 26 = .ok (.goto (-12), 3) := by decide +kernel
theorem dX11_tick_29 : decode cX11_tick 29 = .ok (.aload_n 0, 1) := by decide +kernel
theorem dX11_tick_30 : decode cX11_tick 30 = .ok (.getfield 141, 3) := by decide +kernel
theorem dX11_tick_33 : decode cX11_tick 33 = .ok (.ireturn, 1) := by decide +kernel
theorem dX11_openOrders_0 : decode cX11_openOrders 0 = .ok (.iconst 0, 1) := by decide +kernel
theorem dX11_openOrders_1 : decode cX11_openOrders 1 = .ok (.istore_n 1, 1) := by decide +kernel
theorem dX11_openOrders_2 : decode cX11_openOrders 2 = .ok (.iconst 0, 1) := by decide +kernel
theorem dX11_openOrders_3 : decode cX11_openOrders 3 = .ok (.istore_n 2, 1) := by decide +kernel
theorem dX11_openOrders_4 : decode cX11_openOrders 4 = .ok (.iload_n 2, 1) := by decide +kernel
theorem dX11_openOrders_5 : decode cX11_openOrders 5 = .ok (.aload_n 0, 1) := by decide +kernel
theorem dX11_openOrders_6 : decode cX11_openOrders 6 = .ok (.getfield 147, 3) := by decide +kernel
theorem dX11_openOrders_9 : decode cX11_openOrders 9 = .ok (.if_icmp .ge 25, 3) := by decide +kernel
theorem dX11_openOrders_12 : decode cX11_openOrders 12 = .ok (.aload_n 0, 1) := by decide +kernel
theorem dX11_openOrders_13 : decode cX11_openOrders 13 = .ok (.iload_n 2, 1) := by decide +kernel
theorem dX11_openOrders_14 : decode cX11_openOrders 14 = .ok (.invokevirtual 176, 3) := by decide +kernel
theorem dX11_openOrders_17 : decode cX11_openOrders 17 = .ok (.ifCond .eq 9, 3) := by decide +kernel
theorem dX11_openOrders_20 : decode cX11_openOrders 20 = .ok (.iload_n 1, 1) := by decide +kernel
theorem dX11_openOrders_21 : decode cX11_openOrders 21 = .ok (.iconst 1, 1) := by decide +kernel
theorem dX11_openOrders_22 : decode cX11_openOrders 22 = .ok (.iadd, 1) := by decide +kernel
theorem dX11_openOrders_23 : decode cX11_openOrders 23 = .ok (.goto 4, 3) := by decide +kernel
theorem dX11_openOrders_26 : decode cX11_openOrders 26 = .ok (.iload_n 1, 1) := by decide +kernel
theorem dX11_openOrders_27 : decode cX11_openOrders 27 = .ok (.istore_n 1, 1) := by decide +kernel
theorem dX11_openOrders_28 : decode cX11_openOrders 28 = .ok (.iinc 2 1, 3) := by decide +kernel
theorem dX11_openOrders_31 : decode cX11_openOrders 31 = .ok (.goto (-27), 3) := by decide +kernel
theorem dX11_openOrders_34 : decode cX11_openOrders 34 = .ok (.iload_n 1, 1) := by decide +kernel
theorem dX11_openOrders_35 : decode cX11_openOrders 35 = .ok (.ireturn, 1) := by decide +kernel
theorem dX11_settle_0 : decode cX11_settle 0 = .ok (.aload_n 0, 1) := by decide +kernel
theorem dX11_settle_1 : decode cX11_settle 1 = .ok (.iload_n 1, 1) := by decide +kernel
theorem dX11_settle_2 : decode cX11_settle 2 = .ok (.invokevirtual 234, 3) := by decide +kernel
theorem dX11_settle_5 : decode cX11_settle 5 = .ok (.istore_n 2, 1) := by decide +kernel
theorem dX11_settle_6 : decode cX11_settle 6 = .ok (.iload_n 2, 1) := by decide +kernel
theorem dX11_settle_7 : decode cX11_settle 7 = .ok (.ifCond .ge 5, 3) := by decide +kernel
theorem dX11_settle_10 : decode cX11_settle 10 = .ok (.iload_n 2, 1) := by decide +kernel
theorem dX11_settle_11 : decode cX11_settle 11 = .ok (.ireturn, 1) := by decide +kernel
theorem dX11_settle_12 : decode cX11_settle 12 = .ok (.iconst 0, 1) := by decide +kernel
theorem dX11_settle_13 : decode cX11_settle 13 = .ok (.istore_n 3, 1) := by decide +kernel
theorem dX11_settle_14 : decode cX11_settle 14 = .ok (.iload_n 3, 1) := by decide +kernel
theorem dX11_settle_15 : decode cX11_settle 15 = .ok (.iload_n 1, 1) := by decide +kernel
theorem dX11_settle_16 : decode cX11_settle 16 = .ok (.if_icmp .ge 20, 3) := by decide +kernel
theorem dX11_settle_19 : decode cX11_settle 19 = .ok (.aload_n 0, 1) := by decide +kernel
theorem dX11_settle_20 : decode cX11_settle 20 = .ok (.invokevirtual 240, 3) := by decide +kernel
theorem dX11_settle_23 : decode cX11_settle 23 = .ok (.ifCond .le 13, 3) := by decide +kernel
theorem dX11_settle_26 : decode cX11_settle 26 = .ok (.aload_n 0, 1) := by decide +kernel
theorem dX11_settle_27 : decode cX11_settle 27 = .ok (.invokevirtual 237, 3) := by decide +kernel
theorem dX11_settle_30 : decode cX11_settle 30 = .ok (.iinc 3 1, 3) := by decide +kernel
theorem dX11_settle_33 : decode cX11_settle 33 = .ok (.goto (-19), 3) := by decide +kernel
theorem dX11_settle_36 : decode cX11_settle 36 = .ok (.iload_n 3, 1) := by decide +kernel
theorem dX11_settle_37 : decode cX11_settle 37 = .ok (.ireturn, 1) := by decide +kernel
theorem dX11_robotOf_0 : decode cX11_robotOf 0 = .ok (.iload_n 1, 1) := by decide +kernel
theorem dX11_robotOf_1 : decode cX11_robotOf 1 = .ok (.iconst 0, 1) := by decide +kernel
theorem dX11_robotOf_2 : decode cX11_robotOf 2 = .ok (.aload_n 0, 1) := by decide +kernel
theorem dX11_robotOf_3 : decode cX11_robotOf 3 = .ok (.getfield 144, 3) := by decide +kernel
theorem dX11_robotOf_6 : decode cX11_robotOf 6 = .ok (.iconst 1, 1) := by decide +kernel
theorem dX11_robotOf_7 : decode cX11_robotOf 7 = .ok (.isub, 1) := by decide +kernel
theorem dX11_robotOf_8 : decode cX11_robotOf 8 = .ok (.invokestatic 162, 3) := by decide +kernel
theorem dX11_robotOf_11 : decode cX11_robotOf 11 = .ok (.ifCond .ne 5, 3) := by decide +kernel
theorem dX11_robotOf_14 : decode cX11_robotOf 14 = .ok (.iconst (-1), 1) := by decide +kernel
theorem dX11_robotOf_15 : decode cX11_robotOf 15 = .ok (.ireturn, 1) := by decide +kernel
theorem dX11_robotOf_16 : decode cX11_robotOf 16 = .ok (.iload_n 2, 1) := by decide +kernel
theorem dX11_robotOf_17 : decode cX11_robotOf 17 = .ok (.tableswitch 150 0 7 #[47, 57, 64, 94, 100, 129, 136, 143], 47) := by decide +kernel
theorem dX11_robotOf_64 : decode cX11_robotOf 64 = .ok (.aload_n 0, 1) := by decide +kernel
theorem dX11_robotOf_65 : decode cX11_robotOf 65 = .ok (.iload_n 1, 1) := by decide +kernel
theorem dX11_robotOf_66 : decode cX11_robotOf 66 = .ok (.aload_n 0, 1) := by decide +kernel
theorem dX11_robotOf_67 : decode cX11_robotOf 67 = .ok (.getfield 141, 3) := by decide +kernel
theorem dX11_robotOf_70 : decode cX11_robotOf 70 = .ok (.invokevirtual 166, 3) := by decide +kernel
theorem dX11_robotOf_73 : decode cX11_robotOf 73 = .ok (.ireturn, 1) := by decide +kernel
theorem dX11_robotOf_74 : decode cX11_robotOf 74 = .ok (.aload_n 0, 1) := by decide +kernel
theorem dX11_robotOf_75 : decode cX11_robotOf 75 = .ok (.getfield 36, 3) := by decide +kernel
theorem dX11_robotOf_78 : decode cX11_robotOf 78 = .ok (.iload_n 1, 1) := by decide +kernel
theorem dX11_robotOf_79 : decode cX11_robotOf 79 = .ok (.iaload, 1) := by decide +kernel
theorem dX11_robotOf_80 : decode cX11_robotOf 80 = .ok (.ireturn, 1) := by decide +kernel
theorem dX11_robotOf_81 : decode cX11_robotOf 81 = .ok (.aload_n 0, 1) := by decide +kernel
theorem dX11_robotOf_82 : decode cX11_robotOf 82 = .ok (.getfield 36, 3) := by decide +kernel
theorem dX11_robotOf_85 : decode cX11_robotOf 85 = .ok (.iload_n 1, 1) := by decide +kernel
theorem dX11_robotOf_86 : decode cX11_robotOf 86 = .ok (.iaload, 1) := by decide +kernel
theorem dX11_robotOf_87 : decode cX11_robotOf 87 = .ok (.ifCond .lt 22, 3) := by decide +kernel
theorem dX11_robotOf_90 : decode cX11_robotOf 90 = .ok (.aload_n 0, 1) := by decide +kernel
theorem dX11_robotOf_91 : decode cX11_robotOf 91 = .ok (.getfield 69, 3) := by decide +kernel
theorem dX11_robotOf_94 : decode cX11_robotOf 94 = .ok (.aload_n 0, 1) := by decide +kernel
theorem dX11_robotOf_95 : decode cX11_robotOf 95 = .ok (.getfield 36, 3) := by decide +kernel
theorem dX11_robotOf_98 : decode cX11_robotOf 98 = .ok (.iload_n 1, 1) := by decide +kernel
theorem dX11_robotOf_99 : decode cX11_robotOf 99 = .ok (.iaload, 1) := by decide +kernel
theorem dX11_robotOf_100 : decode cX11_robotOf 100 = .ok (.iaload, 1) := by decide +kernel
theorem dX11_robotOf_101 : decode cX11_robotOf 101 = .ok (.iconst 2, 1) := by decide +kernel
theorem dX11_robotOf_102 : decode cX11_robotOf 102 = .ok (.if_icmp .ne 7, 3) := by decide +kernel
theorem dX11_robotOf_105 : decode cX11_robotOf 105 = .ok (.iconst 1, 1) := by decide +kernel
theorem dX11_robotOf_106 : decode cX11_robotOf 106 = .ok (.goto 4, 3) := by decide +kernel
theorem dX11_robotOf_109 : decode cX11_robotOf 109 = .ok (.iconst 0, 1) := by decide +kernel
theorem dX11_robotOf_110 : decode cX11_robotOf 110 = .ok (.ireturn, 1) := by decide +kernel
theorem dX11_robotOf_111 : decode cX11_robotOf 111 = .ok (.aload_n 0, 1) := by decide +kernel
theorem dX11_robotOf_112 : decode cX11_robotOf 112 = .ok (.iload_n 1, 1) := by decide +kernel
theorem dX11_robotOf_113 : decode cX11_robotOf 113 = .ok (.invokevirtual 182, 3) := by decide +kernel
theorem dX11_robotOf_116 : decode cX11_robotOf 116 = .ok (.ireturn, 1) := by decide +kernel
theorem dX11_robotOf_117 : decode cX11_robotOf 117 = .ok (.aload_n 0, 1) := by decide +kernel
theorem dX11_robotOf_118 : decode cX11_robotOf 118 = .ok (.getfield 33, 3) := by decide +kernel
theorem dX11_robotOf_121 : decode cX11_robotOf 121 = .ok (.iload_n 1, 1) := by decide +kernel
theorem dX11_robotOf_122 : decode cX11_robotOf 122 = .ok (.iaload, 1) := by decide +kernel
theorem dX11_robotOf_123 : decode cX11_robotOf 123 = .ok (.aload_n 0, 1) := by decide +kernel
theorem dX11_robotOf_124 : decode cX11_robotOf 124 = .ok (.getfield 141, 3) := by decide +kernel
theorem dX11_robotOf_127 : decode cX11_robotOf 127 = .ok (.if_icmp .le 17, 3) := by decide +kernel
theorem dX11_robotOf_130 : decode cX11_robotOf 130 = .ok (.aload_n 0, 1) := by decide +kernel
theorem dX11_robotOf_131 : decode cX11_robotOf 131 = .ok (.getfield 33, 3) := by decide +kernel
theorem dX11_robotOf_134 : decode cX11_robotOf 134 = .ok (.iload_n 1, 1) := by decide +kernel
theorem dX11_robotOf_135 : decode cX11_robotOf 135 = .ok (.iaload, 1) := by decide +kernel
theorem dX11_robotOf_136 : decode cX11_robotOf 136 = .ok (.aload_n 0, 1) := by decide +kernel
theorem dX11_robotOf_137 : decode cX11_robotOf 137 = .ok (.getfield 141, 3) := by decide +kernel
theorem dX11_robotOf_140 : decode cX11_robotOf 140 = .ok (.isub, 1) := by decide +kernel
theorem dX11_robotOf_141 : decode cX11_robotOf 141 = .ok (.goto 4, 3) := by decide +kernel
theorem dX11_robotOf_144 : decode cX11_robotOf 144 = .ok (.iconst 0, 1) := by decide +kernel
theorem dX11_robotOf_145 : decode cX11_robotOf 145 = .ok (.ireturn, 1) := by decide +kernel
theorem dX11_robotOf_146 : decode cX11_robotOf 146 = .ok (.aload_n 0, 1) := by decide +kernel
theorem dX11_robotOf_147 : decode cX11_robotOf 147 = .ok (.getfield 39, 3) := by decide +kernel
theorem dX11_robotOf_150 : decode cX11_robotOf 150 = .ok (.iload_n 1, 1) := by decide +kernel
theorem dX11_robotOf_151 : decode cX11_robotOf 151 = .ok (.iaload, 1) := by decide +kernel
theorem dX11_robotOf_152 : decode cX11_robotOf 152 = .ok (.ireturn, 1) := by decide +kernel
theorem dX11_robotOf_153 : decode cX11_robotOf 153 = .ok (.aload_n 0, 1) := by decide +kernel
theorem dX11_robotOf_154 : decode cX11_robotOf 154 = .ok (.getfield 42, 3) := by decide +kernel
theorem dX11_robotOf_157 : decode cX11_robotOf 157 = .ok (.iload_n 1, 1) := by decide +kernel
theorem dX11_robotOf_158 : decode cX11_robotOf 158 = .ok (.iaload, 1) := by decide +kernel
theorem dX11_robotOf_159 : decode cX11_robotOf 159 = .ok (.ireturn, 1) := by decide +kernel
theorem dX11_robotOf_160 : decode cX11_robotOf 160 = .ok (.aload_n 0, 1) := by decide +kernel
theorem dX11_robotOf_161 : decode cX11_robotOf 161 = .ok (.getfield 45, 3) := by decide +kernel
theorem dX11_robotOf_164 : decode cX11_robotOf 164 = .ok (.iload_n 1, 1) := by decide +kernel
theorem dX11_robotOf_165 : decode cX11_robotOf 165 = .ok (.iaload, 1) := by decide +kernel
theorem dX11_robotOf_166 : decode cX11_robotOf 166 = .ok (.ireturn, 1) := by decide +kernel
theorem dX11_robotOf_167 : decode cX11_robotOf 167 = .ok (.bipush (-2), 2) := by decide +kernel
theorem dX11_robotOf_169 : decode cX11_robotOf 169 = .ok (.ireturn, 1) := by decide +kernel
theorem dX11_ahead_0 : decode cX11_ahead 0 = .ok (.iload_n 1, 1) := by decide +kernel
theorem dX11_ahead_1 : decode cX11_ahead 1 = .ok (.iconst 0, 1) := by decide +kernel
theorem dX11_ahead_2 : decode cX11_ahead 2 = .ok (.aload_n 0, 1) := by decide +kernel
theorem dX11_ahead_3 : decode cX11_ahead 3 = .ok (.getfield 144, 3) := by decide +kernel
theorem dX11_ahead_6 : decode cX11_ahead 6 = .ok (.iconst 1, 1) := by decide +kernel
theorem dX11_ahead_7 : decode cX11_ahead 7 = .ok (.isub, 1) := by decide +kernel
theorem dX11_ahead_8 : decode cX11_ahead 8 = .ok (.invokestatic 162, 3) := by decide +kernel
theorem dX11_ahead_11 : decode cX11_ahead 11 = .ok (.ifCond .eq 7, 3) := by decide +kernel
theorem dX11_ahead_14 : decode cX11_ahead 14 = .ok (.iload_n 2, 1) := by decide +kernel
theorem dX11_ahead_15 : decode cX11_ahead 15 = .ok (.ifCond .ge 5, 3) := by decide +kernel
theorem dX11_ahead_18 : decode cX11_ahead 18 = .ok (.iconst (-1), 1) := by decide +kernel
theorem dX11_ahead_19 : decode cX11_ahead 19 = .ok (.ireturn, 1) := by decide +kernel
theorem dX11_ahead_20 : decode cX11_ahead 20 = .ok (.iload_n 2, 1) := by decide +kernel
theorem dX11_ahead_21 : decode cX11_ahead 21 = .ok (.sipush 5200, 3) := by decide +kernel
theorem dX11_ahead_24 : decode cX11_ahead 24 = .ok (.if_icmp .le 11, 3) := by decide +kernel
theorem dX11_ahead_27 : decode cX11_ahead 27 = .ok (.aload_n 0, 1) := by decide +kernel
theorem dX11_ahead_28 : decode cX11_ahead 28 = .ok (.iload_n 1, 1) := by decide +kernel
theorem dX11_ahead_29 : decode cX11_ahead 29 = .ok (.invokevirtual 182, 3) := by decide +kernel
theorem dX11_ahead_32 : decode cX11_ahead 32 = .ok (.goto 14, 3) := by decide +kernel
theorem dX11_ahead_35 : decode cX11_ahead 35 = .ok (.aload_n 0, 1) := by decide +kernel
theorem dX11_ahead_36 : decode cX11_ahead 36 = .ok (.iload_n 1, 1) := by decide +kernel
theorem dX11_ahead_37 : decode cX11_ahead 37 = .ok (.aload_n 0, 1) := by decide +kernel
theorem dX11_ahead_38 : decode cX11_ahead 38 = .ok (.getfield 141, 3) := by decide +kernel
theorem dX11_ahead_41 : decode cX11_ahead 41 = .ok (.iload_n 2, 1) := by decide +kernel
theorem dX11_ahead_42 : decode cX11_ahead 42 = .ok (.iadd, 1) := by decide +kernel
theorem dX11_ahead_43 : decode cX11_ahead 43 = .ok (.invokevirtual 166, 3) := by decide +kernel
theorem dX11_ahead_46 : decode cX11_ahead 46 = .ok (.ireturn, 1) := by decide +kernel
theorem dX11_was_0 : decode cX11_was 0 = .ok (.iload_n 1, 1) := by decide +kernel
theorem dX11_was_1 : decode cX11_was 1 = .ok (.iconst 0, 1) := by decide +kernel
theorem dX11_was_2 : decode cX11_was 2 = .ok (.aload_n 0, 1) := by decide +kernel
theorem dX11_was_3 : decode cX11_was 3 = .ok (.getfield 144, 3) := by decide +kernel
theorem dX11_was_6 : decode cX11_was 6 = .ok (.iconst 1, 1) := by decide +kernel
theorem dX11_was_7 : decode cX11_was 7 = .ok (.isub, 1) := by decide +kernel
theorem dX11_was_8 : decode cX11_was 8 = .ok (.invokestatic 162, 3) := by decide +kernel
theorem dX11_was_11 : decode cX11_was 11 = .ok (.ifCond .eq 24, 3) := by decide +kernel
theorem dX11_was_14 : decode cX11_was 14 = .ok (.iload_n 2, 1) := by decide +kernel
theorem dX11_was_15 : decode cX11_was 15 = .ok (.iconst 0, 1) := by decide +kernel
theorem dX11_was_16 : decode cX11_was 16 = .ok (.aload_n 0, 1) := by decide +kernel
theorem dX11_was_17 : decode cX11_was 17 = .ok (.getfield 141, 3) := by decide +kernel
theorem dX11_was_20 : decode cX11_was 20 = .ok (.invokestatic 162, 3) := by decide +kernel
theorem dX11_was_23 : decode cX11_was 23 = .ok (.ifCond .eq 12, 3) := by decide +kernel
theorem dX11_was_26 : decode cX11_was 26 = .ok (.aload_n 0, 1) := by decide +kernel
theorem dX11_was_27 : decode cX11_was 27 = .ok (.iload_n 1, 1) := by decide +kernel
theorem dX11_was_28 : decode cX11_was 28 = .ok (.iload_n 2, 1) := by decide +kernel
theorem dX11_was_29 : decode cX11_was 29 = .ok (.invokevirtual 166, 3) := by decide +kernel
theorem dX11_was_32 : decode cX11_was 32 = .ok (.goto 4, 3) := by decide +kernel
theorem dX11_was_35 : decode cX11_was 35 = .ok (.iconst (-1), 1) := by decide +kernel
theorem dX11_was_36 : decode cX11_was 36 = .ok (.ireturn, 1) := by decide +kernel
theorem dX11_task_0 : decode cX11_task 0 = .ok (.iload_n 1, 1) := by decide +kernel
theorem dX11_task_1 : decode cX11_task 1 = .ok (.iconst 0, 1) := by decide +kernel
theorem dX11_task_2 : decode cX11_task 2 = .ok (.aload_n 0, 1) := by decide +kernel
theorem dX11_task_3 : decode cX11_task 3 = .ok (.getfield 150, 3) := by decide +kernel
theorem dX11_task_6 : decode cX11_task 6 = .ok (.iconst 1, 1) := by decide +kernel
theorem dX11_task_7 : decode cX11_task 7 = .ok (.isub, 1) := by decide +kernel
theorem dX11_task_8 : decode cX11_task 8 = .ok (.invokestatic 162, 3) := by decide +kernel
theorem dX11_task_11 : decode cX11_task 11 = .ok (.ifCond .ne 5, 3) := by decide +kernel
theorem dX11_task_14 : decode cX11_task 14 = .ok (.iconst (-1), 1) := by decide +kernel
theorem dX11_task_15 : decode cX11_task 15 = .ok (.ireturn, 1) := by decide +kernel
theorem dX11_task_16 : decode cX11_task 16 = .ok (.iload_n 2, 1) := by decide +kernel
theorem dX11_task_17 : decode cX11_task 17 = .ok (.tableswitch 119 0 8 #[51, 58, 65, 77, 84, 91, 98, 105, 112], 51) := by decide +kernel
theorem dX11_task_68 : decode cX11_task 68 = .ok (.aload_n 0, 1) := by decide +kernel
theorem dX11_task_69 : decode cX11_task 69 = .ok (.getfield 63, 3) := by decide +kernel
theorem dX11_task_72 : decode cX11_task 72 = .ok (.iload_n 1, 1) := by decide +kernel
theorem dX11_task_73 : decode cX11_task 73 = .ok (.iaload, 1) := by decide +kernel
theorem dX11_task_74 : decode cX11_task 74 = .ok (.ireturn, 1) := by decide +kernel
theorem dX11_task_75 : decode cX11_task 75 = .ok (.aload_n 0, 1) := by decide +kernel
theorem dX11_task_76 : decode cX11_task 76 = .ok (.getfield 66, 3) := by decide +kernel
theorem dX11_task_79 : decode cX11_task 79 = .ok (.iload_n 1, 1) := by decide +kernel
theorem dX11_task_80 : decode cX11_task 80 = .ok (.iaload, 1) := by decide +kernel
theorem dX11_task_81 : decode cX11_task 81 = .ok (.ireturn, 1) := by decide +kernel
theorem dX11_task_82 : decode cX11_task 82 = .ok (.aload_n 0, 1) := by decide +kernel
theorem dX11_task_83 : decode cX11_task 83 = .ok (.getfield 48, 3) := by decide +kernel
theorem dX11_task_86 : decode cX11_task 86 = .ok (.aload_n 0, 1) := by decide +kernel
theorem dX11_task_87 : decode cX11_task 87 = .ok (.getfield 63, 3) := by decide +kernel
theorem dX11_task_90 : decode cX11_task 90 = .ok (.iload_n 1, 1) := by decide +kernel
theorem dX11_task_91 : decode cX11_task 91 = .ok (.iaload, 1) := by decide +kernel
theorem dX11_task_92 : decode cX11_task 92 = .ok (.iaload, 1) := by decide +kernel
theorem dX11_task_93 : decode cX11_task 93 = .ok (.ireturn, 1) := by decide +kernel
theorem dX11_task_94 : decode cX11_task 94 = .ok (.aload_n 0, 1) := by decide +kernel
theorem dX11_task_95 : decode cX11_task 95 = .ok (.getfield 69, 3) := by decide +kernel
theorem dX11_task_98 : decode cX11_task 98 = .ok (.iload_n 1, 1) := by decide +kernel
theorem dX11_task_99 : decode cX11_task 99 = .ok (.iaload, 1) := by decide +kernel
theorem dX11_task_100 : decode cX11_task 100 = .ok (.ireturn, 1) := by decide +kernel
theorem dX11_task_101 : decode cX11_task 101 = .ok (.aload_n 0, 1) := by decide +kernel
theorem dX11_task_102 : decode cX11_task 102 = .ok (.getfield 72, 3) := by decide +kernel
theorem dX11_task_105 : decode cX11_task 105 = .ok (.iload_n 1, 1) := by decide +kernel
theorem dX11_task_106 : decode cX11_task 106 = .ok (.iaload, 1) := by decide +kernel
theorem dX11_task_107 : decode cX11_task 107 = .ok (.ireturn, 1) := by decide +kernel
theorem dX11_task_108 : decode cX11_task 108 = .ok (.aload_n 0, 1) := by decide +kernel
theorem dX11_task_109 : decode cX11_task 109 = .ok (.getfield 75, 3) := by decide +kernel
theorem dX11_task_112 : decode cX11_task 112 = .ok (.iload_n 1, 1) := by decide +kernel
theorem dX11_task_113 : decode cX11_task 113 = .ok (.iaload, 1) := by decide +kernel
theorem dX11_task_114 : decode cX11_task 114 = .ok (.ireturn, 1) := by decide +kernel
theorem dX11_task_115 : decode cX11_task 115 = .ok (.aload_n 0, 1) := by decide +kernel
theorem dX11_task_116 : decode cX11_task 116 = .ok (.getfield 78, 3) := by decide +kernel
theorem dX11_task_119 : decode cX11_task 119 = .ok (.iload_n 1, 1) := by decide +kernel
theorem dX11_task_120 : decode cX11_task 120 = .ok (.iaload, 1) := by decide +kernel
theorem dX11_task_121 : decode cX11_task 121 = .ok (.ireturn, 1) := by decide +kernel
theorem dX11_task_122 : decode cX11_task 122 = .ok (.aload_n 0, 1) := by decide +kernel
theorem dX11_task_123 : decode cX11_task 123 = .ok (.getfield 81, 3) := by decide +kernel
theorem dX11_task_126 : decode cX11_task 126 = .ok (.iload_n 1, 1) := by decide +kernel
theorem dX11_task_127 : decode cX11_task 127 = .ok (.iaload, 1) := by decide +kernel
theorem dX11_task_128 : decode cX11_task 128 = .ok (.ireturn, 1) := by decide +kernel
theorem dX11_task_129 : decode cX11_task 129 = .ok (.aload_n 0, 1) := by decide +kernel
theorem dX11_task_130 : decode cX11_task 130 = .ok (.getfield 84, 3) := by decide +kernel
theorem dX11_task_133 : decode cX11_task 133 = .ok (.iload_n 1, 1) := by decide +kernel
theorem dX11_task_134 : decode cX11_task 134 = .ok (.iaload, 1) := by decide +kernel
theorem dX11_task_135 : decode cX11_task 135 = .ok (.ireturn, 1) := by decide +kernel
theorem dX11_task_136 : decode cX11_task 136 = .ok (.bipush (-2), 2) := by decide +kernel
theorem dX11_task_138 : decode cX11_task 138 = .ok (.ireturn, 1) := by decide +kernel
theorem dX11_orderOf_0 : decode cX11_orderOf 0 = .ok (.iload_n 1, 1) := by decide +kernel
theorem dX11_orderOf_1 : decode cX11_orderOf 1 = .ok (.iconst 0, 1) := by decide +kernel
theorem dX11_orderOf_2 : decode cX11_orderOf 2 = .ok (.aload_n 0, 1) := by decide +kernel
theorem dX11_orderOf_3 : decode cX11_orderOf 3 = .ok (.getfield 147, 3) := by decide +kernel
theorem dX11_orderOf_6 : decode cX11_orderOf 6 = .ok (.iconst 1, 1) := by decide +kernel
theorem dX11_orderOf_7 : decode cX11_orderOf 7 = .ok (.isub, 1) := by decide +kernel
theorem dX11_orderOf_8 : decode cX11_orderOf 8 = .ok (.invokestatic 162, 3) := by decide +kernel
theorem dX11_orderOf_11 : decode cX11_orderOf 11 = .ok (.ifCond .ne 5, 3) := by decide +kernel
theorem dX11_orderOf_14 : decode cX11_orderOf 14 = .ok (.iconst (-1), 1) := by decide +kernel
theorem dX11_orderOf_15 : decode cX11_orderOf 15 = .ok (.ireturn, 1) := by decide +kernel
theorem dX11_orderOf_16 : decode cX11_orderOf 16 = .ok (.iload_n 2, 1) := by decide +kernel
theorem dX11_orderOf_17 : decode cX11_orderOf 17 = .ok (.tableswitch 88 0 5 #[39, 46, 53, 60, 74, 81], 39) := by decide +kernel
theorem dX11_orderOf_56 : decode cX11_orderOf 56 = .ok (.aload_n 0, 1) := by decide +kernel
theorem dX11_orderOf_57 : decode cX11_orderOf 57 = .ok (.getfield 48, 3) := by decide +kernel
theorem dX11_orderOf_60 : decode cX11_orderOf 60 = .ok (.iload_n 1, 1) := by decide +kernel
theorem dX11_orderOf_61 : decode cX11_orderOf 61 = .ok (.iaload, 1) := by decide +kernel
theorem dX11_orderOf_62 : decode cX11_orderOf 62 = .ok (.ireturn, 1) := by decide +kernel
theorem dX11_orderOf_63 : decode cX11_orderOf 63 = .ok (.aload_n 0, 1) := by decide +kernel
theorem dX11_orderOf_64 : decode cX11_orderOf 64 = .ok (.getfield 51, 3) := by decide +kernel
theorem dX11_orderOf_67 : decode cX11_orderOf 67 = .ok (.iload_n 1, 1) := by decide +kernel
theorem dX11_orderOf_68 : decode cX11_orderOf 68 = .ok (.iaload, 1) := by decide +kernel
theorem dX11_orderOf_69 : decode cX11_orderOf 69 = .ok (.ireturn, 1) := by decide +kernel
theorem dX11_orderOf_70 : decode cX11_orderOf 70 = .ok (.aload_n 0, 1) := by decide +kernel
theorem dX11_orderOf_71 : decode cX11_orderOf 71 = .ok (.getfield 54, 3) := by decide +kernel
theorem dX11_orderOf_74 : decode cX11_orderOf 74 = .ok (.iload_n 1, 1) := by decide +kernel
theorem dX11_orderOf_75 : decode cX11_orderOf 75 = .ok (.iaload, 1) := by decide +kernel
theorem dX11_orderOf_76 : decode cX11_orderOf 76 = .ok (.ireturn, 1) := by decide +kernel
theorem dX11_orderOf_77 : decode cX11_orderOf 77 = .ok (.aload_n 0, 1) := by decide +kernel
theorem dX11_orderOf_78 : decode cX11_orderOf 78 = .ok (.iload_n 1, 1) := by decide +kernel
theorem dX11_orderOf_79 : decode cX11_orderOf 79 = .ok (.invokevirtual 176, 3) := by decide +kernel
theorem dX11_orderOf_82 : decode cX11_orderOf 82 = .ok (.ifCond .eq 7, 3) := by decide +kernel
theorem dX11_orderOf_85 : decode cX11_orderOf 85 = .ok (.iconst 1, 1) := by decide +kernel
theorem dX11_orderOf_86 : decode cX11_orderOf 86 = .ok (.goto 4, 3) := by decide +kernel
theorem dX11_orderOf_89 : decode cX11_orderOf 89 = .ok (.iconst 0, 1) := by decide +kernel
theorem dX11_orderOf_90 : decode cX11_orderOf 90 = .ok (.ireturn, 1) := by decide +kernel
theorem dX11_orderOf_91 : decode cX11_orderOf 91 = .ok (.aload_n 0, 1) := by decide +kernel
theorem dX11_orderOf_92 : decode cX11_orderOf 92 = .ok (.getfield 57, 3) := by decide +kernel
theorem dX11_orderOf_95 : decode cX11_orderOf 95 = .ok (.iload_n 1, 1) := by decide +kernel
theorem dX11_orderOf_96 : decode cX11_orderOf 96 = .ok (.iaload, 1) := by decide +kernel
theorem dX11_orderOf_97 : decode cX11_orderOf 97 = .ok (.ireturn, 1) := by decide +kernel
theorem dX11_orderOf_98 : decode cX11_orderOf 98 = .ok (.aload_n 0, 1) := by decide +kernel
theorem dX11_orderOf_99 : decode cX11_orderOf 99 = .ok (.getfield 60, 3) := by decide +kernel
theorem dX11_orderOf_102 : decode cX11_orderOf 102 = .ok (.iload_n 1, 1) := by decide +kernel
theorem dX11_orderOf_103 : decode cX11_orderOf 103 = .ok (.iaload, 1) := by decide +kernel
theorem dX11_orderOf_104 : decode cX11_orderOf 104 = .ok (.ireturn, 1) := by decide +kernel
theorem dX11_orderOf_105 : decode cX11_orderOf 105 = .ok (.bipush (-2), 2) := by decide +kernel
theorem dX11_orderOf_107 : decode cX11_orderOf 107 = .ok (.ireturn, 1) := by decide +kernel
theorem dX11_pending_0 : decode cX11_pending 0 = .ok (.iconst 0, 1) := by decide +kernel
theorem dX11_pending_1 : decode cX11_pending 1 = .ok (.istore_n 1, 1) := by decide +kernel
theorem dX11_pending_2 : decode cX11_pending 2 = .ok (.iconst 0, 1) := by decide +kernel
theorem dX11_pending_3 : decode cX11_pending 3 = .ok (.istore_n 2, 1) := by decide +kernel
theorem dX11_pending_4 : decode cX11_pending 4 = .ok (.iload_n 2, 1) := by decide +kernel
theorem dX11_pending_5 : decode cX11_pending 5 = .ok (.aload_n 0, 1) := by decide +kernel
theorem dX11_pending_6 : decode cX11_pending 6 = .ok (.getfield 150, 3) := by decide +kernel
theorem dX11_pending_9 : decode cX11_pending 9 = .ok (.if_icmp .ge 26, 3) := by decide +kernel
theorem dX11_pending_12 : decode cX11_pending 12 = .ok (.aload_n 0, 1) := by decide +kernel
theorem dX11_pending_13 : decode cX11_pending 13 = .ok (.getfield 69, 3) := by decide +kernel
theorem dX11_pending_16 : decode cX11_pending 16 = .ok (.iload_n 2, 1) := by decide +kernel
theorem dX11_pending_17 : decode cX11_pending 17 = .ok (.iaload, 1) := by decide +kernel
theorem dX11_pending_18 : decode cX11_pending 18 = .ok (.ifCond .ne 9, 3) := by decide +kernel
theorem dX11_pending_21 : decode cX11_pending 21 = .ok (.iload_n 1, 1) := by decide +kernel
theorem dX11_pending_22 : decode cX11_pending 22 = .ok (.iconst 1, 1) := by decide +kernel
theorem dX11_pending_23 : decode cX11_pending 23 = .ok (.iadd, 1) := by decide +kernel
theorem dX11_pending_24 : decode cX11_pending 24 = .ok (.goto 4, 3) := by decide +kernel
theorem dX11_pending_27 : decode cX11_pending 27 = .ok (.iload_n 1, 1) := by decide +kernel
theorem dX11_pending_28 : decode cX11_pending 28 = .ok (.istore_n 1, 1) := by decide +kernel
theorem dX11_pending_29 : decode cX11_pending 29 = .ok (.iinc 2 1, 3) := by decide +kernel
theorem dX11_pending_32 : decode cX11_pending 32 = .ok (.goto (-28), 3) := by decide +kernel
theorem dX11_pending_35 : decode cX11_pending 35 = .ok (.iload_n 1, 1) := by decide +kernel
theorem dX11_pending_36 : decode cX11_pending 36 = .ok (.ireturn, 1) := by decide +kernel
theorem dX11_allMoves_0 : decode cX11_allMoves 0 = .ok (.iconst 0, 1) := by decide +kernel
theorem dX11_allMoves_1 : decode cX11_allMoves 1 = .ok (.istore_n 1, 1) := by decide +kernel
theorem dX11_allMoves_2 : decode cX11_allMoves 2 = .ok (.iconst 0, 1) := by decide +kernel
theorem dX11_allMoves_3 : decode cX11_allMoves 3 = .ok (.istore_n 2, 1) := by decide +kernel
theorem dX11_allMoves_4 : decode cX11_allMoves 4 = .ok (.iload_n 2, 1) := by decide +kernel
theorem dX11_allMoves_5 : decode cX11_allMoves 5 = .ok (.aload_n 0, 1) := by decide +kernel
theorem dX11_allMoves_6 : decode cX11_allMoves 6 = .ok (.getfield 144, 3) := by decide +kernel
theorem dX11_allMoves_9 : decode cX11_allMoves 9 = .ok (.if_icmp .ge 18, 3) := by decide +kernel
theorem dX11_allMoves_12 : decode cX11_allMoves 12 = .ok (.iload_n 1, 1) := by decide +kernel
theorem dX11_allMoves_13 : decode cX11_allMoves 13 = .ok (.aload_n 0, 1) := by decide +kernel
theorem dX11_allMoves_14 : decode cX11_allMoves 14 = .ok (.getfield 39, 3) := by decide +kernel
theorem dX11_allMoves_17 : decode cX11_allMoves 17 = .ok (.iload_n 2, 1) := by decide +kernel
theorem dX11_allMoves_18 : decode cX11_allMoves 18 = .ok (.iaload, 1) := by decide +kernel
theorem dX11_allMoves_19 : decode cX11_allMoves 19 = .ok (.iadd, 1) := by decide +kernel
theorem dX11_allMoves_20 : decode cX11_allMoves 20 = .ok (.istore_n 1, 1) := by decide +kernel
theorem dX11_allMoves_21 : decode cX11_allMoves 21 = .ok (.iinc 2 1, 3) := by decide +kernel
theorem dX11_allMoves_24 : decode cX11_allMoves 24 = .ok (.goto (-20), 3) := by decide +kernel
theorem dX11_allMoves_27 : decode cX11_allMoves 27 = .ok (.iload_n 1, 1) := by decide +kernel
theorem dX11_allMoves_28 : decode cX11_allMoves 28 = .ok (.ireturn, 1) := by decide +kernel
theorem dX11_count_0 : decode cX11_count 0 = .ok (.iload_n 1, 1) := by decide +kernel
theorem dX11_count_1 : decode cX11_count 1 = .ok (.tableswitch 114 0 10 #[59, 64, 69, 74, 79, 84, 89, 94, 99, 104, 109], 59) := by decide +kernel
theorem dX11_count_60 : decode cX11_count 60 = .ok (.aload_n 0, 1) := by decide +kernel
theorem dX11_count_61 : decode cX11_count 61 = .ok (.getfield 132, 3) := by decide +kernel
theorem dX11_count_64 : decode cX11_count 64 = .ok (.ireturn, 1) := by decide +kernel
theorem dX11_count_65 : decode cX11_count 65 = .ok (.aload_n 0, 1) := by decide +kernel
theorem dX11_count_66 : decode cX11_count 66 = .ok (.getfield 144, 3) := by decide +kernel
theorem dX11_count_69 : decode cX11_count 69 = .ok (.ireturn, 1) := by decide +kernel
theorem dX11_count_70 : decode cX11_count 70 = .ok (.aload_n 0, 1) := by decide +kernel
theorem dX11_count_71 : decode cX11_count 71 = .ok (.getfield 147, 3) := by decide +kernel
theorem dX11_count_74 : decode cX11_count 74 = .ok (.ireturn, 1) := by decide +kernel
theorem dX11_count_75 : decode cX11_count 75 = .ok (.aload_n 0, 1) := by decide +kernel
theorem dX11_count_76 : decode cX11_count 76 = .ok (.invokevirtual 240, 3) := by decide +kernel
theorem dX11_count_79 : decode cX11_count 79 = .ok (.ireturn, 1) := by decide +kernel
theorem dX11_count_80 : decode cX11_count 80 = .ok (.aload_n 0, 1) := by decide +kernel
theorem dX11_count_81 : decode cX11_count 81 = .ok (.getfield 150, 3) := by decide +kernel
theorem dX11_count_84 : decode cX11_count 84 = .ok (.ireturn, 1) := by decide +kernel
theorem dX11_count_85 : decode cX11_count 85 = .ok (.aload_n 0, 1) := by decide +kernel
theorem dX11_count_86 : decode cX11_count 86 = .ok (.invokevirtual 243, 3) := by decide +kernel
theorem dX11_count_89 : decode cX11_count 89 = .ok (.ireturn, 1) := by decide +kernel
theorem dX11_count_90 : decode cX11_count 90 = .ok (.aload_n 0, 1) := by decide +kernel
theorem dX11_count_91 : decode cX11_count 91 = .ok (.getfield 141, 3) := by decide +kernel
theorem dX11_count_94 : decode cX11_count 94 = .ok (.ireturn, 1) := by decide +kernel
theorem dX11_count_95 : decode cX11_count 95 = .ok (.aload_n 0, 1) := by decide +kernel
theorem dX11_count_96 : decode cX11_count 96 = .ok (.getfield 153, 3) := by decide +kernel
theorem dX11_count_99 : decode cX11_count 99 = .ok (.ireturn, 1) := by decide +kernel
theorem dX11_count_100 : decode cX11_count 100 = .ok (.aload_n 0, 1) := by decide +kernel
theorem dX11_count_101 : decode cX11_count 101 = .ok (.getfield 156, 3) := by decide +kernel
theorem dX11_count_104 : decode cX11_count 104 = .ok (.ireturn, 1) := by decide +kernel
theorem dX11_count_105 : decode cX11_count 105 = .ok (.aload_n 0, 1) := by decide +kernel
theorem dX11_count_106 : decode cX11_count 106 = .ok (.getfield 159, 3) := by decide +kernel
theorem dX11_count_109 : decode cX11_count 109 = .ok (.ireturn, 1) := by decide +kernel
theorem dX11_count_110 : decode cX11_count 110 = .ok (.aload_n 0, 1) := by decide +kernel
theorem dX11_count_111 : decode cX11_count 111 = .ok (.invokevirtual 246, 3) := by decide +kernel
theorem dX11_count_114 : decode cX11_count 114 = .ok (.ireturn, 1) := by decide +kernel
theorem dX11_count_115 : decode cX11_count 115 = .ok (.bipush (-2), 2) := by decide +kernel
theorem dX11_count_117 : decode cX11_count 117 = .ok (.ireturn, 1) := by decide +kernel
end
section
theorem dJ9_max_7cf53_0 : decode cJ9_max_7cf53 0 = .ok (.iload_n 0, 1) := by decide +kernel
theorem dJ9_max_7cf53_1 : decode cJ9_max_7cf53 1 = .ok (.iload_n 1, 1) := by decide +kernel
theorem dJ9_max_7cf53_2 : decode cJ9_max_7cf53 2 = .ok (.if_icmp .lt 7, 3) := by decide +kernel
theorem dJ9_max_7cf53_5 : decode cJ9_max_7cf53 5 = .ok (.iload_n 0, 1) := by decide +kernel
theorem dJ9_max_7cf53_6 : decode cJ9_max_7cf53 6 = .ok (.goto 4, 3) := by decide +kernel
theorem dJ9_max_7cf53_9 : decode cJ9_max_7cf53 9 = .ok (.iload_n 1, 1) := by decide +kernel
theorem dJ9_max_7cf53_10 : decode cJ9_max_7cf53 10 = .ok (.ireturn, 1) := by decide +kernel
theorem dJ9_min_7cf53_0 : decode cJ9_min_7cf53 0 = .ok (.iload_n 0, 1) := by decide +kernel
theorem dJ9_min_7cf53_1 : decode cJ9_min_7cf53 1 = .ok (.iload_n 1, 1) := by decide +kernel
theorem dJ9_min_7cf53_2 : decode cJ9_min_7cf53 2 = .ok (.if_icmp .gt 7, 3) := by decide +kernel
theorem dJ9_min_7cf53_5 : decode cJ9_min_7cf53 5 = .ok (.iload_n 0, 1) := by decide +kernel
theorem dJ9_min_7cf53_6 : decode cJ9_min_7cf53 6 = .ok (.goto 4, 3) := by decide +kernel
theorem dJ9_min_7cf53_9 : decode cJ9_min_7cf53 9 = .ok (.iload_n 1, 1) := by decide +kernel
theorem dJ9_min_7cf53_10 : decode cJ9_min_7cf53 10 = .ok (.ireturn, 1) := by decide +kernel
end
section
theorem dJ7_fill_d0a16_0 : decode cJ7_fill_d0a16 0 = .ok (.iconst 0, 1) := by decide +kernel
theorem dJ7_fill_d0a16_1 : decode cJ7_fill_d0a16 1 = .ok (.istore_n 3, 1) := by decide +kernel
theorem dJ7_fill_d0a16_2 : decode cJ7_fill_d0a16 2 = .ok (.aload_n 0, 1) := by decide +kernel
theorem dJ7_fill_d0a16_3 : decode cJ7_fill_d0a16 3 = .ok (.arraylength, 1) := by decide +kernel
theorem dJ7_fill_d0a16_4 : decode cJ7_fill_d0a16 4 = .ok (.istore 4, 2) := by decide +kernel
theorem dJ7_fill_d0a16_6 : decode cJ7_fill_d0a16 6 = .ok (.iload_n 3, 1) := by decide +kernel
theorem dJ7_fill_d0a16_7 : decode cJ7_fill_d0a16 7 = .ok (.iload 4, 2) := by decide +kernel
theorem dJ7_fill_d0a16_9 : decode cJ7_fill_d0a16 9 = .ok (.if_icmp .ge 13, 3) := by decide +kernel
theorem dJ7_fill_d0a16_12 : decode cJ7_fill_d0a16 12 = .ok (.aload_n 0, 1) := by decide +kernel
theorem dJ7_fill_d0a16_13 : decode cJ7_fill_d0a16 13 = .ok (.iload_n 3, 1) := by decide +kernel
theorem dJ7_fill_d0a16_14 : decode cJ7_fill_d0a16 14 = .ok (.lload_n 1, 1) := by decide +kernel
theorem dJ7_fill_d0a16_15 : decode cJ7_fill_d0a16 15 = .ok (.lastore, 1) := by decide +kernel
theorem dJ7_fill_d0a16_16 : decode cJ7_fill_d0a16 16 = .ok (.iinc 3 1, 3) := by decide +kernel
theorem dJ7_fill_d0a16_19 : decode cJ7_fill_d0a16 19 = .ok (.goto (-13), 3) := by decide +kernel
theorem dJ7_fill_d0a16_22 : decode cJ7_fill_d0a16 22 = .ok (.return_, 1) := by decide +kernel
theorem dJ7_fill_53178_0 : decode cJ7_fill_53178 0 = .ok (.iconst 0, 1) := by decide +kernel
theorem dJ7_fill_53178_1 : decode cJ7_fill_53178 1 = .ok (.istore_n 2, 1) := by decide +kernel
theorem dJ7_fill_53178_2 : decode cJ7_fill_53178 2 = .ok (.aload_n 0, 1) := by decide +kernel
theorem dJ7_fill_53178_3 : decode cJ7_fill_53178 3 = .ok (.arraylength, 1) := by decide +kernel
theorem dJ7_fill_53178_4 : decode cJ7_fill_53178 4 = .ok (.istore_n 3, 1) := by decide +kernel
theorem dJ7_fill_53178_5 : decode cJ7_fill_53178 5 = .ok (.iload_n 2, 1) := by decide +kernel
theorem dJ7_fill_53178_6 : decode cJ7_fill_53178 6 = .ok (.iload_n 3, 1) := by decide +kernel
theorem dJ7_fill_53178_7 : decode cJ7_fill_53178 7 = .ok (.if_icmp .ge 13, 3) := by decide +kernel
theorem dJ7_fill_53178_10 : decode cJ7_fill_53178 10 = .ok (.aload_n 0, 1) := by decide +kernel
theorem dJ7_fill_53178_11 : decode cJ7_fill_53178 11 = .ok (.iload_n 2, 1) := by decide +kernel
theorem dJ7_fill_53178_12 : decode cJ7_fill_53178 12 = .ok (.iload_n 1, 1) := by decide +kernel
theorem dJ7_fill_53178_13 : decode cJ7_fill_53178 13 = .ok (.iastore, 1) := by decide +kernel
theorem dJ7_fill_53178_14 : decode cJ7_fill_53178 14 = .ok (.iinc 2 1, 3) := by decide +kernel
theorem dJ7_fill_53178_17 : decode cJ7_fill_53178 17 = .ok (.goto (-12), 3) := by decide +kernel
theorem dJ7_fill_53178_20 : decode cJ7_fill_53178 20 = .ok (.return_, 1) := by decide +kernel
end
section
theorem dL_law_0 : decode cL_law 0 = .ok (.new 7, 3) := by decide +kernel
theorem dL_law_3 : decode cL_law 3 = .ok (.dup, 1) := by decide +kernel
theorem dL_law_4 : decode cL_law 4 = .ok (.invokespecial 9, 3) := by decide +kernel
theorem dL_law_7 : decode cL_law 7 = .ok (.astore_n 1, 1) := by decide +kernel
theorem dL_law_8 : decode cL_law 8 = .ok (.new 10, 3) := by decide +kernel
theorem dL_law_11 : decode cL_law 11 = .ok (.dup, 1) := by decide +kernel
theorem dL_law_12 : decode cL_law 12 = .ok (.invokespecial 12, 3) := by decide +kernel
theorem dL_law_15 : decode cL_law 15 = .ok (.astore_n 2, 1) := by decide +kernel
theorem dL_law_16 : decode cL_law 16 = .ok (.iconst 0, 1) := by decide +kernel
theorem dL_law_17 : decode cL_law 17 = .ok (.istore_n 3, 1) := by decide +kernel
theorem dL_law_18 : decode cL_law 18 = .ok (.iload_n 3, 1) := by decide +kernel
theorem dL_law_19 : decode cL_law 19 = .ok (.aload_n 0, 1) := by decide +kernel
theorem dL_law_20 : decode cL_law 20 = .ok (.arraylength, 1) := by decide +kernel
theorem dL_law_21 : decode cL_law 21 = .ok (.iconst 5, 1) := by decide +kernel
theorem dL_law_22 : decode cL_law 22 = .ok (.isub, 1) := by decide +kernel
theorem dL_law_23 : decode cL_law 23 = .ok (.if_icmp .gt 580, 3) := by decide +kernel
theorem dL_law_26 : decode cL_law 26 = .ok (.aload_n 0, 1) := by decide +kernel
theorem dL_law_27 : decode cL_law 27 = .ok (.iload_n 3, 1) := by decide +kernel
theorem dL_law_28 : decode cL_law 28 = .ok (.iaload, 1) := by decide +kernel
theorem dL_law_29 : decode cL_law 29 = .ok (.bipush 31, 2) := by decide +kernel
theorem dL_law_31 : decode cL_law 31 = .ok (.iand, 1) := by decide +kernel
theorem dL_law_32 : decode cL_law 32 = .ok (.tableswitch 565 0 16 #[84, 137, 150, 163, 176, 199, 232, 255, 308, 331, 354, 377, 410, 443, 476, 509, 542], 84) := by decide +kernel
theorem dL_law_116 : decode cL_law 116 = .ok (.aload_n 1, 1) := by decide +kernel
theorem dL_law_117 : decode cL_law 117 = .ok (.aload_n 0, 1) := by decide +kernel
theorem dL_law_118 : decode cL_law 118 = .ok (.iload_n 3, 1) := by decide +kernel
theorem dL_law_119 : decode cL_law 119 = .ok (.iconst 1, 1) := by decide +kernel
theorem dL_law_120 : decode cL_law 120 = .ok (.iadd, 1) := by decide +kernel
theorem dL_law_121 : decode cL_law 121 = .ok (.iaload, 1) := by decide +kernel
theorem dL_law_122 : decode cL_law 122 = .ok (.i2l, 1) := by decide +kernel
theorem dL_law_123 : decode cL_law 123 = .ok (.bipush 32, 2) := by decide +kernel
theorem dL_law_125 : decode cL_law 125 = .ok (.lshl, 1) := by decide +kernel
theorem dL_law_126 : decode cL_law 126 = .ok (.aload_n 0, 1) := by decide +kernel
theorem dL_law_127 : decode cL_law 127 = .ok (.iload_n 3, 1) := by decide +kernel
theorem dL_law_128 : decode cL_law 128 = .ok (.iconst 2, 1) := by decide +kernel
theorem dL_law_129 : decode cL_law 129 = .ok (.iadd, 1) := by decide +kernel
theorem dL_law_130 : decode cL_law 130 = .ok (.iaload, 1) := by decide +kernel
theorem dL_law_131 : decode cL_law 131 = .ok (.i2l, 1) := by decide +kernel
theorem dL_law_132 : decode cL_law 132 = .ok (.ldc2_w 13, 3) := by decide +kernel
theorem dL_law_135 : decode cL_law 135 = .ok (.land, 1) := by decide +kernel
theorem dL_law_136 : decode cL_law 136 = .ok (.lor, 1) := by decide +kernel
theorem dL_law_137 : decode cL_law 137 = .ok (.invokevirtual 15, 3) := by decide +kernel
theorem dL_law_140 : decode cL_law 140 = .ok (.aload_n 2, 1) := by decide +kernel
theorem dL_law_141 : decode cL_law 141 = .ok (.aload_n 0, 1) := by decide +kernel
theorem dL_law_142 : decode cL_law 142 = .ok (.iload_n 3, 1) := by decide +kernel
theorem dL_law_143 : decode cL_law 143 = .ok (.iconst 1, 1) := by decide +kernel
theorem dL_law_144 : decode cL_law 144 = .ok (.iadd, 1) := by decide +kernel
theorem dL_law_145 : decode cL_law 145 = .ok (.iaload, 1) := by decide +kernel
theorem dL_law_146 : decode cL_law 146 = .ok (.i2l, 1) := by decide +kernel
theorem dL_law_147 : decode cL_law 147 = .ok (.bipush 32, 2) := by decide +kernel
theorem dL_law_149 : decode cL_law 149 = .ok (.lshl, 1) := by decide +kernel
theorem dL_law_150 : decode cL_law 150 = .ok (.aload_n 0, 1) := by decide +kernel
theorem dL_law_151 : decode cL_law 151 = .ok (.iload_n 3, 1) := by decide +kernel
theorem dL_law_152 : decode cL_law 152 = .ok (.iconst 2, 1) := by decide +kernel
theorem dL_law_153 : decode cL_law 153 = .ok (.iadd, 1) := by decide +kernel
theorem dL_law_154 : decode cL_law 154 = .ok (.iaload, 1) := by decide +kernel
theorem dL_law_155 : decode cL_law 155 = .ok (.i2l, 1) := by decide +kernel
theorem dL_law_156 : decode cL_law 156 = .ok (.ldc2_w 13, 3) := by decide +kernel
theorem dL_law_159 : decode cL_law 159 = .ok (.land, 1) := by decide +kernel
theorem dL_law_160 : decode cL_law 160 = .ok (.lor, 1) := by decide +kernel
theorem dL_law_161 : decode cL_law 161 = .ok (.invokevirtual 19, 3) := by decide +kernel
theorem dL_law_164 : decode cL_law 164 = .ok (.if_icmp .eq 433, 3) := by decide +kernel
theorem dL_law_167 : decode cL_law 167 = .ok (.iconst 0, 1) := by decide +kernel
theorem dL_law_168 : decode cL_law 168 = .ok (.ireturn, 1) := by decide +kernel
theorem dL_law_169 : decode cL_law 169 = .ok (.aload_n 1, 1) := by decide +kernel
theorem dL_law_170 : decode cL_law 170 = .ok (.invokevirtual 20, 3) := by decide +kernel
theorem dL_law_173 : decode cL_law 173 = .ok (.aload_n 2, 1) := by decide +kernel
theorem dL_law_174 : decode cL_law 174 = .ok (.invokevirtual 24, 3) := by decide +kernel
theorem dL_law_177 : decode cL_law 177 = .ok (.if_icmp .eq 420, 3) := by decide +kernel
theorem dL_law_180 : decode cL_law 180 = .ok (.iconst 0, 1) := by decide +kernel
theorem dL_law_181 : decode cL_law 181 = .ok (.ireturn, 1) := by decide +kernel
theorem dL_law_182 : decode cL_law 182 = .ok (.aload_n 1, 1) := by decide +kernel
theorem dL_law_183 : decode cL_law 183 = .ok (.invokevirtual 25, 3) := by decide +kernel
theorem dL_law_186 : decode cL_law 186 = .ok (.aload_n 2, 1) := by decide +kernel
theorem dL_law_187 : decode cL_law 187 = .ok (.invokevirtual 28, 3) := by decide +kernel
theorem dL_law_190 : decode cL_law 190 = .ok (.if_icmp .eq 407, 3) := by decide +kernel
theorem dL_law_193 : decode cL_law 193 = .ok (.iconst 0, 1) := by decide +kernel
theorem dL_law_194 : decode cL_law 194 = .ok (.ireturn, 1) := by decide +kernel
theorem dL_law_195 : decode cL_law 195 = .ok (.aload_n 1, 1) := by decide +kernel
theorem dL_law_196 : decode cL_law 196 = .ok (.invokevirtual 29, 3) := by decide +kernel
theorem dL_law_199 : decode cL_law 199 = .ok (.aload_n 2, 1) := by decide +kernel
theorem dL_law_200 : decode cL_law 200 = .ok (.invokevirtual 32, 3) := by decide +kernel
theorem dL_law_203 : decode cL_law 203 = .ok (.if_icmp .eq 394, 3) := by decide +kernel
theorem dL_law_206 : decode cL_law 206 = .ok (.iconst 0, 1) := by decide +kernel
theorem dL_law_207 : decode cL_law 207 = .ok (.ireturn, 1) := by decide +kernel
theorem dL_law_208 : decode cL_law 208 = .ok (.aload_n 1, 1) := by decide +kernel
theorem dL_law_209 : decode cL_law 209 = .ok (.aload_n 0, 1) := by decide +kernel
theorem dL_law_210 : decode cL_law 210 = .ok (.iload_n 3, 1) := by decide +kernel
theorem dL_law_211 : decode cL_law 211 = .ok (.iconst 1, 1) := by decide +kernel
theorem dL_law_212 : decode cL_law 212 = .ok (.iadd, 1) := by decide +kernel
theorem dL_law_213 : decode cL_law 213 = .ok (.iaload, 1) := by decide +kernel
theorem dL_law_214 : decode cL_law 214 = .ok (.invokevirtual 33, 3) := by decide +kernel
theorem dL_law_217 : decode cL_law 217 = .ok (.aload_n 2, 1) := by decide +kernel
theorem dL_law_218 : decode cL_law 218 = .ok (.aload_n 0, 1) := by decide +kernel
theorem dL_law_219 : decode cL_law 219 = .ok (.iload_n 3, 1) := by decide +kernel
theorem dL_law_220 : decode cL_law 220 = .ok (.iconst 1, 1) := by decide +kernel
theorem dL_law_221 : decode cL_law 221 = .ok (.iadd, 1) := by decide +kernel
theorem dL_law_222 : decode cL_law 222 = .ok (.iaload, 1) := by decide +kernel
theorem dL_law_223 : decode cL_law 223 = .ok (.invokevirtual 37, 3) := by decide +kernel
theorem dL_law_226 : decode cL_law 226 = .ok (.if_icmp .eq 371, 3) := by decide +kernel
theorem dL_law_229 : decode cL_law 229 = .ok (.iconst 0, 1) := by decide +kernel
theorem dL_law_230 : decode cL_law 230 = .ok (.ireturn, 1) := by decide +kernel
theorem dL_law_231 : decode cL_law 231 = .ok (.aload_n 1, 1) := by decide +kernel
theorem dL_law_232 : decode cL_law 232 = .ok (.aload_n 0, 1) := by decide +kernel
theorem dL_law_233 : decode cL_law 233 = .ok (.iload_n 3, 1) := by decide +kernel
theorem dL_law_234 : decode cL_law 234 = .ok (.iconst 1, 1) := by decide +kernel
theorem dL_law_235 : decode cL_law 235 = .ok (.iadd, 1) := by decide +kernel
theorem dL_law_236 : decode cL_law 236 = .ok (.iaload, 1) := by decide +kernel
theorem dL_law_237 : decode cL_law 237 = .ok (.aload_n 0, 1) := by decide +kernel
theorem dL_law_238 : decode cL_law 238 = .ok (.iload_n 3, 1) := by decide +kernel
theorem dL_law_239 : decode cL_law 239 = .ok (.iconst 2, 1) := by decide +kernel
theorem dL_law_240 : decode cL_law 240 = .ok (.iadd, 1) := by decide +kernel
theorem dL_law_241 : decode cL_law 241 = .ok (.iaload, 1) := by decide +kernel
theorem dL_law_242 : decode cL_law 242 = .ok (.invokevirtual 38, 3) := by decide +kernel
theorem dL_law_245 : decode cL_law 245 = .ok (.aload_n 2, 1) := by decide +kernel
theorem dL_law_246 : decode cL_law 246 = .ok (.aload_n 0, 1) := by decide +kernel
theorem dL_law_247 : decode cL_law 247 = .ok (.iload_n 3, 1) := by decide +kernel
theorem dL_law_248 : decode cL_law 248 = .ok (.iconst 1, 1) := by decide +kernel
theorem dL_law_249 : decode cL_law 249 = .ok (.iadd, 1) := by decide +kernel
theorem dL_law_250 : decode cL_law 250 = .ok (.iaload, 1) := by decide +kernel
theorem dL_law_251 : decode cL_law 251 = .ok (.aload_n 0, 1) := by decide +kernel
theorem dL_law_252 : decode cL_law 252 = .ok (.iload_n 3, 1) := by decide +kernel
theorem dL_law_253 : decode cL_law 253 = .ok (.iconst 2, 1) := by decide +kernel
theorem dL_law_254 : decode cL_law 254 = .ok (.iadd, 1) := by decide +kernel
theorem dL_law_255 : decode cL_law 255 = .ok (.iaload, 1) := by decide +kernel
theorem dL_law_256 : decode cL_law 256 = .ok (.invokevirtual 42, 3) := by decide +kernel
theorem dL_law_259 : decode cL_law 259 = .ok (.if_icmp .eq 338, 3) := by decide +kernel
theorem dL_law_262 : decode cL_law 262 = .ok (.iconst 0, 1) := by decide +kernel
theorem dL_law_263 : decode cL_law 263 = .ok (.ireturn, 1) := by decide +kernel
theorem dL_law_264 : decode cL_law 264 = .ok (.aload_n 1, 1) := by decide +kernel
theorem dL_law_265 : decode cL_law 265 = .ok (.aload_n 0, 1) := by decide +kernel
theorem dL_law_266 : decode cL_law 266 = .ok (.iload_n 3, 1) := by decide +kernel
theorem dL_law_267 : decode cL_law 267 = .ok (.iconst 1, 1) := by decide +kernel
theorem dL_law_268 : decode cL_law 268 = .ok (.iadd, 1) := by decide +kernel
theorem dL_law_269 : decode cL_law 269 = .ok (.iaload, 1) := by decide +kernel
theorem dL_law_270 : decode cL_law 270 = .ok (.invokevirtual 43, 3) := by decide +kernel
theorem dL_law_273 : decode cL_law 273 = .ok (.aload_n 2, 1) := by decide +kernel
theorem dL_law_274 : decode cL_law 274 = .ok (.aload_n 0, 1) := by decide +kernel
theorem dL_law_275 : decode cL_law 275 = .ok (.iload_n 3, 1) := by decide +kernel
theorem dL_law_276 : decode cL_law 276 = .ok (.iconst 1, 1) := by decide +kernel
theorem dL_law_277 : decode cL_law 277 = .ok (.iadd, 1) := by decide +kernel
theorem dL_law_278 : decode cL_law 278 = .ok (.iaload, 1) := by decide +kernel
theorem dL_law_279 : decode cL_law 279 = .ok (.invokevirtual 46, 3) := by decide +kernel
theorem dL_law_282 : decode cL_law 282 = .ok (.if_icmp .eq 315, 3) := by decide +kernel
theorem dL_law_285 : decode cL_law 285 = .ok (.iconst 0, 1) := by decide +kernel
theorem dL_law_286 : decode cL_law 286 = .ok (.ireturn, 1) := by decide +kernel
theorem dL_law_287 : decode cL_law 287 = .ok (.aload_n 1, 1) := by decide +kernel
theorem dL_law_288 : decode cL_law 288 = .ok (.aload_n 0, 1) := by decide +kernel
theorem dL_law_289 : decode cL_law 289 = .ok (.iload_n 3, 1) := by decide +kernel
theorem dL_law_290 : decode cL_law 290 = .ok (.iconst 1, 1) := by decide +kernel
theorem dL_law_291 : decode cL_law 291 = .ok (.iadd, 1) := by decide +kernel
theorem dL_law_292 : decode cL_law 292 = .ok (.iaload, 1) := by decide +kernel
theorem dL_law_293 : decode cL_law 293 = .ok (.aload_n 0, 1) := by decide +kernel
theorem dL_law_294 : decode cL_law 294 = .ok (.iload_n 3, 1) := by decide +kernel
theorem dL_law_295 : decode cL_law 295 = .ok (.iconst 2, 1) := by decide +kernel
theorem dL_law_296 : decode cL_law 296 = .ok (.iadd, 1) := by decide +kernel
theorem dL_law_297 : decode cL_law 297 = .ok (.iaload, 1) := by decide +kernel
theorem dL_law_298 : decode cL_law 298 = .ok (.aload_n 0, 1) := by decide +kernel
theorem dL_law_299 : decode cL_law 299 = .ok (.iload_n 3, 1) := by decide +kernel
theorem dL_law_300 : decode cL_law 300 = .ok (.iconst 3, 1) := by decide +kernel
theorem dL_law_301 : decode cL_law 301 = .ok (.iadd, 1) := by decide +kernel
theorem dL_law_302 : decode cL_law 302 = .ok (.iaload, 1) := by decide +kernel
theorem dL_law_303 : decode cL_law 303 = .ok (.aload_n 0, 1) := by decide +kernel
theorem dL_law_304 : decode cL_law 304 = .ok (.iload_n 3, 1) := by decide +kernel
theorem dL_law_305 : decode cL_law 305 = .ok (.iconst 4, 1) := by decide +kernel
theorem dL_law_306 : decode cL_law 306 = .ok (.iadd, 1) := by decide +kernel
theorem dL_law_307 : decode cL_law 307 = .ok (.iaload, 1) := by decide +kernel
theorem dL_law_308 : decode cL_law 308 = .ok (.invokevirtual 47, 3) := by decide +kernel
theorem dL_law_311 : decode cL_law 311 = .ok (.aload_n 2, 1) := by decide +kernel
theorem dL_law_312 : decode cL_law 312 = .ok (.aload_n 0, 1) := by decide +kernel
theorem dL_law_313 : decode cL_law 313 = .ok (.iload_n 3, 1) := by decide +kernel
theorem dL_law_314 : decode cL_law 314 = .ok (.iconst 1, 1) := by decide +kernel
theorem dL_law_315 : decode cL_law 315 = .ok (.iadd, 1) := by decide +kernel
theorem dL_law_316 : decode cL_law 316 = .ok (.iaload, 1) := by decide +kernel
theorem dL_law_317 : decode cL_law 317 = .ok (.aload_n 0, 1) := by decide +kernel
theorem dL_law_318 : decode cL_law 318 = .ok (.iload_n 3, 1) := by decide +kernel
theorem dL_law_319 : decode cL_law 319 = .ok (.iconst 2, 1) := by decide +kernel
theorem dL_law_320 : decode cL_law 320 = .ok (.iadd, 1) := by decide +kernel
theorem dL_law_321 : decode cL_law 321 = .ok (.iaload, 1) := by decide +kernel
theorem dL_law_322 : decode cL_law 322 = .ok (.aload_n 0, 1) := by decide +kernel
theorem dL_law_323 : decode cL_law 323 = .ok (.iload_n 3, 1) := by decide +kernel
theorem dL_law_324 : decode cL_law 324 = .ok (.iconst 3, 1) := by decide +kernel
theorem dL_law_325 : decode cL_law 325 = .ok (.iadd, 1) := by decide +kernel
theorem dL_law_326 : decode cL_law 326 = .ok (.iaload, 1) := by decide +kernel
theorem dL_law_327 : decode cL_law 327 = .ok (.aload_n 0, 1) := by decide +kernel
theorem dL_law_328 : decode cL_law 328 = .ok (.iload_n 3, 1) := by decide +kernel
theorem dL_law_329 : decode cL_law 329 = .ok (.iconst 4, 1) := by decide +kernel
theorem dL_law_330 : decode cL_law 330 = .ok (.iadd, 1) := by decide +kernel
theorem dL_law_331 : decode cL_law 331 = .ok (.iaload, 1) := by decide +kernel
theorem dL_law_332 : decode cL_law 332 = .ok (.invokevirtual 51, 3) := by decide +kernel
theorem dL_law_335 : decode cL_law 335 = .ok (.if_icmp .eq 262, 3) := by decide +kernel
theorem dL_law_338 : decode cL_law 338 = .ok (.iconst 0, 1) := by decide +kernel
theorem dL_law_339 : decode cL_law 339 = .ok (.ireturn, 1) := by decide +kernel
theorem dL_law_340 : decode cL_law 340 = .ok (.aload_n 1, 1) := by decide +kernel
theorem dL_law_341 : decode cL_law 341 = .ok (.aload_n 0, 1) := by decide +kernel
theorem dL_law_342 : decode cL_law 342 = .ok (.iload_n 3, 1) := by decide +kernel
theorem dL_law_343 : decode cL_law 343 = .ok (.iconst 1, 1) := by decide +kernel
theorem dL_law_344 : decode cL_law 344 = .ok (.iadd, 1) := by decide +kernel
theorem dL_law_345 : decode cL_law 345 = .ok (.iaload, 1) := by decide +kernel
theorem dL_law_346 : decode cL_law 346 = .ok (.invokevirtual 52, 3) := by decide +kernel
theorem dL_law_349 : decode cL_law 349 = .ok (.aload_n 2, 1) := by decide +kernel
theorem dL_law_350 : decode cL_law 350 = .ok (.aload_n 0, 1) := by decide +kernel
theorem dL_law_351 : decode cL_law 351 = .ok (.iload_n 3, 1) := by decide +kernel
theorem dL_law_352 : decode cL_law 352 = .ok (.iconst 1, 1) := by decide +kernel
theorem dL_law_353 : decode cL_law 353 = .ok (.iadd, 1) := by decide +kernel
theorem dL_law_354 : decode cL_law 354 = .ok (.iaload, 1) := by decide +kernel
theorem dL_law_355 : decode cL_law 355 = .ok (.invokevirtual 55, 3) := by decide +kernel
theorem dL_law_358 : decode cL_law 358 = .ok (.if_icmp .eq 239, 3) := by decide +kernel
theorem dL_law_361 : decode cL_law 361 = .ok (.iconst 0, 1) := by decide +kernel
theorem dL_law_362 : decode cL_law 362 = .ok (.ireturn, 1) := by decide +kernel
theorem dL_law_363 : decode cL_law 363 = .ok (.aload_n 1, 1) := by decide +kernel
theorem dL_law_364 : decode cL_law 364 = .ok (.aload_n 0, 1) := by decide +kernel
theorem dL_law_365 : decode cL_law 365 = .ok (.iload_n 3, 1) := by decide +kernel
theorem dL_law_366 : decode cL_law 366 = .ok (.iconst 1, 1) := by decide +kernel
theorem dL_law_367 : decode cL_law 367 = .ok (.iadd, 1) := by decide +kernel
theorem dL_law_368 : decode cL_law 368 = .ok (.iaload, 1) := by decide +kernel
theorem dL_law_369 : decode cL_law 369 = .ok (.invokevirtual 56, 3) := by decide +kernel
theorem dL_law_372 : decode cL_law 372 = .ok (.aload_n 2, 1) := by decide +kernel
theorem dL_law_373 : decode cL_law 373 = .ok (.aload_n 0, 1) := by decide +kernel
theorem dL_law_374 : decode cL_law 374 = .ok (.iload_n 3, 1) := by decide +kernel
theorem dL_law_375 : decode cL_law 375 = .ok (.iconst 1, 1) := by decide +kernel
theorem dL_law_376 : decode cL_law 376 = .ok (.iadd, 1) := by decide +kernel
theorem dL_law_377 : decode cL_law 377 = .ok (.iaload, 1) := by decide +kernel
theorem dL_law_378 : decode cL_law 378 = .ok (.invokevirtual 59, 3) := by decide +kernel
theorem dL_law_381 : decode cL_law 381 = .ok (.if_icmp .eq 216, 3) := by decide +kernel
theorem dL_law_384 : decode cL_law 384 = .ok (.iconst 0, 1) := by decide +kernel
theorem dL_law_385 : decode cL_law 385 = .ok (.ireturn, 1) := by decide +kernel
theorem dL_law_386 : decode cL_law 386 = .ok (.aload_n 1, 1) := by decide +kernel
theorem dL_law_387 : decode cL_law 387 = .ok (.aload_n 0, 1) := by decide +kernel
theorem dL_law_388 : decode cL_law 388 = .ok (.iload_n 3, 1) := by decide +kernel
theorem dL_law_389 : decode cL_law 389 = .ok (.iconst 1, 1) := by decide +kernel
theorem dL_law_390 : decode cL_law 390 = .ok (.iadd, 1) := by decide +kernel
theorem dL_law_391 : decode cL_law 391 = .ok (.iaload, 1) := by decide +kernel
theorem dL_law_392 : decode cL_law 392 = .ok (.invokevirtual 60, 3) := by decide +kernel
theorem dL_law_395 : decode cL_law 395 = .ok (.aload_n 2, 1) := by decide +kernel
theorem dL_law_396 : decode cL_law 396 = .ok (.aload_n 0, 1) := by decide +kernel
theorem dL_law_397 : decode cL_law 397 = .ok (.iload_n 3, 1) := by decide +kernel
theorem dL_law_398 : decode cL_law 398 = .ok (.iconst 1, 1) := by decide +kernel
theorem dL_law_399 : decode cL_law 399 = .ok (.iadd, 1) := by decide +kernel
theorem dL_law_400 : decode cL_law 400 = .ok (.iaload, 1) := by decide +kernel
theorem dL_law_401 : decode cL_law 401 = .ok (.invokevirtual 63, 3) := by decide +kernel
theorem dL_law_404 : decode cL_law 404 = .ok (.if_icmp .eq 193, 3) := by decide +kernel
theorem dL_law_407 : decode cL_law 407 = .ok (.iconst 0, 1) := by decide +kernel
theorem dL_law_408 : decode cL_law 408 = .ok (.ireturn, 1) := by decide +kernel
theorem dL_law_409 : decode cL_law 409 = .ok (.aload_n 1, 1) := by decide +kernel
theorem dL_law_410 : decode cL_law 410 = .ok (.aload_n 0, 1) := by decide +kernel
theorem dL_law_411 : decode cL_law 411 = .ok (.iload_n 3, 1) := by decide +kernel
theorem dL_law_412 : decode cL_law 412 = .ok (.iconst 1, 1) := by decide +kernel
theorem dL_law_413 : decode cL_law 413 = .ok (.iadd, 1) := by decide +kernel
theorem dL_law_414 : decode cL_law 414 = .ok (.iaload, 1) := by decide +kernel
theorem dL_law_415 : decode cL_law 415 = .ok (.aload_n 0, 1) := by decide +kernel
theorem dL_law_416 : decode cL_law 416 = .ok (.iload_n 3, 1) := by decide +kernel
theorem dL_law_417 : decode cL_law 417 = .ok (.iconst 2, 1) := by decide +kernel
theorem dL_law_418 : decode cL_law 418 = .ok (.iadd, 1) := by decide +kernel
theorem dL_law_419 : decode cL_law 419 = .ok (.iaload, 1) := by decide +kernel
theorem dL_law_420 : decode cL_law 420 = .ok (.invokevirtual 64, 3) := by decide +kernel
theorem dL_law_423 : decode cL_law 423 = .ok (.aload_n 2, 1) := by decide +kernel
theorem dL_law_424 : decode cL_law 424 = .ok (.aload_n 0, 1) := by decide +kernel
theorem dL_law_425 : decode cL_law 425 = .ok (.iload_n 3, 1) := by decide +kernel
theorem dL_law_426 : decode cL_law 426 = .ok (.iconst 1, 1) := by decide +kernel
theorem dL_law_427 : decode cL_law 427 = .ok (.iadd, 1) := by decide +kernel
theorem dL_law_428 : decode cL_law 428 = .ok (.iaload, 1) := by decide +kernel
theorem dL_law_429 : decode cL_law 429 = .ok (.aload_n 0, 1) := by decide +kernel
theorem dL_law_430 : decode cL_law 430 = .ok (.iload_n 3, 1) := by decide +kernel
theorem dL_law_431 : decode cL_law 431 = .ok (.iconst 2, 1) := by decide +kernel
theorem dL_law_432 : decode cL_law 432 = .ok (.iadd, 1) := by decide +kernel
theorem dL_law_433 : decode cL_law 433 = .ok (.iaload, 1) := by decide +kernel
theorem dL_law_434 : decode cL_law 434 = .ok (.invokevirtual 67, 3) := by decide +kernel
theorem dL_law_437 : decode cL_law 437 = .ok (.if_icmp .eq 160, 3) := by decide +kernel
theorem dL_law_440 : decode cL_law 440 = .ok (.iconst 0, 1) := by decide +kernel
theorem dL_law_441 : decode cL_law 441 = .ok (.ireturn, 1) := by decide +kernel
theorem dL_law_442 : decode cL_law 442 = .ok (.aload_n 1, 1) := by decide +kernel
theorem dL_law_443 : decode cL_law 443 = .ok (.aload_n 0, 1) := by decide +kernel
theorem dL_law_444 : decode cL_law 444 = .ok (.iload_n 3, 1) := by decide +kernel
theorem dL_law_445 : decode cL_law 445 = .ok (.iconst 1, 1) := by decide +kernel
theorem dL_law_446 : decode cL_law 446 = .ok (.iadd, 1) := by decide +kernel
theorem dL_law_447 : decode cL_law 447 = .ok (.iaload, 1) := by decide +kernel
theorem dL_law_448 : decode cL_law 448 = .ok (.aload_n 0, 1) := by decide +kernel
theorem dL_law_449 : decode cL_law 449 = .ok (.iload_n 3, 1) := by decide +kernel
theorem dL_law_450 : decode cL_law 450 = .ok (.iconst 2, 1) := by decide +kernel
theorem dL_law_451 : decode cL_law 451 = .ok (.iadd, 1) := by decide +kernel
theorem dL_law_452 : decode cL_law 452 = .ok (.iaload, 1) := by decide +kernel
theorem dL_law_453 : decode cL_law 453 = .ok (.invokevirtual 68, 3) := by decide +kernel
theorem dL_law_456 : decode cL_law 456 = .ok (.aload_n 2, 1) := by decide +kernel
theorem dL_law_457 : decode cL_law 457 = .ok (.aload_n 0, 1) := by decide +kernel
theorem dL_law_458 : decode cL_law 458 = .ok (.iload_n 3, 1) := by decide +kernel
theorem dL_law_459 : decode cL_law 459 = .ok (.iconst 1, 1) := by decide +kernel
theorem dL_law_460 : decode cL_law 460 = .ok (.iadd, 1) := by decide +kernel
theorem dL_law_461 : decode cL_law 461 = .ok (.iaload, 1) := by decide +kernel
theorem dL_law_462 : decode cL_law 462 = .ok (.aload_n 0, 1) := by decide +kernel
theorem dL_law_463 : decode cL_law 463 = .ok (.iload_n 3, 1) := by decide +kernel
theorem dL_law_464 : decode cL_law 464 = .ok (.iconst 2, 1) := by decide +kernel
theorem dL_law_465 : decode cL_law 465 = .ok (.iadd, 1) := by decide +kernel
theorem dL_law_466 : decode cL_law 466 = .ok (.iaload, 1) := by decide +kernel
theorem dL_law_467 : decode cL_law 467 = .ok (.invokevirtual 71, 3) := by decide +kernel
theorem dL_law_470 : decode cL_law 470 = .ok (.if_icmp .eq 127, 3) := by decide +kernel
theorem dL_law_473 : decode cL_law 473 = .ok (.iconst 0, 1) := by decide +kernel
theorem dL_law_474 : decode cL_law 474 = .ok (.ireturn, 1) := by decide +kernel
theorem dL_law_475 : decode cL_law 475 = .ok (.aload_n 1, 1) := by decide +kernel
theorem dL_law_476 : decode cL_law 476 = .ok (.aload_n 0, 1) := by decide +kernel
theorem dL_law_477 : decode cL_law 477 = .ok (.iload_n 3, 1) := by decide +kernel
theorem dL_law_478 : decode cL_law 478 = .ok (.iconst 1, 1) := by decide +kernel
theorem dL_law_479 : decode cL_law 479 = .ok (.iadd, 1) := by decide +kernel
theorem dL_law_480 : decode cL_law 480 = .ok (.iaload, 1) := by decide +kernel
theorem dL_law_481 : decode cL_law 481 = .ok (.aload_n 0, 1) := by decide +kernel
theorem dL_law_482 : decode cL_law 482 = .ok (.iload_n 3, 1) := by decide +kernel
theorem dL_law_483 : decode cL_law 483 = .ok (.iconst 2, 1) := by decide +kernel
theorem dL_law_484 : decode cL_law 484 = .ok (.iadd, 1) := by decide +kernel
theorem dL_law_485 : decode cL_law 485 = .ok (.iaload, 1) := by decide +kernel
theorem dL_law_486 : decode cL_law 486 = .ok (.invokevirtual 72, 3) := by decide +kernel
theorem dL_law_489 : decode cL_law 489 = .ok (.aload_n 2, 1) := by decide +kernel
theorem dL_law_490 : decode cL_law 490 = .ok (.aload_n 0, 1) := by decide +kernel
theorem dL_law_491 : decode cL_law 491 = .ok (.iload_n 3, 1) := by decide +kernel
theorem dL_law_492 : decode cL_law 492 = .ok (.iconst 1, 1) := by decide +kernel
theorem dL_law_493 : decode cL_law 493 = .ok (.iadd, 1) := by decide +kernel
theorem dL_law_494 : decode cL_law 494 = .ok (.iaload, 1) := by decide +kernel
theorem dL_law_495 : decode cL_law 495 = .ok (.aload_n 0, 1) := by decide +kernel
theorem dL_law_496 : decode cL_law 496 = .ok (.iload_n 3, 1) := by decide +kernel
theorem dL_law_497 : decode cL_law 497 = .ok (.iconst 2, 1) := by decide +kernel
theorem dL_law_498 : decode cL_law 498 = .ok (.iadd, 1) := by decide +kernel
theorem dL_law_499 : decode cL_law 499 = .ok (.iaload, 1) := by decide +kernel
theorem dL_law_500 : decode cL_law 500 = .ok (.invokevirtual 75, 3) := by decide +kernel
theorem dL_law_503 : decode cL_law 503 = .ok (.if_icmp .eq 94, 3) := by decide +kernel
theorem dL_law_506 : decode cL_law 506 = .ok (.iconst 0, 1) := by decide +kernel
theorem dL_law_507 : decode cL_law 507 = .ok (.ireturn, 1) := by decide +kernel
theorem dL_law_508 : decode cL_law 508 = .ok (.aload_n 1, 1) := by decide +kernel
theorem dL_law_509 : decode cL_law 509 = .ok (.aload_n 0, 1) := by decide +kernel
theorem dL_law_510 : decode cL_law 510 = .ok (.iload_n 3, 1) := by decide +kernel
theorem dL_law_511 : decode cL_law 511 = .ok (.iconst 1, 1) := by decide +kernel
theorem dL_law_512 : decode cL_law 512 = .ok (.iadd, 1) := by decide +kernel
theorem dL_law_513 : decode cL_law 513 = .ok (.iaload, 1) := by decide +kernel
theorem dL_law_514 : decode cL_law 514 = .ok (.aload_n 0, 1) := by decide +kernel
theorem dL_law_515 : decode cL_law 515 = .ok (.iload_n 3, 1) := by decide +kernel
theorem dL_law_516 : decode cL_law 516 = .ok (.iconst 2, 1) := by decide +kernel
theorem dL_law_517 : decode cL_law 517 = .ok (.iadd, 1) := by decide +kernel
theorem dL_law_518 : decode cL_law 518 = .ok (.iaload, 1) := by decide +kernel
theorem dL_law_519 : decode cL_law 519 = .ok (.invokevirtual 76, 3) := by decide +kernel
theorem dL_law_522 : decode cL_law 522 = .ok (.aload_n 2, 1) := by decide +kernel
theorem dL_law_523 : decode cL_law 523 = .ok (.aload_n 0, 1) := by decide +kernel
theorem dL_law_524 : decode cL_law 524 = .ok (.iload_n 3, 1) := by decide +kernel
theorem dL_law_525 : decode cL_law 525 = .ok (.iconst 1, 1) := by decide +kernel
theorem dL_law_526 : decode cL_law 526 = .ok (.iadd, 1) := by decide +kernel
theorem dL_law_527 : decode cL_law 527 = .ok (.iaload, 1) := by decide +kernel
theorem dL_law_528 : decode cL_law 528 = .ok (.aload_n 0, 1) := by decide +kernel
theorem dL_law_529 : decode cL_law 529 = .ok (.iload_n 3, 1) := by decide +kernel
theorem dL_law_530 : decode cL_law 530 = .ok (.iconst 2, 1) := by decide +kernel
theorem dL_law_531 : decode cL_law 531 = .ok (.iadd, 1) := by decide +kernel
theorem dL_law_532 : decode cL_law 532 = .ok (.iaload, 1) := by decide +kernel
theorem dL_law_533 : decode cL_law 533 = .ok (.invokevirtual 79, 3) := by decide +kernel
theorem dL_law_536 : decode cL_law 536 = .ok (.if_icmp .eq 61, 3) := by decide +kernel
theorem dL_law_539 : decode cL_law 539 = .ok (.iconst 0, 1) := by decide +kernel
theorem dL_law_540 : decode cL_law 540 = .ok (.ireturn, 1) := by decide +kernel
theorem dL_law_541 : decode cL_law 541 = .ok (.aload_n 1, 1) := by decide +kernel
theorem dL_law_542 : decode cL_law 542 = .ok (.aload_n 0, 1) := by decide +kernel
theorem dL_law_543 : decode cL_law 543 = .ok (.iload_n 3, 1) := by decide +kernel
theorem dL_law_544 : decode cL_law 544 = .ok (.iconst 1, 1) := by decide +kernel
theorem dL_law_545 : decode cL_law 545 = .ok (.iadd, 1) := by decide +kernel
theorem dL_law_546 : decode cL_law 546 = .ok (.iaload, 1) := by decide +kernel
theorem dL_law_547 : decode cL_law 547 = .ok (.aload_n 0, 1) := by decide +kernel
theorem dL_law_548 : decode cL_law 548 = .ok (.iload_n 3, 1) := by decide +kernel
theorem dL_law_549 : decode cL_law 549 = .ok (.iconst 2, 1) := by decide +kernel
theorem dL_law_550 : decode cL_law 550 = .ok (.iadd, 1) := by decide +kernel
theorem dL_law_551 : decode cL_law 551 = .ok (.iaload, 1) := by decide +kernel
theorem dL_law_552 : decode cL_law 552 = .ok (.invokevirtual 80, 3) := by decide +kernel
theorem dL_law_555 : decode cL_law 555 = .ok (.aload_n 2, 1) := by decide +kernel
theorem dL_law_556 : decode cL_law 556 = .ok (.aload_n 0, 1) := by decide +kernel
theorem dL_law_557 : decode cL_law 557 = .ok (.iload_n 3, 1) := by decide +kernel
theorem dL_law_558 : decode cL_law 558 = .ok (.iconst 1, 1) := by decide +kernel
theorem dL_law_559 : decode cL_law 559 = .ok (.iadd, 1) := by decide +kernel
theorem dL_law_560 : decode cL_law 560 = .ok (.iaload, 1) := by decide +kernel
theorem dL_law_561 : decode cL_law 561 = .ok (.aload_n 0, 1) := by decide +kernel
theorem dL_law_562 : decode cL_law 562 = .ok (.iload_n 3, 1) := by decide +kernel
theorem dL_law_563 : decode cL_law 563 = .ok (.iconst 2, 1) := by decide +kernel
theorem dL_law_564 : decode cL_law 564 = .ok (.iadd, 1) := by decide +kernel
theorem dL_law_565 : decode cL_law 565 = .ok (.iaload, 1) := by decide +kernel
theorem dL_law_566 : decode cL_law 566 = .ok (.invokevirtual 83, 3) := by decide +kernel
theorem dL_law_569 : decode cL_law 569 = .ok (.if_icmp .eq 28, 3) := by decide +kernel
theorem dL_law_572 : decode cL_law 572 = .ok (.iconst 0, 1) := by decide +kernel
theorem dL_law_573 : decode cL_law 573 = .ok (.ireturn, 1) := by decide +kernel
theorem dL_law_574 : decode cL_law 574 = .ok (.aload_n 1, 1) := by decide +kernel
theorem dL_law_575 : decode cL_law 575 = .ok (.aload_n 0, 1) := by decide +kernel
theorem dL_law_576 : decode cL_law 576 = .ok (.iload_n 3, 1) := by decide +kernel
theorem dL_law_577 : decode cL_law 577 = .ok (.iconst 1, 1) := by decide +kernel
theorem dL_law_578 : decode cL_law 578 = .ok (.iadd, 1) := by decide +kernel
theorem dL_law_579 : decode cL_law 579 = .ok (.iaload, 1) := by decide +kernel
theorem dL_law_580 : decode cL_law 580 = .ok (.invokevirtual 84, 3) := by decide +kernel
theorem dL_law_583 : decode cL_law 583 = .ok (.aload_n 2, 1) := by decide +kernel
theorem dL_law_584 : decode cL_law 584 = .ok (.aload_n 0, 1) := by decide +kernel
theorem dL_law_585 : decode cL_law 585 = .ok (.iload_n 3, 1) := by decide +kernel
theorem dL_law_586 : decode cL_law 586 = .ok (.iconst 1, 1) := by decide +kernel
theorem dL_law_587 : decode cL_law 587 = .ok (.iadd, 1) := by decide +kernel
theorem dL_law_588 : decode cL_law 588 = .ok (.iaload, 1) := by decide +kernel
theorem dL_law_589 : decode cL_law 589 = .ok (.invokevirtual 87, 3) := by decide +kernel
theorem dL_law_592 : decode cL_law 592 = .ok (.if_icmp .eq 5, 3) := by decide +kernel
theorem dL_law_595 : decode cL_law 595 = .ok (.iconst 0, 1) := by decide +kernel
theorem dL_law_596 : decode cL_law 596 = .ok (.ireturn, 1) := by decide +kernel
theorem dL_law_597 : decode cL_law 597 = .ok (.iinc 3 5, 3) := by decide +kernel
theorem dL_law_600 : decode cL_law 600 = .ok (.goto (-582), 3) := by decide +kernel
theorem dL_law_603 : decode cL_law 603 = .ok (.iconst 1, 1) := by decide +kernel
theorem dL_law_604 : decode cL_law 604 = .ok (.ireturn, 1) := by decide +kernel
end
section
/-! OWN TABLES: the words that stay good, the classes by their numbers, what each method is, and what its links say. Printed by our own program out of the claim's texts. -/
def fz_tb : List Cond := lw_tbl.filter goodWord
theorem fz_mem {w : Cond} (i : Nat) (h : lw_tbl[i]? = some w) (hg : goodWord w = true) : w ∈ fz_tb := List.mem_filter.mpr ⟨List.mem_of_getElem? h, hg⟩
theorem fz_mems {ws : List Cond} (ps : List Nat) (hp : ws = ps.filterMap (fun i => lw_tbl[i]?)) (h : ws.all goodWord = true) : ∀ w ∈ ws, w ∈ fz_tb := by
  intro w hw
  have h1 := List.all_eq_true.mp h w hw
  rw [hp] at hw
  obtain ⟨i, -, hi⟩ := List.mem_filterMap.mp hw
  exact fz_mem i hi h1
theorem fz_tbl_good : ∀ w ∈ fz_tb, (w.onTables && w.keeps) = true ∨ ∃ ty, w = .arrayClass ty := fun w hw => good_of_word (List.mem_filter.mp hw).2
abbrev classes : List vw_C := [(RX0, TX0, 10), (RX1, TX1, 7), (RX2, TX2, 6), (RX3, TX3, 1), (RX4, TX4, 6), (RX5, TX5, 7), (RX6, TX6, 4), (RX7, TX7, 9), (RX8, TX8, 5), (RX9, TX9, 10), (RX10, TX10, 6), (RX11, TX11, 39)]
def fz_tyL : List FieldType := [.int, .long, .boolean, .object RX4, .object RX7, .object RX6]
def fz_nest : List Cond := [.methodLinkNest RX10 11 yX1_init RX10, .methodLinkNest RX10 21 yX2_init RX10, .methodLinkNest RX5 27 yX4_init RX10, .methodLinkNest RX5 28 yX7_init RX10, .methodLinkNest RX0 19 yX8_init RX10, .methodLinkNest RX0 26 yX3_init RX10, .methodLinkNest RX0 48 yX6_init RX10]
theorem fz_nest_ok : ∀ w ∈ fz_nest, (∃ a i x h, w = .methodLinkNest a i x h) ∨ (∃ a i b n d h, w = .fieldLinkNest a i b n d h) := by
  intro w hw
  simp only [fz_nest, List.mem_cons, List.not_mem_nil, or_false] at hw
  rcases hw with rfl | rfl | rfl | rfl | rfl | rfl | rfl <;> exact Or.inl ⟨_, _, _, _, rfl⟩
theorem fz_nest_in : ∀ w ∈ fz_nest, w ∈ lw_tbl := by
  intro w hw
  have hp : fz_nest = [89, 121, 155, 185, 259, 281, 327].filterMap (fun i => lw_tbl[i]?) := by decide +kernel
  rw [hp] at hw
  obtain ⟨i, -, hi⟩ := List.mem_filterMap.mp hw
  exact List.mem_of_getElem? hi
theorem izX0 : ∀ w ∈ u_ws RX0 TX0 10, w ∈ fz_tb := fz_mems [358, 360, 362, 364, 366, 368, 370, 372, 374, 376] (by decide +kernel) (by decide +kernel)
theorem izX1 : ∀ w ∈ u_ws RX1 TX1 7, w ∈ fz_tb := fz_mems [102, 104, 106, 108, 110, 112, 114] (by decide +kernel) (by decide +kernel)
theorem izX2 : ∀ w ∈ u_ws RX2 TX2 6, w ∈ fz_tb := fz_mems [131, 133, 135, 137, 139, 141] (by decide +kernel) (by decide +kernel)
theorem izX3 : ∀ w ∈ u_ws RX3 TX3 1, w ∈ fz_tb := fz_mems [286] (by decide +kernel) (by decide +kernel)
theorem izX4 : ∀ w ∈ u_ws RX4 TX4 6, w ∈ fz_tb := fz_mems [171, 173, 175, 177, 179, 181] (by decide +kernel) (by decide +kernel)
theorem izX5 : ∀ w ∈ u_ws RX5 TX5 7, w ∈ fz_tb := fz_mems [234, 236, 238, 240, 242, 244, 246] (by decide +kernel) (by decide +kernel)
theorem izX6 : ∀ w ∈ u_ws RX6 TX6 4, w ∈ fz_tb := fz_mems [339, 341, 343, 345] (by decide +kernel) (by decide +kernel)
theorem izX7 : ∀ w ∈ u_ws RX7 TX7 9, w ∈ fz_tb := fz_mems [208, 210, 212, 214, 216, 218, 220, 222, 224] (by decide +kernel) (by decide +kernel)
theorem izX8 : ∀ w ∈ u_ws RX8 TX8 5, w ∈ fz_tb := fz_mems [268, 270, 272, 274, 276] (by decide +kernel) (by decide +kernel)
theorem izX9 : ∀ w ∈ u_ws RX9 TX9 10, w ∈ fz_tb := fz_mems [305, 307, 309, 311, 313, 315, 317, 319, 321, 323] (by decide +kernel) (by decide +kernel)
theorem izX10 : ∀ w ∈ u_ws RX10 TX10 6, w ∈ fz_tb := fz_mems [385, 387, 389, 391, 393, 395] (by decide +kernel) (by decide +kernel)
theorem izX11 : ∀ w ∈ u_ws RX11 TX11 39, w ∈ fz_tb := fz_mems [960, 962, 964, 966, 968, 970, 972, 974, 976, 978, 980, 982, 984, 986, 988, 990, 992, 994, 996, 998, 1000, 1002, 1004, 1006, 1008, 1010, 1012, 1014, 1016, 1018, 1020, 1022, 1024, 1026, 1028, 1030, 1032, 1034, 1036] (by decide +kernel) (by decide +kernel)
abbrev fz_Mt : Type := MethodName × ByteArray × Nat × Option FieldType
abbrev mX0_init : fz_Mt := (yX0_init, cX0_init, 4, none)
abbrev mX0_size : fz_Mt := (yX0_size, cX0_size, 1, (some .int))
abbrev mX0_now : fz_Mt := (yX0_now, cX0_now, 1, (some .int))
abbrev mX0_ways : fz_Mt := (yX0_ways, cX0_ways, 1, (some .int))
abbrev mX0_longestWay : fz_Mt := (yX0_longestWay, cX0_longestWay, 1, (some .int))
abbrev mX0_alarms : fz_Mt := (yX0_alarms, cX0_alarms, 1, (some .int))
abbrev mX0_moves : fz_Mt := (yX0_moves, cX0_moves, 3, (some .int))
abbrev mX0_begin : fz_Mt := (yX0_begin, cX0_begin, 2, none)
abbrev mX0_put : fz_Mt := (yX0_put, cX0_put, 2, (some .int))
abbrev mX0_step : fz_Mt := (yX0_step, cX0_step, 2, none)
abbrev mX0_lookForWork : fz_Mt := (yX0_lookForWork, cX0_lookForWork, 5, none)
abbrev mX0_nearestFit : fz_Mt := (yX0_nearestFit, cX0_nearestFit, 7, (some .int))
abbrev mX0_isFit : fz_Mt := (yX0_isFit, cX0_isFit, 3, (some .boolean))
abbrev mX0_nearestRefuge : fz_Mt := (yX0_nearestRefuge, cX0_nearestRefuge, 6, (some .int))
abbrev mX0_countWay : fz_Mt := (yX0_countWay, cX0_countWay, 2, (some .boolean))
abbrev mX0_take : fz_Mt := (yX0_take, cX0_take, 5, none)
abbrev mX0_goOn : fz_Mt := (yX0_goOn, cX0_goOn, 4, none)
abbrev mX0_workOn : fz_Mt := (yX0_workOn, cX0_workOn, 4, none)
abbrev mX0_tellRobot : fz_Mt := (yX0_tellRobot, cX0_tellRobot, 3, (some .int))
abbrev mX0_hasPicked : fz_Mt := (yX0_hasPicked, cX0_hasPicked, 2, (some .boolean))
abbrev mX0_cellIn : fz_Mt := (yX0_cellIn, cX0_cellIn, 3, (some .int))
abbrev mX0_cellAt : fz_Mt := (yX0_cellAt, cX0_cellAt, 3, (some .int))
abbrev mX1_init : fz_Mt := (yX1_init, cX1_init, 1, none)
abbrev mX1_size : fz_Mt := (yX1_size, cX1_size, 1, (some .int))
abbrev mX1_has : fz_Mt := (yX1_has, cX1_has, 2, (some .boolean))
abbrev mX1_kindAt : fz_Mt := (yX1_kindAt, cX1_kindAt, 2, (some .int))
abbrev mX1_isPlace : fz_Mt := (yX1_isPlace, cX1_isPlace, 2, (some .boolean))
abbrev mX1_measured : fz_Mt := (yX1_measured, cX1_measured, 2, (some .int))
abbrev mX1_placeInText : fz_Mt := (yX1_placeInText, cX1_placeInText, 2, (some .int))
abbrev mX1_load : fz_Mt := (yX1_load, cX1_load, 4, none)
abbrev mX1_findOpenMoves : fz_Mt := (yX1_findOpenMoves, cX1_findOpenMoves, 3, none)
abbrev mX1_leadsOn : fz_Mt := (yX1_leadsOn, cX1_leadsOn, 4, (some .boolean))
abbrev mX1_isOpen : fz_Mt := (yX1_isOpen, cX1_isOpen, 3, (some .boolean))
abbrev mX1_isMove : fz_Mt := (yX1_isMove, cX1_isMove, 4, (some .boolean))
abbrev mX1_hasAllKinds : fz_Mt := (yX1_hasAllKinds, cX1_hasAllKinds, 3, (some .boolean))
abbrev mX1_firstPlaceApart : fz_Mt := (yX1_firstPlaceApart, cX1_firstPlaceApart, 2, (some .int))
abbrev mX1_isJoinedToAll : fz_Mt := (yX1_isJoinedToAll, cX1_isJoinedToAll, 3, (some .boolean))
abbrev mX1_measureFrom : fz_Mt := (yX1_measureFrom, cX1_measureFrom, 6, none)
abbrev mX1_measureAround : fz_Mt := (yX1_measureAround, cX1_measureAround, 5, (some .int))
abbrev mX2_init : fz_Mt := (yX2_init, cX2_init, 1, none)
abbrev mX2_length : fz_Mt := (yX2_length, cX2_length, 1, (some .int))
abbrev mX2_width : fz_Mt := (yX2_width, cX2_width, 1, (some .int))
abbrev mX2_faultPlace : fz_Mt := (yX2_faultPlace, cX2_faultPlace, 1, (some .int))
abbrev mX2_append : fz_Mt := (yX2_append, cX2_append, 5, (some .int))
abbrev mX2_wipe : fz_Mt := (yX2_wipe, cX2_wipe, 2, (some .int))
abbrev mX2_kindOf : fz_Mt := (yX2_kindOf, cX2_kindOf, 2, (some .int))
abbrev mX2_findFault : fz_Mt := (yX2_findFault, cX2_findFault, 4, (some .int))
abbrev mX2_widenLine : fz_Mt := (yX2_widenLine, cX2_widenLine, 1, (some .boolean))
abbrev mX2_endLine : fz_Mt := (yX2_endLine, cX2_endLine, 1, (some .boolean))
abbrev mX2_byteOf : fz_Mt := (yX2_byteOf, cX2_byteOf, 3, (some .int))
abbrev mX3_init : fz_Mt := (yX3_init, cX3_init, 1, none)
abbrev mX3_alarms : fz_Mt := (yX3_alarms, cX3_alarms, 1, (some .int))
abbrev mX3_clear : fz_Mt := (yX3_clear, cX3_clear, 1, none)
abbrev mX3_look : fz_Mt := (yX3_look, cX3_look, 8, none)
abbrev mX3_lookAtTwo : fz_Mt := (yX3_lookAtTwo, cX3_lookAtTwo, 5, none)
abbrev mX4_init : fz_Mt := (yX4_init, cX4_init, 1, none)
abbrev mX4_begin : fz_Mt := (yX4_begin, cX4_begin, 5, none)
abbrev mX4_tell : fz_Mt := (yX4_tell, cX4_tell, 2, (some .int))
abbrev mX5_init : fz_Mt := (yX5_init, cX5_init, 2, none)
abbrev mX5_size : fz_Mt := (yX5_size, cX5_size, 1, (some .int))
abbrev mX5_open : fz_Mt := (yX5_open, cX5_open, 1, (some .int))
abbrev mX5_tasks : fz_Mt := (yX5_tasks, cX5_tasks, 1, (some .int))
abbrev mX5_pending : fz_Mt := (yX5_pending, cX5_pending, 1, (some .int))
abbrev mX5_arePendingFor : fz_Mt := (yX5_arePendingFor, cX5_arePendingFor, 2, (some .boolean))
abbrev mX5_taskAt : fz_Mt := (yX5_taskAt, cX5_taskAt, 2, (some (.object "FleetController$Task")))
abbrev mX5_clear : fz_Mt := (yX5_clear, cX5_clear, 1, none)
abbrev mX5_haveRoomFor : fz_Mt := (yX5_haveRoomFor, cX5_haveRoomFor, 2, (some .boolean))
abbrev mX5_add : fz_Mt := (yX5_add, cX5_add, 4, (some .int))
abbrev mX5_addTask : fz_Mt := (yX5_addTask, cX5_addTask, 4, none)
abbrev mX5_cancelPending : fz_Mt := (yX5_cancelPending, cX5_cancelPending, 7, (some .int))
abbrev mX5_take : fz_Mt := (yX5_take, cX5_take, 4, none)
abbrev mX5_pick : fz_Mt := (yX5_pick, cX5_pick, 3, none)
abbrev mX5_bring : fz_Mt := (yX5_bring, cX5_bring, 3, none)
abbrev mX5_leavePending : fz_Mt := (yX5_leavePending, cX5_leavePending, 3, none)
abbrev mX5_finishOne : fz_Mt := (yX5_finishOne, cX5_finishOne, 3, none)
abbrev mX5_tellTask : fz_Mt := (yX5_tellTask, cX5_tellTask, 3, (some .int))
abbrev mX5_tellOrder : fz_Mt := (yX5_tellOrder, cX5_tellOrder, 3, (some .int))
abbrev mX6_init : fz_Mt := (yX6_init, cX6_init, 1, none)
abbrev mX6_begin : fz_Mt := (yX6_begin, cX6_begin, 1, none)
abbrev mX7_init : fz_Mt := (yX7_init, cX7_init, 1, none)
abbrev mX7_begin : fz_Mt := (yX7_begin, cX7_begin, 5, none)
abbrev mX7_tell : fz_Mt := (yX7_tell, cX7_tell, 2, (some .int))
abbrev mX8_init : fz_Mt := (yX8_init, cX8_init, 1, none)
abbrev mX8_robots : fz_Mt := (yX8_robots, cX8_robots, 1, (some .int))
abbrev mX8_endOf : fz_Mt := (yX8_endOf, cX8_endOf, 2, (some .int))
abbrev mX8_endTimeOf : fz_Mt := (yX8_endTimeOf, cX8_endTimeOf, 2, (some .int))
abbrev mX8_ownerOf : fz_Mt := (yX8_ownerOf, cX8_ownerOf, 2, (some .int))
abbrev mX8_isEndOfOther : fz_Mt := (yX8_isEndOfOther, cX8_isEndOfOther, 3, (some .boolean))
abbrev mX8_clear : fz_Mt := (yX8_clear, cX8_clear, 1, none)
abbrev mX8_add : fz_Mt := (yX8_add, cX8_add, 2, none)
abbrev mX8_cellAt : fz_Mt := (yX8_cellAt, cX8_cellAt, 3, (some .int))
abbrev mX8_write : fz_Mt := (yX8_write, cX8_write, 5, none)
abbrev mX8_setEnd : fz_Mt := (yX8_setEnd, cX8_setEnd, 4, none)
abbrev mX8_keep : fz_Mt := (yX8_keep, cX8_keep, 3, none)
abbrev mX9_init : fz_Mt := (yX9_init, cX9_init, 3, none)
abbrev mX9_begin : fz_Mt := (yX9_begin, cX9_begin, 2, none)
abbrev mX9_find : fz_Mt := (yX9_find, cX9_find, 9, (some .int))
abbrev mX9_reachGoal : fz_Mt := (yX9_reachGoal, cX9_reachGoal, 3, (some .int))
abbrev mX9_ticksUntilGoalIsClear : fz_Mt := (yX9_ticksUntilGoalIsClear, cX9_ticksUntilGoalIsClear, 4, (some .int))
abbrev mX9_lookAtOthers : fz_Mt := (yX9_lookAtOthers, cX9_lookAtOthers, 3, none)
abbrev mX9_avoid : fz_Mt := (yX9_avoid, cX9_avoid, 6, none)
abbrev mX9_spread : fz_Mt := (yX9_spread, cX9_spread, 13, none)
abbrev mX9_narrow : fz_Mt := (yX9_narrow, cX9_narrow, 13, none)
abbrev mX9_follow : fz_Mt := (yX9_follow, cX9_follow, 7, none)
abbrev mX9_leastMove : fz_Mt := (yX9_leastMove, cX9_leastMove, 8, (some .int))
abbrev mX9_empty : fz_Mt := (yX9_empty, cX9_empty, 3, none)
abbrev mX9_add : fz_Mt := (yX9_add, cX9_add, 3, none)
abbrev mX9_holds : fz_Mt := (yX9_holds, cX9_holds, 3, (some .boolean))
abbrev mX9_shiftedLow : fz_Mt := (yX9_shiftedLow, cX9_shiftedLow, 5, (some .long))
abbrev mX9_shiftedHigh : fz_Mt := (yX9_shiftedHigh, cX9_shiftedHigh, 5, (some .long))
abbrev mX10_init : fz_Mt := (yX10_init, cX10_init, 1, none)
abbrev mX10_type : fz_Mt := (yX10_type, cX10_type, 3, (some .int))
abbrev mX10_erase : fz_Mt := (yX10_erase, cX10_erase, 1, (some .int))
abbrev mX10_read : fz_Mt := (yX10_read, cX10_read, 3, (some .int))
abbrev mX10_place : fz_Mt := (yX10_place, cX10_place, 1, (some .int))
abbrev mX10_cell : fz_Mt := (yX10_cell, cX10_cell, 2, (some .int))
abbrev mX10_distance : fz_Mt := (yX10_distance, cX10_distance, 3, (some .int))
abbrev mX10_robot : fz_Mt := (yX10_robot, cX10_robot, 2, (some .int))
abbrev mX10_order : fz_Mt := (yX10_order, cX10_order, 7, (some .int))
abbrev mX10_cancel : fz_Mt := (yX10_cancel, cX10_cancel, 2, (some .int))
abbrev mX10_tick : fz_Mt := (yX10_tick, cX10_tick, 4, (some .int))
abbrev mX10_settle : fz_Mt := (yX10_settle, cX10_settle, 4, (some .int))
abbrev mX10_robotOf : fz_Mt := (yX10_robotOf, cX10_robotOf, 3, (some .int))
abbrev mX10_ahead : fz_Mt := (yX10_ahead, cX10_ahead, 3, (some .int))
abbrev mX10_was : fz_Mt := (yX10_was, cX10_was, 3, (some .int))
abbrev mX10_task : fz_Mt := (yX10_task, cX10_task, 3, (some .int))
abbrev mX10_orderOf : fz_Mt := (yX10_orderOf, cX10_orderOf, 3, (some .int))
abbrev mX10_count : fz_Mt := (yX10_count, cX10_count, 2, (some .int))
abbrev mX10_findFault : fz_Mt := (yX10_findFault, cX10_findFault, 3, (some .int))
abbrev mX10_areShelves : fz_Mt := (yX10_areShelves, cX10_areShelves, 4, (some .boolean))
abbrev mX10_refusalOfTicks : fz_Mt := (yX10_refusalOfTicks, cX10_refusalOfTicks, 2, (some .int))
abbrev mX11_init : fz_Mt := (yX11_init, cX11_init, 1, none)
abbrev mX11_in : fz_Mt := (yX11_in, cX11_in, 3, (some .boolean))
abbrev mX11_type : fz_Mt := (yX11_type, cX11_type, 5, (some .int))
abbrev mX11_erase : fz_Mt := (yX11_erase, cX11_erase, 2, (some .int))
abbrev mX11_kindOf : fz_Mt := (yX11_kindOf, cX11_kindOf, 1, (some .int))
abbrev mX11_wrong : fz_Mt := (yX11_wrong, cX11_wrong, 3, (some .int))
abbrev mX11_readLines : fz_Mt := (yX11_readLines, cX11_readLines, 5, (some .int))
abbrev mX11_hasKind : fz_Mt := (yX11_hasKind, cX11_hasKind, 4, (some .boolean))
abbrev mX11_beside : fz_Mt := (yX11_beside, cX11_beside, 4, (some .int))
abbrev mX11_look : fz_Mt := (yX11_look, cX11_look, 7, none)
abbrev mX11_isApart : fz_Mt := (yX11_isApart, cX11_isApart, 4, (some .boolean))
abbrev mX11_read : fz_Mt := (yX11_read, cX11_read, 3, (some .int))
abbrev mX11_measure : fz_Mt := (yX11_measure, cX11_measure, 7, none)
abbrev mX11_place : fz_Mt := (yX11_place, cX11_place, 1, (some .int))
abbrev mX11_cell : fz_Mt := (yX11_cell, cX11_cell, 2, (some .int))
abbrev mX11_distance : fz_Mt := (yX11_distance, cX11_distance, 3, (some .int))
abbrev mX11_isKind : fz_Mt := (yX11_isKind, cX11_isKind, 3, (some .boolean))
abbrev mX11_at : fz_Mt := (yX11_at, cX11_at, 3, (some .int))
abbrev mX11_endOf : fz_Mt := (yX11_endOf, cX11_endOf, 2, (some .int))
abbrev mX11_robot : fz_Mt := (yX11_robot, cX11_robot, 3, (some .int))
abbrev mX11_addTask : fz_Mt := (yX11_addTask, cX11_addTask, 2, none)
abbrev mX11_order : fz_Mt := (yX11_order, cX11_order, 7, (some .int))
abbrev mX11_isOpen : fz_Mt := (yX11_isOpen, cX11_isOpen, 4, (some .boolean))
abbrev mX11_close : fz_Mt := (yX11_close, cX11_close, 2, none)
abbrev mX11_cancel : fz_Mt := (yX11_cancel, cX11_cancel, 4, (some .int))
abbrev mX11_lastIn : fz_Mt := (yX11_lastIn, cX11_lastIn, 6, (some .int))
abbrev mX11_mayGo : fz_Mt := (yX11_mayGo, cX11_mayGo, 7, (some .boolean))
abbrev mX11_state : fz_Mt := (yX11_state, cX11_state, 3, (some .int))
abbrev mX11_spread : fz_Mt := (yX11_spread, cX11_spread, 8, none)
abbrev mX11_trace : fz_Mt := (yX11_trace, cX11_trace, 9, none)
abbrev mX11_findWay : fz_Mt := (yX11_findWay, cX11_findWay, 9, none)
abbrev mX11_follow : fz_Mt := (yX11_follow, cX11_follow, 12, none)
abbrev mX11_isOthersEnd : fz_Mt := (yX11_isOthersEnd, cX11_isOthersEnd, 5, (some .boolean))
abbrev mX11_fitTask : fz_Mt := (yX11_fitTask, cX11_fitTask, 6, (some .int))
abbrev mX11_isWanted : fz_Mt := (yX11_isWanted, cX11_isWanted, 4, (some .boolean))
abbrev mX11_aside : fz_Mt := (yX11_aside, cX11_aside, 6, (some .int))
abbrev mX11_seek : fz_Mt := (yX11_seek, cX11_seek, 5, none)
abbrev mX11_settleRobot : fz_Mt := (yX11_settleRobot, cX11_settleRobot, 3, none)
abbrev mX11_watch : fz_Mt := (yX11_watch, cX11_watch, 6, none)
abbrev mX11_tickOnce : fz_Mt := (yX11_tickOnce, cX11_tickOnce, 2, none)
abbrev mX11_stay : fz_Mt := (yX11_stay, cX11_stay, 2, none)
abbrev mX11_refusal : fz_Mt := (yX11_refusal, cX11_refusal, 2, (some .int))
abbrev mX11_tick : fz_Mt := (yX11_tick, cX11_tick, 4, (some .int))
abbrev mX11_openOrders : fz_Mt := (yX11_openOrders, cX11_openOrders, 3, (some .int))
abbrev mX11_settle : fz_Mt := (yX11_settle, cX11_settle, 4, (some .int))
abbrev mX11_robotOf : fz_Mt := (yX11_robotOf, cX11_robotOf, 3, (some .int))
abbrev mX11_ahead : fz_Mt := (yX11_ahead, cX11_ahead, 3, (some .int))
abbrev mX11_was : fz_Mt := (yX11_was, cX11_was, 3, (some .int))
abbrev mX11_task : fz_Mt := (yX11_task, cX11_task, 3, (some .int))
abbrev mX11_orderOf : fz_Mt := (yX11_orderOf, cX11_orderOf, 3, (some .int))
abbrev mX11_pending : fz_Mt := (yX11_pending, cX11_pending, 3, (some .int))
abbrev mX11_allMoves : fz_Mt := (yX11_allMoves, cX11_allMoves, 3, (some .int))
abbrev mX11_count : fz_Mt := (yX11_count, cX11_count, 2, (some .int))
abbrev mJ9_max_7cf53 : fz_Mt := (yJ9_max_7cf53, cJ9_max_7cf53, 2, (some .int))
abbrev mJ9_min_7cf53 : fz_Mt := (yJ9_min_7cf53, cJ9_min_7cf53, 2, (some .int))
abbrev mJ7_fill_d0a16 : fz_Mt := (yJ7_fill_d0a16, cJ7_fill_d0a16, 5, none)
abbrev mJ7_fill_53178 : fz_Mt := (yJ7_fill_53178, cJ7_fill_53178, 4, none)
abbrev mL_law : fz_Mt := (yL_law, cL_law, 4, (some .boolean))
def rX0_init : Room := { frames := 2, cells := 16, slots := 9153, locals := 42 }
def rX0_size : Room := { frames := 0, cells := 0, slots := 0, locals := 0 }
def rX0_now : Room := { frames := 0, cells := 0, slots := 0, locals := 0 }
def rX0_ways : Room := { frames := 0, cells := 0, slots := 0, locals := 0 }
def rX0_longestWay : Room := { frames := 0, cells := 0, slots := 0, locals := 0 }
def rX0_alarms : Room := { frames := 1, cells := 0, slots := 0, locals := 20 }
def rX0_moves : Room := { frames := 0, cells := 0, slots := 0, locals := 0 }
def rX0_begin : Room := { frames := 2, cells := 0, slots := 0, locals := 43 }
def rX0_put : Room := { frames := 2, cells := 0, slots := 0, locals := 45 }
def rX0_step : Room := { frames := 5, cells := 0, slots := 0, locals := 130 }
def rX0_lookForWork : Room := { frames := 4, cells := 0, slots := 0, locals := 106 }
def rX0_nearestFit : Room := { frames := 3, cells := 0, slots := 0, locals := 71 }
def rX0_isFit : Room := { frames := 1, cells := 0, slots := 0, locals := 22 }
def rX0_nearestRefuge : Room := { frames := 3, cells := 0, slots := 0, locals := 71 }
def rX0_countWay : Room := { frames := 1, cells := 0, slots := 0, locals := 21 }
def rX0_take : Room := { frames := 2, cells := 0, slots := 0, locals := 45 }
def rX0_goOn : Room := { frames := 3, cells := 0, slots := 0, locals := 67 }
def rX0_workOn : Room := { frames := 2, cells := 0, slots := 0, locals := 44 }
def rX0_tellRobot : Room := { frames := 2, cells := 0, slots := 0, locals := 42 }
def rX0_hasPicked : Room := { frames := 1, cells := 0, slots := 0, locals := 21 }
def rX0_cellIn : Room := { frames := 1, cells := 0, slots := 0, locals := 22 }
def rX0_cellAt : Room := { frames := 1, cells := 0, slots := 0, locals := 22 }
def rX1_init : Room := { frames := 1, cells := 5, slots := 255, locals := 20 }
def rX1_size : Room := { frames := 0, cells := 0, slots := 0, locals := 0 }
def rX1_has : Room := { frames := 0, cells := 0, slots := 0, locals := 0 }
def rX1_kindAt : Room := { frames := 1, cells := 0, slots := 0, locals := 21 }
def rX1_isPlace : Room := { frames := 0, cells := 0, slots := 0, locals := 0 }
def rX1_measured : Room := { frames := 0, cells := 0, slots := 0, locals := 0 }
def rX1_placeInText : Room := { frames := 1, cells := 0, slots := 0, locals := 21 }
def rX1_load : Room := { frames := 4, cells := 0, slots := 0, locals := 87 }
def rX1_findOpenMoves : Room := { frames := 3, cells := 0, slots := 0, locals := 65 }
def rX1_leadsOn : Room := { frames := 2, cells := 0, slots := 0, locals := 42 }
def rX1_isOpen : Room := { frames := 0, cells := 0, slots := 0, locals := 0 }
def rX1_isMove : Room := { frames := 1, cells := 0, slots := 0, locals := 22 }
def rX1_hasAllKinds : Room := { frames := 0, cells := 0, slots := 0, locals := 0 }
def rX1_firstPlaceApart : Room := { frames := 4, cells := 0, slots := 0, locals := 93 }
def rX1_isJoinedToAll : Room := { frames := 3, cells := 0, slots := 0, locals := 71 }
def rX1_measureFrom : Room := { frames := 2, cells := 0, slots := 0, locals := 46 }
def rX1_measureAround : Room := { frames := 1, cells := 0, slots := 0, locals := 22 }
def rX2_init : Room := { frames := 1, cells := 1, slots := 90, locals := 20 }
def rX2_length : Room := { frames := 0, cells := 0, slots := 0, locals := 0 }
def rX2_width : Room := { frames := 0, cells := 0, slots := 0, locals := 0 }
def rX2_faultPlace : Room := { frames := 0, cells := 0, slots := 0, locals := 0 }
def rX2_append : Room := { frames := 1, cells := 0, slots := 0, locals := 22 }
def rX2_wipe : Room := { frames := 0, cells := 0, slots := 0, locals := 0 }
def rX2_kindOf : Room := { frames := 0, cells := 0, slots := 0, locals := 0 }
def rX2_findFault : Room := { frames := 1, cells := 0, slots := 0, locals := 21 }
def rX2_widenLine : Room := { frames := 0, cells := 0, slots := 0, locals := 0 }
def rX2_endLine : Room := { frames := 0, cells := 0, slots := 0, locals := 0 }
def rX2_byteOf : Room := { frames := 0, cells := 0, slots := 0, locals := 0 }
def rX3_init : Room := { frames := 1, cells := 0, slots := 0, locals := 20 }
def rX3_alarms : Room := { frames := 0, cells := 0, slots := 0, locals := 0 }
def rX3_clear : Room := { frames := 0, cells := 0, slots := 0, locals := 0 }
def rX3_look : Room := { frames := 2, cells := 0, slots := 0, locals := 45 }
def rX3_lookAtTwo : Room := { frames := 0, cells := 0, slots := 0, locals := 0 }
def rX4_init : Room := { frames := 1, cells := 0, slots := 0, locals := 20 }
def rX4_begin : Room := { frames := 0, cells := 0, slots := 0, locals := 0 }
def rX4_tell : Room := { frames := 0, cells := 0, slots := 0, locals := 0 }
def rX5_init : Room := { frames := 2, cells := 133, slots := 1260, locals := 40 }
def rX5_size : Room := { frames := 0, cells := 0, slots := 0, locals := 0 }
def rX5_open : Room := { frames := 0, cells := 0, slots := 0, locals := 0 }
def rX5_tasks : Room := { frames := 0, cells := 0, slots := 0, locals := 0 }
def rX5_pending : Room := { frames := 0, cells := 0, slots := 0, locals := 0 }
def rX5_arePendingFor : Room := { frames := 0, cells := 0, slots := 0, locals := 0 }
def rX5_taskAt : Room := { frames := 0, cells := 0, slots := 0, locals := 0 }
def rX5_clear : Room := { frames := 1, cells := 0, slots := 0, locals := 23 }
def rX5_haveRoomFor : Room := { frames := 0, cells := 0, slots := 0, locals := 0 }
def rX5_add : Room := { frames := 1, cells := 0, slots := 0, locals := 24 }
def rX5_addTask : Room := { frames := 1, cells := 0, slots := 0, locals := 24 }
def rX5_cancelPending : Room := { frames := 1, cells := 0, slots := 0, locals := 22 }
def rX5_take : Room := { frames := 1, cells := 0, slots := 0, locals := 22 }
def rX5_pick : Room := { frames := 0, cells := 0, slots := 0, locals := 0 }
def rX5_bring : Room := { frames := 1, cells := 0, slots := 0, locals := 22 }
def rX5_leavePending : Room := { frames := 0, cells := 0, slots := 0, locals := 0 }
def rX5_finishOne : Room := { frames := 0, cells := 0, slots := 0, locals := 0 }
def rX5_tellTask : Room := { frames := 1, cells := 0, slots := 0, locals := 21 }
def rX5_tellOrder : Room := { frames := 1, cells := 0, slots := 0, locals := 21 }
def rX6_init : Room := { frames := 1, cells := 0, slots := 0, locals := 20 }
def rX6_begin : Room := { frames := 0, cells := 0, slots := 0, locals := 0 }
def rX7_init : Room := { frames := 1, cells := 0, slots := 0, locals := 20 }
def rX7_begin : Room := { frames := 0, cells := 0, slots := 0, locals := 0 }
def rX7_tell : Room := { frames := 0, cells := 0, slots := 0, locals := 0 }
def rX8_init : Room := { frames := 1, cells := 4, slots := 5093, locals := 20 }
def rX8_robots : Room := { frames := 0, cells := 0, slots := 0, locals := 0 }
def rX8_endOf : Room := { frames := 0, cells := 0, slots := 0, locals := 0 }
def rX8_endTimeOf : Room := { frames := 0, cells := 0, slots := 0, locals := 0 }
def rX8_ownerOf : Room := { frames := 0, cells := 0, slots := 0, locals := 0 }
def rX8_isEndOfOther : Room := { frames := 0, cells := 0, slots := 0, locals := 0 }
def rX8_clear : Room := { frames := 1, cells := 0, slots := 0, locals := 23 }
def rX8_add : Room := { frames := 1, cells := 0, slots := 0, locals := 24 }
def rX8_cellAt : Room := { frames := 0, cells := 0, slots := 0, locals := 0 }
def rX8_write : Room := { frames := 0, cells := 0, slots := 0, locals := 0 }
def rX8_setEnd : Room := { frames := 0, cells := 0, slots := 0, locals := 0 }
def rX8_keep : Room := { frames := 1, cells := 0, slots := 0, locals := 24 }
def rX9_init : Room := { frames := 1, cells := 2, slots := 4014, locals := 20 }
def rX9_begin : Room := { frames := 0, cells := 0, slots := 0, locals := 0 }
def rX9_find : Room := { frames := 3, cells := 0, slots := 0, locals := 78 }
def rX9_reachGoal : Room := { frames := 2, cells := 0, slots := 0, locals := 56 }
def rX9_ticksUntilGoalIsClear : Room := { frames := 1, cells := 0, slots := 0, locals := 22 }
def rX9_lookAtOthers : Room := { frames := 1, cells := 0, slots := 0, locals := 26 }
def rX9_avoid : Room := { frames := 0, cells := 0, slots := 0, locals := 0 }
def rX9_spread : Room := { frames := 1, cells := 0, slots := 0, locals := 24 }
def rX9_narrow : Room := { frames := 1, cells := 0, slots := 0, locals := 24 }
def rX9_follow : Room := { frames := 2, cells := 0, slots := 0, locals := 49 }
def rX9_leastMove : Room := { frames := 1, cells := 0, slots := 0, locals := 22 }
def rX9_empty : Room := { frames := 0, cells := 0, slots := 0, locals := 0 }
def rX9_add : Room := { frames := 0, cells := 0, slots := 0, locals := 0 }
def rX9_holds : Room := { frames := 0, cells := 0, slots := 0, locals := 0 }
def rX9_shiftedLow : Room := { frames := 0, cells := 0, slots := 0, locals := 0 }
def rX9_shiftedHigh : Room := { frames := 0, cells := 0, slots := 0, locals := 0 }
def rX10_init : Room := { frames := 3, cells := 165, slots := 11050, locals := 65 }
def rX10_type : Room := { frames := 2, cells := 0, slots := 0, locals := 46 }
def rX10_erase : Room := { frames := 1, cells := 0, slots := 0, locals := 21 }
def rX10_read : Room := { frames := 6, cells := 0, slots := 0, locals := 136 }
def rX10_place : Room := { frames := 0, cells := 0, slots := 0, locals := 0 }
def rX10_cell : Room := { frames := 2, cells := 0, slots := 0, locals := 42 }
def rX10_distance : Room := { frames := 3, cells := 0, slots := 0, locals := 71 }
def rX10_robot : Room := { frames := 3, cells := 0, slots := 0, locals := 66 }
def rX10_order : Room := { frames := 3, cells := 0, slots := 0, locals := 65 }
def rX10_cancel : Room := { frames := 2, cells := 0, slots := 0, locals := 48 }
def rX10_tick : Room := { frames := 6, cells := 0, slots := 0, locals := 151 }
def rX10_settle : Room := { frames := 6, cells := 0, slots := 0, locals := 151 }
def rX10_robotOf : Room := { frames := 3, cells := 0, slots := 0, locals := 64 }
def rX10_ahead : Room := { frames := 2, cells := 0, slots := 0, locals := 44 }
def rX10_was : Room := { frames := 2, cells := 0, slots := 0, locals := 44 }
def rX10_task : Room := { frames := 2, cells := 0, slots := 0, locals := 43 }
def rX10_orderOf : Room := { frames := 2, cells := 0, slots := 0, locals := 43 }
def rX10_count : Room := { frames := 2, cells := 0, slots := 0, locals := 40 }
def rX10_findFault : Room := { frames := 5, cells := 0, slots := 0, locals := 114 }
def rX10_areShelves : Room := { frames := 2, cells := 0, slots := 0, locals := 42 }
def rX10_refusalOfTicks : Room := { frames := 1, cells := 0, slots := 0, locals := 20 }
def rX11_init : Room := { frames := 1, cells := 0, slots := 0, locals := 20 }
def rX11_in : Room := { frames := 0, cells := 0, slots := 0, locals := 0 }
def rX11_type : Room := { frames := 0, cells := 0, slots := 0, locals := 0 }
def rX11_erase : Room := { frames := 0, cells := 0, slots := 0, locals := 0 }
def rX11_kindOf : Room := { frames := 0, cells := 0, slots := 0, locals := 0 }
def rX11_wrong : Room := { frames := 0, cells := 0, slots := 0, locals := 0 }
def rX11_readLines : Room := { frames := 1, cells := 0, slots := 0, locals := 22 }
def rX11_hasKind : Room := { frames := 0, cells := 0, slots := 0, locals := 0 }
def rX11_beside : Room := { frames := 0, cells := 0, slots := 0, locals := 0 }
def rX11_look : Room := { frames := 1, cells := 0, slots := 0, locals := 23 }
def rX11_isApart : Room := { frames := 2, cells := 0, slots := 0, locals := 49 }
def rX11_read : Room := { frames := 3, cells := 0, slots := 0, locals := 72 }
def rX11_measure : Room := { frames := 1, cells := 0, slots := 0, locals := 23 }
def rX11_place : Room := { frames := 0, cells := 0, slots := 0, locals := 0 }
def rX11_cell : Room := { frames := 1, cells := 0, slots := 0, locals := 22 }
def rX11_distance : Room := { frames := 1, cells := 0, slots := 0, locals := 22 }
def rX11_isKind : Room := { frames := 1, cells := 0, slots := 0, locals := 22 }
def rX11_at : Room := { frames := 0, cells := 0, slots := 0, locals := 0 }
def rX11_endOf : Room := { frames := 1, cells := 0, slots := 0, locals := 22 }
def rX11_robot : Room := { frames := 2, cells := 0, slots := 0, locals := 44 }
def rX11_addTask : Room := { frames := 0, cells := 0, slots := 0, locals := 0 }
def rX11_order : Room := { frames := 2, cells := 0, slots := 0, locals := 44 }
def rX11_isOpen : Room := { frames := 0, cells := 0, slots := 0, locals := 0 }
def rX11_close : Room := { frames := 1, cells := 0, slots := 0, locals := 23 }
def rX11_cancel : Room := { frames := 2, cells := 0, slots := 0, locals := 44 }
def rX11_lastIn : Room := { frames := 2, cells := 0, slots := 0, locals := 43 }
def rX11_mayGo : Room := { frames := 1, cells := 0, slots := 0, locals := 22 }
def rX11_state : Room := { frames := 0, cells := 0, slots := 0, locals := 0 }
def rX11_spread : Room := { frames := 2, cells := 0, slots := 0, locals := 48 }
def rX11_trace : Room := { frames := 2, cells := 0, slots := 0, locals := 48 }
def rX11_findWay : Room := { frames := 3, cells := 0, slots := 0, locals := 79 }
def rX11_follow : Room := { frames := 2, cells := 0, slots := 0, locals := 48 }
def rX11_isOthersEnd : Room := { frames := 2, cells := 0, slots := 0, locals := 43 }
def rX11_fitTask : Room := { frames := 3, cells := 0, slots := 0, locals := 67 }
def rX11_isWanted : Room := { frames := 0, cells := 0, slots := 0, locals := 0 }
def rX11_aside : Room := { frames := 3, cells := 0, slots := 0, locals := 67 }
def rX11_seek : Room := { frames := 4, cells := 0, slots := 0, locals := 107 }
def rX11_settleRobot : Room := { frames := 2, cells := 0, slots := 0, locals := 44 }
def rX11_watch : Room := { frames := 1, cells := 0, slots := 0, locals := 23 }
def rX11_tickOnce : Room := { frames := 5, cells := 0, slots := 0, locals := 131 }
def rX11_stay : Room := { frames := 2, cells := 0, slots := 0, locals := 43 }
def rX11_refusal : Room := { frames := 1, cells := 0, slots := 0, locals := 22 }
def rX11_tick : Room := { frames := 6, cells := 0, slots := 0, locals := 152 }
def rX11_openOrders : Room := { frames := 1, cells := 0, slots := 0, locals := 23 }
def rX11_settle : Room := { frames := 6, cells := 0, slots := 0, locals := 152 }
def rX11_robotOf : Room := { frames := 2, cells := 0, slots := 0, locals := 43 }
def rX11_ahead : Room := { frames := 2, cells := 0, slots := 0, locals := 43 }
def rX11_was : Room := { frames := 1, cells := 0, slots := 0, locals := 22 }
def rX11_task : Room := { frames := 1, cells := 0, slots := 0, locals := 22 }
def rX11_orderOf : Room := { frames := 1, cells := 0, slots := 0, locals := 23 }
def rX11_pending : Room := { frames := 0, cells := 0, slots := 0, locals := 0 }
def rX11_allMoves : Room := { frames := 0, cells := 0, slots := 0, locals := 0 }
def rX11_count : Room := { frames := 2, cells := 0, slots := 0, locals := 45 }
def rJ9_max_7cf53 : Room := { frames := 0, cells := 0, slots := 0, locals := 0 }
def rJ9_min_7cf53 : Room := { frames := 0, cells := 0, slots := 0, locals := 0 }
def rJ7_fill_d0a16 : Room := { frames := 0, cells := 0, slots := 0, locals := 0 }
def rJ7_fill_53178 : Room := { frames := 0, cells := 0, slots := 0, locals := 0 }
def rL_law : Room := { frames := 7, cells := 0, slots := 0, locals := 175 }
end
section
/-! OWN MACHINE. Values, cells, worlds: an address is a pair (which entry of the world, which one of it); a world is a list of entries over a base; a walk's goal fz_J hides all that the kit's W carries along. -/
abbrev fz_V : Type := Int32 ⊕ (Int64 ⊕ Option (Nat × Nat))
abbrev zI (x : Int32) : fz_V := .inl x
abbrev zL (x : Int64) : fz_V := .inr (.inl x)
abbrev zR (k i : Nat) : fz_V := .inr (.inr (some (k, i)))
abbrev zN : fz_V := .inr (.inr none)
/-- objects (class, how many, fields); arrays of int kinds (type, how many, length, contents); of longs; of references -/
abbrev fz_E : Type := (Nat × Nat × (Nat → List fz_V)) ⊕ ((Nat × Nat × Nat × (Nat → Nat → Int32)) ⊕ ((Nat × Nat × Nat × (Nat → Nat → Int64)) ⊕ (Nat × Nat × Nat × (Nat → Nat → Option (Nat × Nat)))))
abbrev fz_W : Type := List (Nat × fz_E)
abbrev fz_G : Type := Launch × va_G × (Nat → ClassId) × Nat × (Nat → Nat → Nat)
/-- a method: name, code, locals, what it returns -/
abbrev fz_M : Type := MethodName × ByteArray × Nat × Option FieldType
abbrev zo (ci n : Nat) (F : Nat → List fz_V) : fz_E := .inl (ci, n, F)
abbrev zi (t n len : Nat) (f : Nat → Nat → Int32) : fz_E := .inr (.inl (t, n, len, f))
abbrev zl (t n len : Nat) (f : Nat → Nat → Int64) : fz_E := .inr (.inr (.inl (t, n, len, f)))
abbrev zq (t n len : Nat) (f : Nat → Nat → Option (Nat × Nat)) : fz_E := .inr (.inr (.inr (t, n, len, f)))
def fz_v (G : fz_G) (v : fz_V) : Value := match v with
  | .inl x => .int x
  | .inr (.inl x) => .long x
  | .inr (.inr none) => .null
  | .inr (.inr (some q)) => .ref (G.2.2.2.2 q.1 q.2)
def fz_n (x : fz_E) : Nat := match x with
  | .inl a => a.2.1
  | .inr (.inl a) => a.2.1
  | .inr (.inr (.inl a)) => a.2.1
  | .inr (.inr (.inr a)) => a.2.1
def fz_c (G : fz_G) (x : fz_E) (i : Nat) : va_E := match x with
  | .inl a => .inr (a.1, (a.2.2 i).map (fz_v G))
  | .inr (.inl a) => .inl (G.2.2.1 a.1, a.2.2.1, .inl (a.2.2.2 i))
  | .inr (.inr (.inl a)) => .inl (G.2.2.1 a.1, a.2.2.1, .inr (.inl (a.2.2.2 i)))
  | .inr (.inr (.inr a)) => .inl (G.2.2.1 a.1, a.2.2.1, .inr (.inr (.inr (.inr (fun j => (a.2.2.2 i j).map (fun q => G.2.2.2.2 q.1 q.2))))))
def fz_A (G : fz_G) : Nat → Prop := fun q => G.2.2.2.1 ≤ q
def fz_tys (G : fz_G) : List (ClassId × FieldType) := fz_tyL.zipIdx.map (fun q => (G.2.2.1 q.2, q.1))
theorem fz_ty {G : fz_G} {t : Nat} {ty : FieldType} (h : fz_tyL[t]? = some ty) : (fz_tys G)[t]? = some (G.2.2.1 t, ty) := by
  simp [fz_tys, List.getElem?_map, List.getElem?_zipIdx, h]
def fz_d : fz_W → (Nat → fz_E) → Nat → fz_E
  | [], E => E
  | q :: V, E => fun j => if j = q.1 then q.2 else fz_d V E j
def fz_lk : fz_W → Nat → Option fz_E
  | [], _ => none
  | q :: V, k => if k = q.1 then some q.2 else fz_lk V k
def fz_st : fz_W → Nat → fz_E → fz_W
  | [], _, _ => []
  | q :: V, k, x => if k = q.1 then (q.1, x) :: V else q :: fz_st V k x
theorem fz_d_c {E : Nat → fz_E} {q : Nat × fz_E} {V : fz_W} {j : Nat} : fz_d (q :: V) E j = if j = q.1 then q.2 else fz_d V E j := rfl
theorem fz_lk_c {q : Nat × fz_E} {V : fz_W} {k : Nat} : fz_lk (q :: V) k = if k = q.1 then some q.2 else fz_lk V k := rfl
theorem fz_st_c {q : Nat × fz_E} {V : fz_W} {k : Nat} {x : fz_E} : fz_st (q :: V) k x = if k = q.1 then (q.1, x) :: V else q :: fz_st V k x := rfl
theorem fz_d_eq {E : Nat → fz_E} {k : Nat} : ∀ {V : fz_W}, fz_d V E k = (fz_lk V k).getD (E k)
  | [] => rfl
  | q :: V => by
    rw [fz_d_c, fz_lk_c]
    by_cases hk : k = q.1
    · rw [if_pos hk, if_pos hk, Option.getD_some]
    · rw [if_neg hk, if_neg hk]
      exact fz_d_eq
theorem fz_d_lk {E : Nat → fz_E} {k : Nat} {x : fz_E} {V : fz_W} (h : fz_lk V k = some x) : fz_d V E k = x := by
  rw [fz_d_eq, h]; rfl
theorem fz_lk_st {k : Nat} {x y : fz_E} {j : Nat} : ∀ {V : fz_W}, fz_lk V k = some y → fz_lk (fz_st V k x) j = if j = k then some x else fz_lk V j
  | [], h => by cases h
  | q :: V, h => by
    rw [fz_lk_c] at h
    rw [fz_st_c]
    by_cases hk : k = q.1
    · rw [if_pos hk, fz_lk_c, fz_lk_c, ← hk]
      by_cases hj : j = k
      · simp only [if_pos hj]
      · simp only [if_neg hj]
    · rw [if_neg hk] at h ⊢
      rw [fz_lk_c, fz_lk_c, fz_lk_st h]
      by_cases hj : j = q.1
      · have hjk : ¬ j = k := fun z => hk (z.symm.trans hj)
        simp only [if_pos hj, if_neg hjk]
      · simp only [if_neg hj]
theorem fz_d_st {E : Nat → fz_E} {k : Nat} {x y : fz_E} {V : fz_W} (h : fz_lk V k = some y) : fz_d (fz_st V k x) E = va_up (fz_d V E) k x := by
  funext j
  rw [fz_d_eq, fz_lk_st h]
  unfold va_up
  by_cases hj : j = k
  · rw [if_pos hj, if_pos hj]; rfl
  · rw [if_neg hj, if_neg hj, fz_d_eq]
/-- the first world's entries are the second's -/
def fz_sub : fz_W → fz_W → Prop
  | [], _ => True
  | q :: U, V => fz_lk V q.1 = some q.2 ∧ fz_sub U V
theorem fz_d_sub {E : Nat → fz_E} {V : fz_W} : ∀ {U : fz_W}, fz_sub U V → fz_d U (fz_d V E) = fz_d V E
  | [], _ => rfl
  | q :: U, h => by
    funext j
    rw [fz_d_c]
    by_cases hj : j = q.1
    · rw [if_pos hj, hj]
      exact (fz_d_lk h.1).symm
    · rw [if_neg hj]
      exact congrFun (fz_d_sub h.2) j
/-- behind a call: the callee's entries in the caller's order -/
def fz_mg (U : fz_W) : fz_W → fz_W
  | [] => []
  | q :: V => (q.1, (fz_lk U q.1).getD q.2) :: fz_mg U V
def fz_in : fz_W → fz_W → Bool
  | [], _ => true
  | q :: U, V => (fz_lk V q.1).isSome && fz_in U V
theorem fz_mg_c {U : fz_W} {q : Nat × fz_E} {V : fz_W} : fz_mg U (q :: V) = (q.1, (fz_lk U q.1).getD q.2) :: fz_mg U V := rfl
theorem fz_lk_mg {U : fz_W} {k : Nat} : ∀ {V : fz_W}, fz_lk (fz_mg U V) k = (fz_lk V k).map (fun y => (fz_lk U k).getD y)
  | [] => rfl
  | q :: V => by
    rw [fz_mg_c, fz_lk_c, fz_lk_c]
    by_cases hk : k = q.1
    · rw [if_pos hk, if_pos hk, Option.map_some, hk]
    · rw [if_neg hk, if_neg hk]
      exact fz_lk_mg
theorem fz_in_lk {V : fz_W} {k : Nat} {x : fz_E} : ∀ {U : fz_W}, fz_in U V = true → fz_lk U k = some x → (fz_lk V k).isSome = true
  | [], _, h => by cases h
  | q :: U, h, h2 => by
    have h : ((fz_lk V q.1).isSome && fz_in U V) = true := h
    rw [Bool.and_eq_true] at h
    rw [fz_lk_c] at h2
    by_cases hk : k = q.1
    · rw [hk]; exact h.1
    · rw [if_neg hk] at h2
      exact fz_in_lk h.2 h2
theorem fz_d_mg {E : Nat → fz_E} {U V : fz_W} (h : fz_in U V = true) : fz_d U (fz_d V E) = fz_d (fz_mg U V) E := by
  funext k
  rw [fz_d_eq, fz_d_eq, fz_d_eq, fz_lk_mg]
  cases h1 : fz_lk U k with
  | none => cases h2 : fz_lk V k <;> rfl
  | some x =>
    have h3 := fz_in_lk h h1
    cases h2 : fz_lk V k with
    | none => rw [h2] at h3; cases h3
    | some y => rfl
/-- the heap holds the world -/
def fz_R (G : fz_G) (E : Nat → fz_E) (H : Heap) : Prop := ∃ (L : List Nat) (f : Nat → va_E), va_P G.2.1 classes (va_pl L f) H ∧ va_D (fz_A G) (va_pl L f) ∧ (∀ k i, i < fz_n (E k) → G.2.2.2.2 k i ∈ L ∧ f (G.2.2.2.2 k i) = fz_c G (E k) i) ∧ (∀ k i k' i', i < fz_n (E k) → i' < fz_n (E k') → G.2.2.2.2 k i = G.2.2.2.2 k' i' → k = k' ∧ i = i')
theorem fz_upd {G : fz_G} {V : fz_W} {E0 : Nat → fz_E} {k i : Nat} {y x : fz_E} {L : List Nat} {f : Nat → va_E} {H1 : Heap} (hV : fz_lk V k = some y) (hi : i < fz_n y) (hn : fz_n x = fz_n y) (ho : ∀ i', i' < fz_n y → i' ≠ i → fz_c G x i' = fz_c G y i')
    (hE : ∀ k i, i < fz_n (fz_d V E0 k) → G.2.2.2.2 k i ∈ L ∧ f (G.2.2.2.2 k i) = fz_c G (fz_d V E0 k) i) (hJ : ∀ k i k' i', i < fz_n (fz_d V E0 k) → i' < fz_n (fz_d V E0 k') → G.2.2.2.2 k i = G.2.2.2.2 k' i' → k = k' ∧ i = i')
    (hP : va_P G.2.1 classes (va_pl L (va_up f (G.2.2.2.2 k i) (fz_c G x i))) H1) (hD : va_D (fz_A G) (va_pl L (va_up f (G.2.2.2.2 k i) (fz_c G x i)))) : fz_R G (fz_d (fz_st V k x) E0) H1 := by
  have hk : fz_d V E0 k = y := fz_d_lk hV
  have key : ∀ k', fz_n (va_up (fz_d V E0) k x k') = fz_n (fz_d V E0 k') := by
    intro k'
    unfold va_up
    by_cases h : k' = k
    · rw [if_pos h, h, hk, hn]
    · rw [if_neg h]
  rw [fz_d_st hV]
  refine ⟨L, _, hP, hD, fun k' i' h' => ?_, fun k1 i1 k2 i2 h1 h2 => ?_⟩
  · rw [key] at h'
    obtain ⟨g1, g2⟩ := hE k' i' h'
    refine ⟨g1, ?_⟩
    by_cases hq : k' = k
    · subst hq
      by_cases hqi : i' = i
      · subst hqi
        rw [va_up_self, va_up_self]
      · rw [va_up_ne _ _ (fun z => hqi (hJ k' i' k' i h' (by rw [hk]; exact hi) z).2), va_up_self, g2, hk]
        exact (ho i' (by rw [← hk]; exact h') hqi).symm
    · rw [va_up_ne _ _ (fun z => hq (hJ k' i' k i h' (by rw [hk]; exact hi) z).1), va_up_ne _ _ hq, g2]
  · rw [key] at h1 h2
    exact hJ k1 i1 k2 i2 h1 h2
/-- the nest mates' words -/
def fz_Nw (U : State) : Prop := ∀ w ∈ fz_nest, va_Nw w U
/-- what a walk knows of the machine: the method's own and the tables' -/
def fz_C (G : fz_G) (M : fz_M) (p : Program) (s : State) (m : MethodId) (args : Array Value) (meth : Method) (c : Code) : Prop :=
  p.tables.exec = Jvm.exec ∧ c.code = M.2.1 ∧ meth.sig.returnType = M.2.2.2 ∧ c.maxLocals = M.2.2.1 ∧ s.vm.findClass M.1.cls = some m.cls ∧ (∀ w ∈ fz_tb, w.before args s = true) ∧ meth.locks = false ∧ meth.name = M.1.name ∧ va_K G.2.1 classes (fz_tys G) s ∧ fz_Nw s ∧ G.2.2.2.1 ≤ s.heap.size
/-- THE GOAL OF A WALK: method M, room R, end Z, base E0, made so far cs cells of sl slots, at pc with locals ls, stack st, world V -/
def fz_J (G : fz_G) (M : fz_M) (R : Room) (Z : List Frame → Array Value → State → State → Prop) (E0 : Nat → fz_E) (cs sl : Nat) (pc : Nat) (ls : List (Nat × fz_V)) (st : List fz_V) (V : fz_W) : Prop :=
  ∀ (p : Program) (e : Env) (s : State) (m : MethodId) (args : Array Value) (below : List Frame) (meth : Method) (c : Code) (H : Heap) (locs : List Loc) (la : Array Slot),
    fz_C G M p s m args meth c → fz_R G (fz_d V E0) H → va_S (fz_A G) s.heap H locs → lv_has la M.2.2.1 (ls.map fun q => (q.1, fz_v G q.2)) →
    W p G.1 e R s m args below meth c H locs cs sl (Z below args s) (F0 m pc la (st.map (fz_v G)))
def fz_Qc (G : fz_G) (E0 : Nat → fz_E) (Q : Option fz_V → fz_W → Prop) : Array Value → State → Outcome → State → Prop := fun _ st o t => (∃ (r : Option fz_V) (V : fz_W), o = .returned (r.map (fz_v G)) ∧ Q r V ∧ fz_R G (fz_d V E0) t.heap) ∧ va_F (fz_A G) st t
def fz_Z (G : fz_G) (E0 : Nat → fz_E) (mc ms : Nat) (Q : Option fz_V → fz_W → Prop) : List Frame → Array Value → State → State → Prop := fun below args s => MQ below (fz_Qc G E0 Q) args s mc ms (fz_A G)
def fz_Pc (G : fz_G) (E0 : Nat → fz_E) (as : List fz_V) (V : fz_W) : Array Value → State → Prop := fun v U => v = (as.map (fz_v G)).toArray ∧ fz_R G (fz_d V E0) U.heap ∧ va_K G.2.1 classes (fz_tys G) U ∧ fz_Nw U ∧ G.2.2.2.1 ≤ U.heap.size
def fz_ws (M : fz_M) : List Cond := .code M.1 M.2.1 M.2.2.1 M.2.2.2 :: fz_tb
/-- A METHOD'S CONTRACT: called with as over world V it answers r and leaves a world V', and 'Q r V'' -/
def fz_T (G : fz_G) (M : fz_M) (R : Room) (as : List fz_V) (V : fz_W) (Q : Option fz_V → fz_W → Prop) : Prop := ∀ E0 : Nat → fz_E, Met G.1 M.1 (fz_ws M) R (fz_Pc G E0 as V) (fz_Qc G E0 Q) R.cells R.slots (fz_A G)
def fz_cat (v : fz_V) : Nat := match v with
  | .inr (.inl _) => 2
  | _ => 1
theorem fz_cat_eq (G : fz_G) (v : fz_V) : (fz_v G v).category = fz_cat v := by
  rcases v with x | x | x | x <;> rfl
def fz_args : Nat → List fz_V → List (Nat × fz_V)
  | _, [] => []
  | i, v :: vs => (i, v) :: fz_args (if fz_cat v = 2 then i + 2 else i + 1) vs
theorem fz_args_map (G : fz_G) : ∀ (vs : List fz_V) (i : Nat), lv_args i (vs.map (fz_v G)) = (fz_args i vs).map fun q => (q.1, fz_v G q.2)
  | [], _ => rfl
  | v :: vs, i => by
    show (i, fz_v G v) :: lv_args (if (fz_v G v).category = 2 then i + 2 else i + 1) (vs.map (fz_v G)) = _
    rw [fz_cat_eq, fz_args_map G vs]
    rfl
def fz_wd : List fz_V → Nat
  | [] => 0
  | v :: vs => fz_cat v + fz_wd vs
theorem fz_wd_sl (G : fz_G) : ∀ vs : List fz_V, (lg_sl (vs.map (fz_v G))).length = fz_wd vs
  | [] => rfl
  | v :: vs => by
    have h : lg_sl ((v :: vs).map (fz_v G)) = (if (fz_v G v).category = 2 then [.val (fz_v G v), .second] else [.val (fz_v G v)]) ++ lg_sl (vs.map (fz_v G)) := rfl
    rw [h, List.length_append, fz_wd_sl G vs, fz_cat_eq]
    rcases v with x | x | x | x <;> rfl
theorem fz_wd_sum (G : fz_G) : ∀ vs : List fz_V, (((vs.map (fz_v G)).map fun v => v.category).sum) = fz_wd vs
  | [] => rfl
  | v :: vs => by
    show (fz_v G v).category + (((vs.map (fz_v G)).map fun v => v.category).sum) = _
    rw [fz_cat_eq, fz_wd_sum G vs]
    rfl
theorem fz_T.of {G : fz_G} {M : fz_M} {R : Room} {as : List fz_V} {V : fz_W} {Q : Option fz_V → fz_W → Prop} (hy : plainName M.1.cls = true) (hn : fz_wd as ≤ M.2.2.1) (h : ∀ E0, fz_J G M R (fz_Z G E0 R.cells R.slots Q) E0 0 0 0 (fz_args 0 as) [] V) : fz_T G M R as V Q := by
  intro E0
  refine Met.ofW (cc := M.2.1) (maxL := M.2.2.1) (ret := M.2.2.2) hy rfl ?_
  intro p e s m args below meth c s₁ B hml hv
  obtain ⟨rfl, hR, hK, hN, hb⟩ := hv
  have hts := atoms_spec (ws := fz_ws M) B.pre
  have hl := lv_entry (as.map (fz_v G)) (n := M.2.2.1) (by rw [fz_wd_sl]; exact hn)
  rw [fz_args_map] at hl
  rw [lg_entry_eq]
  exact h E0 p e s m _ below meth c s.heap [] _ ⟨B.exec, B.bytes, B.returns, hml, findClass_of_methodNamed B.named, fun w hw => hts w (List.mem_cons_of_mem _ hw), B.notSynchronized, (name_of_methodNamed B.named B.method).1, hK, hN, hb⟩ hR va_S.rf hl
theorem fz_T.mono {G : fz_G} {M : fz_M} {R : Room} {as : List fz_V} {V : fz_W} {Q Q' : Option fz_V → fz_W → Prop} (h : fz_T G M R as V Q) (hq : ∀ r V', Q r V' → Q' r V') : fz_T G M R as V Q' := by
  intro E0 p e ha hc hk s m args below hf h1 h2 h3
  obtain ⟨k, o, a1, a2, a3, a4⟩ := h E0 p e ha hc hk s m args below hf h1 h2 h3
  obtain ⟨⟨⟨r, V', b1, b2, b3⟩, b4⟩, b5⟩ := a4
  exact ⟨k, o, a1, a2, a3, ⟨⟨r, V', b1, hq r V' b2, b3⟩, b4⟩, b5⟩
section FZ
variable {G : fz_G} {M : fz_M} {R : Room} {Z : List Frame → Array Value → State → State → Prop} {E0 : Nat → fz_E} {cs sl pc : Nat} {ls : List (Nat × fz_V)} {st : List fz_V} {V : fz_W}
theorem fz_iadd {x y : Int32} (hd : decode M.2.1 pc = .ok (.iadd, 1)) (k : fz_J G M R Z E0 cs sl (pc + 1) ls (zI (x + y) :: st) V) : fz_J G M R Z E0 cs sl pc ls (zI y :: zI x :: st) V := by
  intro p e s m args below meth c H locs la hC hR hS hl
  exact lv_iadd hC.1 hC.2.1 hd  (k p e s m args below meth c H locs la hC hR hS hl)
theorem fz_isub {x y : Int32} (hd : decode M.2.1 pc = .ok (.isub, 1)) (k : fz_J G M R Z E0 cs sl (pc + 1) ls (zI (x - y) :: st) V) : fz_J G M R Z E0 cs sl pc ls (zI y :: zI x :: st) V := by
  intro p e s m args below meth c H locs la hC hR hS hl
  exact lv_isub hC.1 hC.2.1 hd  (k p e s m args below meth c H locs la hC hR hS hl)
theorem fz_imul {x y : Int32} (hd : decode M.2.1 pc = .ok (.imul, 1)) (k : fz_J G M R Z E0 cs sl (pc + 1) ls (zI (x * y) :: st) V) : fz_J G M R Z E0 cs sl pc ls (zI y :: zI x :: st) V := by
  intro p e s m args below meth c H locs la hC hR hS hl
  exact lv_imul hC.1 hC.2.1 hd  (k p e s m args below meth c H locs la hC hR hS hl)
theorem fz_iand {x y : Int32} (hd : decode M.2.1 pc = .ok (.iand, 1)) (k : fz_J G M R Z E0 cs sl (pc + 1) ls (zI (x &&& y) :: st) V) : fz_J G M R Z E0 cs sl pc ls (zI y :: zI x :: st) V := by
  intro p e s m args below meth c H locs la hC hR hS hl
  exact lv_iand hC.1 hC.2.1 hd  (k p e s m args below meth c H locs la hC hR hS hl)
theorem fz_ior {x y : Int32} (hd : decode M.2.1 pc = .ok (.ior, 1)) (k : fz_J G M R Z E0 cs sl (pc + 1) ls (zI (x ||| y) :: st) V) : fz_J G M R Z E0 cs sl pc ls (zI y :: zI x :: st) V := by
  intro p e s m args below meth c H locs la hC hR hS hl
  exact lv_ior hC.1 hC.2.1 hd  (k p e s m args below meth c H locs la hC hR hS hl)
theorem fz_ixor {x y : Int32} (hd : decode M.2.1 pc = .ok (.ixor, 1)) (k : fz_J G M R Z E0 cs sl (pc + 1) ls (zI (x ^^^ y) :: st) V) : fz_J G M R Z E0 cs sl pc ls (zI y :: zI x :: st) V := by
  intro p e s m args below meth c H locs la hC hR hS hl
  exact lv_ixor hC.1 hC.2.1 hd  (k p e s m args below meth c H locs la hC hR hS hl)
theorem fz_ineg {x : Int32} (hd : decode M.2.1 pc = .ok (.ineg, 1)) (k : fz_J G M R Z E0 cs sl (pc + 1) ls (zI (-x) :: st) V) : fz_J G M R Z E0 cs sl pc ls (zI x :: st) V := by
  intro p e s m args below meth c H locs la hC hR hS hl
  exact lv_ineg hC.1 hC.2.1 hd  (k p e s m args below meth c H locs la hC hR hS hl)
theorem fz_ladd {x y : Int64} (hd : decode M.2.1 pc = .ok (.ladd, 1)) (k : fz_J G M R Z E0 cs sl (pc + 1) ls (zL (x + y) :: st) V) : fz_J G M R Z E0 cs sl pc ls (zL y :: zL x :: st) V := by
  intro p e s m args below meth c H locs la hC hR hS hl
  exact lv_ladd hC.1 hC.2.1 hd  (k p e s m args below meth c H locs la hC hR hS hl)
theorem fz_lsub {x y : Int64} (hd : decode M.2.1 pc = .ok (.lsub, 1)) (k : fz_J G M R Z E0 cs sl (pc + 1) ls (zL (x - y) :: st) V) : fz_J G M R Z E0 cs sl pc ls (zL y :: zL x :: st) V := by
  intro p e s m args below meth c H locs la hC hR hS hl
  exact lv_lsub hC.1 hC.2.1 hd  (k p e s m args below meth c H locs la hC hR hS hl)
theorem fz_land {x y : Int64} (hd : decode M.2.1 pc = .ok (.land, 1)) (k : fz_J G M R Z E0 cs sl (pc + 1) ls (zL (x &&& y) :: st) V) : fz_J G M R Z E0 cs sl pc ls (zL y :: zL x :: st) V := by
  intro p e s m args below meth c H locs la hC hR hS hl
  exact lv_land hC.1 hC.2.1 hd  (k p e s m args below meth c H locs la hC hR hS hl)
theorem fz_lor {x y : Int64} (hd : decode M.2.1 pc = .ok (.lor, 1)) (k : fz_J G M R Z E0 cs sl (pc + 1) ls (zL (x ||| y) :: st) V) : fz_J G M R Z E0 cs sl pc ls (zL y :: zL x :: st) V := by
  intro p e s m args below meth c H locs la hC hR hS hl
  exact lv_lor hC.1 hC.2.1 hd  (k p e s m args below meth c H locs la hC hR hS hl)
theorem fz_lxor {x y : Int64} (hd : decode M.2.1 pc = .ok (.lxor, 1)) (k : fz_J G M R Z E0 cs sl (pc + 1) ls (zL (x ^^^ y) :: st) V) : fz_J G M R Z E0 cs sl pc ls (zL y :: zL x :: st) V := by
  intro p e s m args below meth c H locs la hC hR hS hl
  exact lv_lxor hC.1 hC.2.1 hd  (k p e s m args below meth c H locs la hC hR hS hl)
theorem fz_ishl {x y : Int32} (hd : decode M.2.1 pc = .ok (.ishl, 1)) (k : fz_J G M R Z E0 cs sl (pc + 1) ls (zI (x <<< (y &&& 31)) :: st) V) : fz_J G M R Z E0 cs sl pc ls (zI y :: zI x :: st) V := by
  intro p e s m args below meth c H locs la hC hR hS hl
  exact lv_ishl hC.1 hC.2.1 hd  (k p e s m args below meth c H locs la hC hR hS hl)
theorem fz_ishr {x y : Int32} (hd : decode M.2.1 pc = .ok (.ishr, 1)) (k : fz_J G M R Z E0 cs sl (pc + 1) ls (zI (x >>> (y &&& 31)) :: st) V) : fz_J G M R Z E0 cs sl pc ls (zI y :: zI x :: st) V := by
  intro p e s m args below meth c H locs la hC hR hS hl
  exact lv_ishr hC.1 hC.2.1 hd  (k p e s m args below meth c H locs la hC hR hS hl)
theorem fz_iushr {x y : Int32} (hd : decode M.2.1 pc = .ok (.iushr, 1)) (k : fz_J G M R Z E0 cs sl (pc + 1) ls (zI (x.toUInt32 >>> (y.toUInt32 &&& Int32.toUInt32 31)).toInt32 :: st) V) : fz_J G M R Z E0 cs sl pc ls (zI y :: zI x :: st) V := by
  intro p e s m args below meth c H locs la hC hR hS hl
  exact lv_iushr hC.1 hC.2.1 hd rfl (k p e s m args below meth c H locs la hC hR hS hl)
theorem fz_lshl {x : Int64} {y : Int32} (hd : decode M.2.1 pc = .ok (.lshl, 1)) (k : fz_J G M R Z E0 cs sl (pc + 1) ls (zL (x <<< (y.toInt64 &&& 63)) :: st) V) : fz_J G M R Z E0 cs sl pc ls (zI y :: zL x :: st) V := by
  intro p e s m args below meth c H locs la hC hR hS hl
  exact lv_lshl hC.1 hC.2.1 hd rfl (k p e s m args below meth c H locs la hC hR hS hl)
theorem fz_lshr {x : Int64} {y : Int32} (hd : decode M.2.1 pc = .ok (.lshr, 1)) (k : fz_J G M R Z E0 cs sl (pc + 1) ls (zL (x >>> (y.toInt64 &&& 63)) :: st) V) : fz_J G M R Z E0 cs sl pc ls (zI y :: zL x :: st) V := by
  intro p e s m args below meth c H locs la hC hR hS hl
  exact lv_lshr hC.1 hC.2.1 hd rfl (k p e s m args below meth c H locs la hC hR hS hl)
theorem fz_lushr {x : Int64} {y : Int32} (hd : decode M.2.1 pc = .ok (.lushr, 1)) (k : fz_J G M R Z E0 cs sl (pc + 1) ls (zL (x.toUInt64 >>> (y.toInt64.toUInt64 &&& Int64.toUInt64 63)).toInt64 :: st) V) : fz_J G M R Z E0 cs sl pc ls (zI y :: zL x :: st) V := by
  intro p e s m args below meth c H locs la hC hR hS hl
  exact lv_lushr hC.1 hC.2.1 hd rfl (k p e s m args below meth c H locs la hC hR hS hl)
theorem fz_i2l {x : Int32} (hd : decode M.2.1 pc = .ok (.i2l, 1)) (k : fz_J G M R Z E0 cs sl (pc + 1) ls (zL x.toInt64 :: st) V) : fz_J G M R Z E0 cs sl pc ls (zI x :: st) V := by
  intro p e s m args below meth c H locs la hC hR hS hl
  exact lv_i2l hC.1 hC.2.1 hd rfl (k p e s m args below meth c H locs la hC hR hS hl)
theorem fz_l2i {x : Int64} (hd : decode M.2.1 pc = .ok (.l2i, 1)) (k : fz_J G M R Z E0 cs sl (pc + 1) ls (zI x.toInt32 :: st) V) : fz_J G M R Z E0 cs sl pc ls (zL x :: st) V := by
  intro p e s m args below meth c H locs la hC hR hS hl
  exact lv_l2i hC.1 hC.2.1 hd rfl (k p e s m args below meth c H locs la hC hR hS hl)
theorem fz_lcmp {x y : Int64} (hd : decode M.2.1 pc = .ok (.lcmp, 1)) (k : fz_J G M R Z E0 cs sl (pc + 1) ls (zI (lg_cmp x y) :: st) V) : fz_J G M R Z E0 cs sl pc ls (zL y :: zL x :: st) V := by
  intro p e s m args below meth c H locs la hC hR hS hl
  exact W.lcmp hC.1 hC.2.1 hd  (k p e s m args below meth c H locs la hC hR hS hl)
theorem fz_null  (hd : decode M.2.1 pc = .ok (.aconst_null, 1)) (k : fz_J G M R Z E0 cs sl (pc + 1) ls (zN :: st) V) : fz_J G M R Z E0 cs sl pc ls (st) V := by
  intro p e s m args below meth c H locs la hC hR hS hl
  exact lv_null hC.1 hC.2.1 hd  (k p e s m args below meth c H locs la hC hR hS hl)
theorem fz_iconst {n : Int} {v : Int32} (hd : decode M.2.1 pc = .ok (.iconst n, 1)) (hv : Int32.ofInt n = v) (k : fz_J G M R Z E0 cs sl (pc + 1) ls (zI v :: st) V) : fz_J G M R Z E0 cs sl pc ls st V := by
  intro p e s m args below meth c H locs la hC hR hS hl
  exact lv_iconst hC.1 hC.2.1 hd hv (k p e s m args below meth c H locs la hC hR hS hl)
theorem fz_bipush {n : Int} {v : Int32} (hd : decode M.2.1 pc = .ok (.bipush n, 2)) (hv : (Int8.ofInt n).toInt32 = v) (k : fz_J G M R Z E0 cs sl (pc + 2) ls (zI v :: st) V) : fz_J G M R Z E0 cs sl pc ls st V := by
  intro p e s m args below meth c H locs la hC hR hS hl
  exact lv_bipush hC.1 hC.2.1 hd hv (k p e s m args below meth c H locs la hC hR hS hl)
theorem fz_sipush {n : Int} {v : Int32} (hd : decode M.2.1 pc = .ok (.sipush n, 3)) (hv : (Int16.ofInt n).toInt32 = v) (k : fz_J G M R Z E0 cs sl (pc + 3) ls (zI v :: st) V) : fz_J G M R Z E0 cs sl pc ls st V := by
  intro p e s m args below meth c H locs la hC hR hS hl
  exact lv_sipush hC.1 hC.2.1 hd hv (k p e s m args below meth c H locs la hC hR hS hl)
theorem fz_lconst {n : Fin 2} {v : Int64} (hd : decode M.2.1 pc = .ok (.lconst n, 1)) (hv : Int64.ofNat (n : Nat) = v) (k : fz_J G M R Z E0 cs sl (pc + 1) ls (zL v :: st) V) : fz_J G M R Z E0 cs sl pc ls st V := by
  intro p e s m args below meth c H locs la hC hR hS hl
  exact lv_lconst hC.1 hC.2.1 hd hv (k p e s m args below meth c H locs la hC hR hS hl)
theorem fz_ldc {idx : Nat} {v : Int32} (hd : decode M.2.1 pc = .ok (.ldc idx, 2)) (hw : Cond.constant M.1.cls idx v ∈ fz_tb) (k : fz_J G M R Z E0 cs sl (pc + 2) ls (zI v :: st) V) : fz_J G M R Z E0 cs sl pc ls st V := by
  intro p e s m args below meth c H locs la hC hR hS hl
  exact lv_ldc hC.1 hC.2.1 hC.2.2.2.2.1 (hC.2.2.2.2.2.1 _ hw) hd (k p e s m args below meth c H locs la hC hR hS hl)
theorem fz_ldc2 {idx : Nat} {v : Int64} (hd : decode M.2.1 pc = .ok (.ldc2_w idx, 3)) (hw : Cond.constantLong M.1.cls idx v ∈ fz_tb) (k : fz_J G M R Z E0 cs sl (pc + 3) ls (zL v :: st) V) : fz_J G M R Z E0 cs sl pc ls st V := by
  intro p e s m args below meth c H locs la hC hR hS hl
  exact lv_ldc2 hC.1 hC.2.1 hC.2.2.2.2.1 (hC.2.2.2.2.2.1 _ hw) hd (k p e s m args below meth c H locs la hC hR hS hl)
def fz_lo : List (Nat × fz_V) → Nat → Option fz_V
  | [], _ => none
  | q :: l, i => if i = q.1 then some q.2 else fz_lo l i
theorem fz_lo_at {la : Array Slot} {nL i : Nat} {v : fz_V} : ∀ {l : List (Nat × fz_V)}, lv_has la nL (l.map fun q => (q.1, fz_v G q.2)) → fz_lo l i = some v → la[i]? = some (.val (fz_v G v))
  | [], _, h => by cases h
  | q :: l, hl, h => by
    unfold fz_lo at h
    by_cases hi : i = q.1
    · rw [if_pos hi] at h
      cases h
      rw [hi]
      exact hl.2.2 (q.1, fz_v G q.2) (by simp)
    · rw [if_neg hi] at h
      exact fz_lo_at (l := l) ⟨hl.1, hl.2.1, fun z hz => hl.2.2 z (by simp at hz ⊢; exact Or.inr hz)⟩ h
def fz_s1 (l : List (Nat × fz_V)) (i : Nat) (v : fz_V) : List (Nat × fz_V) := (i, v) :: l.filter (fun q => !(q.1 == i) && !(q.1 + 1 == i && fz_cat q.2 == 2))
def fz_s2 (l : List (Nat × fz_V)) (i : Nat) (v : fz_V) : List (Nat × fz_V) := (i, v) :: l.filter (fun q => !(q.1 == i) && (!(q.1 == i + 1) && !(q.1 + 1 == i && fz_cat q.2 == 2)))
theorem fz_s1_map (l : List (Nat × fz_V)) (i : Nat) (v : fz_V) : (i, fz_v G v) :: (l.map fun q => (q.1, fz_v G q.2)).filter (fun q => !(q.1 == i) && !(q.1 + 1 == i && q.2.category == 2)) = (fz_s1 l i v).map fun q => (q.1, fz_v G q.2) := by
  unfold fz_s1
  rw [List.map_cons, List.filter_map]
  congr 2
  apply List.filter_congr
  intro q _
  simp only [Function.comp, fz_cat_eq]
theorem fz_s2_map (l : List (Nat × fz_V)) (i : Nat) (v : fz_V) : (i, fz_v G v) :: (l.map fun q => (q.1, fz_v G q.2)).filter (fun q => !(q.1 == i) && (!(q.1 == i + 1) && !(q.1 + 1 == i && q.2.category == 2))) = (fz_s2 l i v).map fun q => (q.1, fz_v G q.2) := by
  unfold fz_s2
  rw [List.map_cons, List.filter_map]
  congr 2
  apply List.filter_congr
  intro q _
  simp only [Function.comp, fz_cat_eq]
theorem fz_iload_n {k4 : Fin 4} {x : Int32} (hd : decode M.2.1 pc = .ok (.iload_n k4, 1)) (hv : fz_lo ls k4 = some (zI x)) (k : fz_J G M R Z E0 cs sl (pc + 1) ls (zI x :: st) V) : fz_J G M R Z E0 cs sl pc ls st V := by
  intro p e s m args below meth c H locs la hC hR hS hl
  exact lv_iload_n hC.1 hC.2.1 hd rfl (fz_lo_at hl hv) (k p e s m args below meth c H locs la hC hR hS hl)
theorem fz_iload {i : Nat} {x : Int32} (hd : decode M.2.1 pc = .ok (.iload i, 2)) (hv : fz_lo ls i = some (zI x)) (k : fz_J G M R Z E0 cs sl (pc + 2) ls (zI x :: st) V) : fz_J G M R Z E0 cs sl pc ls st V := by
  intro p e s m args below meth c H locs la hC hR hS hl
  exact lv_iload hC.1 hC.2.1 hd (fz_lo_at hl hv) (k p e s m args below meth c H locs la hC hR hS hl)
theorem fz_istore_n {k4 : Fin 4} {x : Int32} (hd : decode M.2.1 pc = .ok (.istore_n k4, 1)) (hb : (k4 : Nat) < M.2.2.1) (k : fz_J G M R Z E0 cs sl (pc + 1) (fz_s1 ls k4 (zI x)) st V) : fz_J G M R Z E0 cs sl pc ls (zI x :: st) V := by
  intro p e s m args below meth c H locs la hC hR hS hl
  exact lv_istore_n hC.1 hC.2.1 hd rfl hl hb (fz_s1_map ls _ (zI x)) (fun la hl => (k p e s m args below meth c H locs la hC hR hS hl))
theorem fz_istore {i : Nat} {x : Int32} (hd : decode M.2.1 pc = .ok (.istore i, 2)) (hb : i < M.2.2.1) (k : fz_J G M R Z E0 cs sl (pc + 2) (fz_s1 ls i (zI x)) st V) : fz_J G M R Z E0 cs sl pc ls (zI x :: st) V := by
  intro p e s m args below meth c H locs la hC hR hS hl
  exact lv_istore hC.1 hC.2.1 hd hl hb (fz_s1_map ls _ (zI x)) (fun la hl => (k p e s m args below meth c H locs la hC hR hS hl))
theorem fz_lload_n {k4 : Fin 4} {x : Int64} (hd : decode M.2.1 pc = .ok (.lload_n k4, 1)) (hv : fz_lo ls k4 = some (zL x)) (k : fz_J G M R Z E0 cs sl (pc + 1) ls (zL x :: st) V) : fz_J G M R Z E0 cs sl pc ls st V := by
  intro p e s m args below meth c H locs la hC hR hS hl
  exact lv_lload_n hC.1 hC.2.1 hd rfl (fz_lo_at hl hv) (k p e s m args below meth c H locs la hC hR hS hl)
theorem fz_lload {i : Nat} {x : Int64} (hd : decode M.2.1 pc = .ok (.lload i, 2)) (hv : fz_lo ls i = some (zL x)) (k : fz_J G M R Z E0 cs sl (pc + 2) ls (zL x :: st) V) : fz_J G M R Z E0 cs sl pc ls st V := by
  intro p e s m args below meth c H locs la hC hR hS hl
  exact lv_lload hC.1 hC.2.1 hd (fz_lo_at hl hv) (k p e s m args below meth c H locs la hC hR hS hl)
theorem fz_lstore_n {k4 : Fin 4} {x : Int64} (hd : decode M.2.1 pc = .ok (.lstore_n k4, 1)) (hb : (k4 : Nat) + 1 < M.2.2.1) (k : fz_J G M R Z E0 cs sl (pc + 1) (fz_s2 ls k4 (zL x)) st V) : fz_J G M R Z E0 cs sl pc ls (zL x :: st) V := by
  intro p e s m args below meth c H locs la hC hR hS hl
  exact lv_lstore_n hC.1 hC.2.1 hd rfl hl hb (fz_s2_map ls _ (zL x)) (fun la hl => (k p e s m args below meth c H locs la hC hR hS hl))
theorem fz_lstore {i : Nat} {x : Int64} (hd : decode M.2.1 pc = .ok (.lstore i, 2)) (hb : i + 1 < M.2.2.1) (k : fz_J G M R Z E0 cs sl (pc + 2) (fz_s2 ls i (zL x)) st V) : fz_J G M R Z E0 cs sl pc ls (zL x :: st) V := by
  intro p e s m args below meth c H locs la hC hR hS hl
  exact lv_lstore hC.1 hC.2.1 hd hl hb (fz_s2_map ls _ (zL x)) (fun la hl => (k p e s m args below meth c H locs la hC hR hS hl))
theorem fz_aload_n {k4 : Fin 4} {k0 i0 : Nat} (hd : decode M.2.1 pc = .ok (.aload_n k4, 1)) (hv : fz_lo ls k4 = some (zR k0 i0)) (k : fz_J G M R Z E0 cs sl (pc + 1) ls (zR k0 i0 :: st) V) : fz_J G M R Z E0 cs sl pc ls st V := by
  intro p e s m args below meth c H locs la hC hR hS hl
  exact lv_aload_n hC.1 hC.2.1 hd rfl (fz_lo_at hl hv) (k p e s m args below meth c H locs la hC hR hS hl)
theorem fz_aload {i k0 i0 : Nat} (hd : decode M.2.1 pc = .ok (.aload i, 2)) (hv : fz_lo ls i = some (zR k0 i0)) (k : fz_J G M R Z E0 cs sl (pc + 2) ls (zR k0 i0 :: st) V) : fz_J G M R Z E0 cs sl pc ls st V := by
  intro p e s m args below meth c H locs la hC hR hS hl
  exact lv_aload hC.1 hC.2.1 hd (fz_lo_at hl hv) (k p e s m args below meth c H locs la hC hR hS hl)
theorem fz_astore_n {k4 : Fin 4} {k0 i0 : Nat} (hd : decode M.2.1 pc = .ok (.astore_n k4, 1)) (hb : (k4 : Nat) < M.2.2.1) (k : fz_J G M R Z E0 cs sl (pc + 1) (fz_s1 ls k4 (zR k0 i0)) st V) : fz_J G M R Z E0 cs sl pc ls (zR k0 i0 :: st) V := by
  intro p e s m args below meth c H locs la hC hR hS hl
  exact lv_astore_n hC.1 hC.2.1 hd rfl hl hb (fz_s1_map ls _ (zR k0 i0)) (fun la hl => (k p e s m args below meth c H locs la hC hR hS hl))
theorem fz_astore {i k0 i0 : Nat} (hd : decode M.2.1 pc = .ok (.astore i, 2)) (hb : i < M.2.2.1) (k : fz_J G M R Z E0 cs sl (pc + 2) (fz_s1 ls i (zR k0 i0)) st V) : fz_J G M R Z E0 cs sl pc ls (zR k0 i0 :: st) V := by
  intro p e s m args below meth c H locs la hC hR hS hl
  exact lv_astore hC.1 hC.2.1 hd hl hb (fz_s1_map ls _ (zR k0 i0)) (fun la hl => (k p e s m args below meth c H locs la hC hR hS hl))
theorem fz_iinc {i : Nat} {n : Int} {x : Int32} (hd : decode M.2.1 pc = .ok (.iinc i n, 3)) (hv : fz_lo ls i = some (zI x)) (hb : i < M.2.2.1) (k : fz_J G M R Z E0 cs sl (pc + 3) (fz_s1 ls i (zI (x + Int32.ofInt n))) st V) : fz_J G M R Z E0 cs sl pc ls st V := by
  intro p e s m args below meth c H locs la hC hR hS hl
  obtain ⟨z, hz⟩ : ∃ z : Nat, (ls.map fun q => (q.1, fz_v G q.2))[z]? = some (i, .int x) := by
    have key : ∀ l : List (Nat × fz_V), fz_lo l i = some (zI x) → (i, Value.int x) ∈ (l.map fun q => (q.1, fz_v G q.2)) := by
      intro l
      induction l with
      | nil => intro h; cases h
      | cons q l ih =>
        intro h
        unfold fz_lo at h
        by_cases hi : i = q.1
        · rw [if_pos hi] at h
          have h2 := Option.some.inj h
          rw [List.map_cons, h2, hi]
          exact List.mem_cons_self
        · rw [if_neg hi] at h
          exact List.mem_cons_of_mem _ (ih h)
    exact List.getElem?_of_mem (key ls hv)
  exact lv_iinc hC.1 hC.2.1 hd hl (k := z) hz rfl hb (fz_s1_map ls _ (zI (x + Int32.ofInt n))) (fun la hl => (k p e s m args below meth c H locs la hC hR hS hl))
theorem fz_dup {a : fz_V} (hd : decode M.2.1 pc = .ok (.dup, 1)) (ha : fz_cat a = 1) (k : fz_J G M R Z E0 cs sl (pc + 1) ls (a :: a :: st) V) : fz_J G M R Z E0 cs sl pc ls (a :: st) V := by
  intro p e s m args below meth c H locs la hC hR hS hl
  exact lv_dup hC.1 hC.2.1 hd ((fz_cat_eq G a).trans ha) (k p e s m args below meth c H locs la hC hR hS hl)
theorem fz_pop {a : fz_V} (hd : decode M.2.1 pc = .ok (.pop, 1)) (ha : fz_cat a = 1) (k : fz_J G M R Z E0 cs sl (pc + 1) ls (st) V) : fz_J G M R Z E0 cs sl pc ls (a :: st) V := by
  intro p e s m args below meth c H locs la hC hR hS hl
  exact lv_pop hC.1 hC.2.1 hd ((fz_cat_eq G a).trans ha) (k p e s m args below meth c H locs la hC hR hS hl)
theorem fz_dup_x1 {a b : fz_V} (hd : decode M.2.1 pc = .ok (.dup_x1, 1)) (ha : fz_cat a = 1) (hb : fz_cat b = 1) (k : fz_J G M R Z E0 cs sl (pc + 1) ls (a :: b :: a :: st) V) : fz_J G M R Z E0 cs sl pc ls (a :: b :: st) V := by
  intro p e s m args below meth c H locs la hC hR hS hl
  exact lv_dup_x1 hC.1 hC.2.1 hd ((fz_cat_eq G a).trans ha) ((fz_cat_eq G b).trans hb) (k p e s m args below meth c H locs la hC hR hS hl)
theorem fz_dup_x2 {a b w : fz_V} (hd : decode M.2.1 pc = .ok (.dup_x2, 1)) (ha : fz_cat a = 1) (hb : fz_cat b = 1) (hw : fz_cat w = 1) (k : fz_J G M R Z E0 cs sl (pc + 1) ls (a :: b :: w :: a :: st) V) : fz_J G M R Z E0 cs sl pc ls (a :: b :: w :: st) V := by
  intro p e s m args below meth c H locs la hC hR hS hl
  exact lv_dup_x2 hC.1 hC.2.1 hd ((fz_cat_eq G a).trans ha) ((fz_cat_eq G b).trans hb) ((fz_cat_eq G w).trans hw) (k p e s m args below meth c H locs la hC hR hS hl)
theorem fz_dup2_11 {a b : fz_V} (hd : decode M.2.1 pc = .ok (.dup2, 1)) (ha : fz_cat a = 1) (hb : fz_cat b = 1) (k : fz_J G M R Z E0 cs sl (pc + 1) ls (a :: b :: a :: b :: st) V) : fz_J G M R Z E0 cs sl pc ls (a :: b :: st) V := by
  intro p e s m args below meth c H locs la hC hR hS hl
  exact lv_dup2_11 hC.1 hC.2.1 hd ((fz_cat_eq G a).trans ha) ((fz_cat_eq G b).trans hb) (k p e s m args below meth c H locs la hC hR hS hl)
theorem fz_dup2_2 {a : fz_V} (hd : decode M.2.1 pc = .ok (.dup2, 1)) (ha : fz_cat a = 2) (k : fz_J G M R Z E0 cs sl (pc + 1) ls (a :: a :: st) V) : fz_J G M R Z E0 cs sl pc ls (a :: st) V := by
  intro p e s m args below meth c H locs la hC hR hS hl
  exact lv_dup2_2 hC.1 hC.2.1 hd ((fz_cat_eq G a).trans ha) (k p e s m args below meth c H locs la hC hR hS hl)
theorem fz_dup2_x2_2 {a b w : fz_V} (hd : decode M.2.1 pc = .ok (.dup2_x2, 1)) (ha : fz_cat a = 2) (hb : fz_cat b = 1) (hw : fz_cat w = 1) (k : fz_J G M R Z E0 cs sl (pc + 1) ls (a :: b :: w :: a :: st) V) : fz_J G M R Z E0 cs sl pc ls (a :: b :: w :: st) V := by
  intro p e s m args below meth c H locs la hC hR hS hl
  exact lv_dup2_x2_2 hC.1 hC.2.1 hd ((fz_cat_eq G a).trans ha) ((fz_cat_eq G b).trans hb) ((fz_cat_eq G w).trans hw) (k p e s m args below meth c H locs la hC hR hS hl)
theorem fz_dup2_x1_2 {a b : fz_V} (hd : decode M.2.1 pc = .ok (.dup2_x1, 1)) (ha : fz_cat a = 2) (hb : fz_cat b = 1) (k : fz_J G M R Z E0 cs sl (pc + 1) ls (a :: b :: a :: st) V) : fz_J G M R Z E0 cs sl pc ls (a :: b :: st) V := by
  intro p e s m args below meth c H locs la hC hR hS hl
  exact lv_dup2_x1_2 hC.1 hC.2.1 hd ((fz_cat_eq G a).trans ha) ((fz_cat_eq G b).trans hb) (k p e s m args below meth c H locs la hC hR hS hl)
theorem fz_if_eq {x : Int32} {off : Int} {tgt : Nat} (hd : decode M.2.1 pc = .ok (.ifCond .eq off, 3)) (ht : (pc : Int) + off = (tgt : Int)) (k1 : x = 0 → fz_J G M R Z E0 cs sl tgt ls st V) (k2 : ¬ x = 0 → fz_J G M R Z E0 cs sl (pc + 3) ls st V) : fz_J G M R Z E0 cs sl pc ls (zI x :: st) V := by
  intro p e s m args below meth c H locs la hC hR hS hl
  exact lv_if_eq hC.1 hC.2.1 hd ht (fun z => k1 z p e s m args below meth c H locs la hC hR hS hl) (fun z => k2 z p e s m args below meth c H locs la hC hR hS hl)
theorem fz_icmp_eq {x y : Int32} {off : Int} {tgt : Nat} (hd : decode M.2.1 pc = .ok (.if_icmp .eq off, 3)) (ht : (pc : Int) + off = (tgt : Int)) (k1 : x = y → fz_J G M R Z E0 cs sl tgt ls st V) (k2 : ¬ x = y → fz_J G M R Z E0 cs sl (pc + 3) ls st V) : fz_J G M R Z E0 cs sl pc ls (zI y :: zI x :: st) V := by
  intro p e s m args below meth c H locs la hC hR hS hl
  exact lv_icmp_eq hC.1 hC.2.1 hd ht (fun z => k1 z p e s m args below meth c H locs la hC hR hS hl) (fun z => k2 z p e s m args below meth c H locs la hC hR hS hl)
theorem fz_if_ne {x : Int32} {off : Int} {tgt : Nat} (hd : decode M.2.1 pc = .ok (.ifCond .ne off, 3)) (ht : (pc : Int) + off = (tgt : Int)) (k1 : ¬ x = 0 → fz_J G M R Z E0 cs sl tgt ls st V) (k2 : x = 0 → fz_J G M R Z E0 cs sl (pc + 3) ls st V) : fz_J G M R Z E0 cs sl pc ls (zI x :: st) V := by
  intro p e s m args below meth c H locs la hC hR hS hl
  exact lv_if_ne hC.1 hC.2.1 hd ht (fun z => k1 z p e s m args below meth c H locs la hC hR hS hl) (fun z => k2 z p e s m args below meth c H locs la hC hR hS hl)
theorem fz_icmp_ne {x y : Int32} {off : Int} {tgt : Nat} (hd : decode M.2.1 pc = .ok (.if_icmp .ne off, 3)) (ht : (pc : Int) + off = (tgt : Int)) (k1 : ¬ x = y → fz_J G M R Z E0 cs sl tgt ls st V) (k2 : x = y → fz_J G M R Z E0 cs sl (pc + 3) ls st V) : fz_J G M R Z E0 cs sl pc ls (zI y :: zI x :: st) V := by
  intro p e s m args below meth c H locs la hC hR hS hl
  exact lv_icmp_ne hC.1 hC.2.1 hd ht (fun z => k1 z p e s m args below meth c H locs la hC hR hS hl) (fun z => k2 z p e s m args below meth c H locs la hC hR hS hl)
theorem fz_if_lt {x : Int32} {off : Int} {tgt : Nat} (hd : decode M.2.1 pc = .ok (.ifCond .lt off, 3)) (ht : (pc : Int) + off = (tgt : Int)) (k1 : x < 0 → fz_J G M R Z E0 cs sl tgt ls st V) (k2 : ¬ x < 0 → fz_J G M R Z E0 cs sl (pc + 3) ls st V) : fz_J G M R Z E0 cs sl pc ls (zI x :: st) V := by
  intro p e s m args below meth c H locs la hC hR hS hl
  exact lv_if_lt hC.1 hC.2.1 hd ht (fun z => k1 z p e s m args below meth c H locs la hC hR hS hl) (fun z => k2 z p e s m args below meth c H locs la hC hR hS hl)
theorem fz_icmp_lt {x y : Int32} {off : Int} {tgt : Nat} (hd : decode M.2.1 pc = .ok (.if_icmp .lt off, 3)) (ht : (pc : Int) + off = (tgt : Int)) (k1 : x < y → fz_J G M R Z E0 cs sl tgt ls st V) (k2 : ¬ x < y → fz_J G M R Z E0 cs sl (pc + 3) ls st V) : fz_J G M R Z E0 cs sl pc ls (zI y :: zI x :: st) V := by
  intro p e s m args below meth c H locs la hC hR hS hl
  exact lv_icmp_lt hC.1 hC.2.1 hd ht (fun z => k1 z p e s m args below meth c H locs la hC hR hS hl) (fun z => k2 z p e s m args below meth c H locs la hC hR hS hl)
theorem fz_if_ge {x : Int32} {off : Int} {tgt : Nat} (hd : decode M.2.1 pc = .ok (.ifCond .ge off, 3)) (ht : (pc : Int) + off = (tgt : Int)) (k1 : 0 ≤ x → fz_J G M R Z E0 cs sl tgt ls st V) (k2 : ¬ 0 ≤ x → fz_J G M R Z E0 cs sl (pc + 3) ls st V) : fz_J G M R Z E0 cs sl pc ls (zI x :: st) V := by
  intro p e s m args below meth c H locs la hC hR hS hl
  exact lv_if_ge hC.1 hC.2.1 hd ht (fun z => k1 z p e s m args below meth c H locs la hC hR hS hl) (fun z => k2 z p e s m args below meth c H locs la hC hR hS hl)
theorem fz_icmp_ge {x y : Int32} {off : Int} {tgt : Nat} (hd : decode M.2.1 pc = .ok (.if_icmp .ge off, 3)) (ht : (pc : Int) + off = (tgt : Int)) (k1 : y ≤ x → fz_J G M R Z E0 cs sl tgt ls st V) (k2 : ¬ y ≤ x → fz_J G M R Z E0 cs sl (pc + 3) ls st V) : fz_J G M R Z E0 cs sl pc ls (zI y :: zI x :: st) V := by
  intro p e s m args below meth c H locs la hC hR hS hl
  exact lv_icmp_ge hC.1 hC.2.1 hd ht (fun z => k1 z p e s m args below meth c H locs la hC hR hS hl) (fun z => k2 z p e s m args below meth c H locs la hC hR hS hl)
theorem fz_if_gt {x : Int32} {off : Int} {tgt : Nat} (hd : decode M.2.1 pc = .ok (.ifCond .gt off, 3)) (ht : (pc : Int) + off = (tgt : Int)) (k1 : 0 < x → fz_J G M R Z E0 cs sl tgt ls st V) (k2 : ¬ 0 < x → fz_J G M R Z E0 cs sl (pc + 3) ls st V) : fz_J G M R Z E0 cs sl pc ls (zI x :: st) V := by
  intro p e s m args below meth c H locs la hC hR hS hl
  exact lv_if_gt hC.1 hC.2.1 hd ht (fun z => k1 z p e s m args below meth c H locs la hC hR hS hl) (fun z => k2 z p e s m args below meth c H locs la hC hR hS hl)
theorem fz_icmp_gt {x y : Int32} {off : Int} {tgt : Nat} (hd : decode M.2.1 pc = .ok (.if_icmp .gt off, 3)) (ht : (pc : Int) + off = (tgt : Int)) (k1 : y < x → fz_J G M R Z E0 cs sl tgt ls st V) (k2 : ¬ y < x → fz_J G M R Z E0 cs sl (pc + 3) ls st V) : fz_J G M R Z E0 cs sl pc ls (zI y :: zI x :: st) V := by
  intro p e s m args below meth c H locs la hC hR hS hl
  exact lv_icmp_gt hC.1 hC.2.1 hd ht (fun z => k1 z p e s m args below meth c H locs la hC hR hS hl) (fun z => k2 z p e s m args below meth c H locs la hC hR hS hl)
theorem fz_if_le {x : Int32} {off : Int} {tgt : Nat} (hd : decode M.2.1 pc = .ok (.ifCond .le off, 3)) (ht : (pc : Int) + off = (tgt : Int)) (k1 : x ≤ 0 → fz_J G M R Z E0 cs sl tgt ls st V) (k2 : ¬ x ≤ 0 → fz_J G M R Z E0 cs sl (pc + 3) ls st V) : fz_J G M R Z E0 cs sl pc ls (zI x :: st) V := by
  intro p e s m args below meth c H locs la hC hR hS hl
  exact lv_if_le hC.1 hC.2.1 hd ht (fun z => k1 z p e s m args below meth c H locs la hC hR hS hl) (fun z => k2 z p e s m args below meth c H locs la hC hR hS hl)
theorem fz_icmp_le {x y : Int32} {off : Int} {tgt : Nat} (hd : decode M.2.1 pc = .ok (.if_icmp .le off, 3)) (ht : (pc : Int) + off = (tgt : Int)) (k1 : x ≤ y → fz_J G M R Z E0 cs sl tgt ls st V) (k2 : ¬ x ≤ y → fz_J G M R Z E0 cs sl (pc + 3) ls st V) : fz_J G M R Z E0 cs sl pc ls (zI y :: zI x :: st) V := by
  intro p e s m args below meth c H locs la hC hR hS hl
  exact lv_icmp_le hC.1 hC.2.1 hd ht (fun z => k1 z p e s m args below meth c H locs la hC hR hS hl) (fun z => k2 z p e s m args below meth c H locs la hC hR hS hl)
theorem fz_goto {off : Int} {tgt : Nat} (hd : decode M.2.1 pc = .ok (.goto off, 3)) (ht : (pc : Int) + off = (tgt : Int)) (k : fz_J G M R Z E0 cs sl tgt ls st V) : fz_J G M R Z E0 cs sl pc ls st V := by
  intro p e s m args below meth c H locs la hC hR hS hl
  exact lv_goto hC.1 hC.2.1 hd ht (k p e s m args below meth c H locs la hC hR hS hl)
theorem fz_idiv {x y : Int32} (hd : decode M.2.1 pc = .ok (.idiv, 1)) (hne : ¬ y = 0) (k : fz_J G M R Z E0 cs sl (pc + 1) ls (zI (x / y) :: st) V) : fz_J G M R Z E0 cs sl pc ls (zI y :: zI x :: st) V := by
  intro p e s m args below meth c H locs la hC hR hS hl
  exact lv_idiv hC.1 hC.2.1 hd hne (k p e s m args below meth c H locs la hC hR hS hl)
theorem fz_irem {x y : Int32} (hd : decode M.2.1 pc = .ok (.irem, 1)) (hne : ¬ y = 0) (k : fz_J G M R Z E0 cs sl (pc + 1) ls (zI (x - x / y * y) :: st) V) : fz_J G M R Z E0 cs sl pc ls (zI y :: zI x :: st) V := by
  intro p e s m args below meth c H locs la hC hR hS hl
  exact lv_irem hC.1 hC.2.1 hd hne (k p e s m args below meth c H locs la hC hR hS hl)
theorem fz_lookup {dflt : Int} {ps : Array (Int × Int)} {len : Nat} {x : Int32} {off : Int} {tgt : Nat} (hd : decode M.2.1 pc = .ok (.lookupswitch dflt ps, len)) (hp : (ps.toList.zip (ps.toList.drop 1)).all (fun (a, next) => a.1 < next.1) = true) (ho : Op.lookupswitch.offset ps.toList dflt x.toInt = off) (ht : (pc : Int) + off = (tgt : Int)) (k : fz_J G M R Z E0 cs sl tgt ls st V) : fz_J G M R Z E0 cs sl pc ls (zI x :: st) V := by
  intro p e s m args below meth c H locs la hC hR hS hl
  exact lv_lookup hC.1 hC.2.1 hd hp ho ht (k p e s m args below meth c H locs la hC hR hS hl)
theorem fz_tableOut {dflt lo hi : Int} {offs : Array Int} {len : Nat} {x : Int32} {tgt : Nat} (hd : decode M.2.1 pc = .ok (.tableswitch dflt lo hi offs, len)) (h : x.toInt < lo ∨ hi < x.toInt) (ht : (pc : Int) + dflt = (tgt : Int)) (k : fz_J G M R Z E0 cs sl tgt ls st V) : fz_J G M R Z E0 cs sl pc ls (zI x :: st) V := by
  intro p e s m args below meth c H locs la hC hR hS hl
  exact lv_tableOut hC.1 hC.2.1 hd h ht (k p e s m args below meth c H locs la hC hR hS hl)
theorem fz_tableIn {dflt lo hi : Int} {offs : Array Int} {len : Nat} {x : Int32} {off : Int} {tgt : Nat} (hd : decode M.2.1 pc = .ok (.tableswitch dflt lo hi offs, len)) (h1 : ¬ x.toInt < lo) (h2 : ¬ hi < x.toInt) (ho : offs[(x.toInt - lo).toNat]? = some off) (ht : (pc : Int) + off = (tgt : Int)) (k : fz_J G M R Z E0 cs sl tgt ls st V) : fz_J G M R Z E0 cs sl pc ls (zI x :: st) V := by
  intro p e s m args below meth c H locs la hC hR hS hl
  exact lv_tableIn hC.1 hC.2.1 hd h1 h2 ho ht (k p e s m args below meth c H locs la hC hR hS hl)
theorem fz_name {x : Int32} (k : ∀ y : Int32, y = x → fz_J G M R Z E0 cs sl pc ls (zI y :: st) V) : fz_J G M R Z E0 cs sl pc ls (zI x :: st) V := k x rfl
theorem fz_nameL {x : Int64} (k : ∀ y : Int64, y = x → fz_J G M R Z E0 cs sl pc ls (zL y :: st) V) : fz_J G M R Z E0 cs sl pc ls (zL x :: st) V := k x rfl
theorem fz_top {x y : Int32} (h : x = y) (k : fz_J G M R Z E0 cs sl pc ls (zI y :: st) V) : fz_J G M R Z E0 cs sl pc ls (zI x :: st) V := h ▸ k
theorem fz_topL {x y : Int64} (h : x = y) (k : fz_J G M R Z E0 cs sl pc ls (zL y :: st) V) : fz_J G M R Z E0 cs sl pc ls (zL x :: st) V := h ▸ k
theorem fz_ls {ls' : List (Nat × fz_V)} (h : ls = ls') (k : fz_J G M R Z E0 cs sl pc ls' st V) : fz_J G M R Z E0 cs sl pc ls st V := h ▸ k
theorem fz_wo {V' : fz_W} (h : V = V') (k : fz_J G M R Z E0 cs sl pc ls st V') : fz_J G M R Z E0 cs sl pc ls st V := h ▸ k
/-- fewer locals -/
theorem fz_keep {ls' : List (Nat × fz_V)} (h : ∀ q ∈ ls', q ∈ ls) (k : fz_J G M R Z E0 cs sl pc ls' st V) : fz_J G M R Z E0 cs sl pc ls st V := by
  intro p e s m args below meth c H locs la hC hR hS hl
  refine k p e s m args below meth c H locs la hC hR hS ⟨hl.1, hl.2.1, fun z hz => ?_⟩
  obtain ⟨q, hq, rfl⟩ := List.mem_map.mp hz
  exact hl.2.2 _ (List.mem_map.mpr ⟨q, h q hq, rfl⟩)
/-- field j of class number ci, as the method's class spells it at idx -/
def fz_F (own : String) (idx ci j : Nat) (ty : FieldType) (fin : Bool) : Prop := ∃ (C : String) (T : u_T) (N : Nat) (t0 : Nat → FieldType), classes[ci]? = some (C, T, N) ∧ (∀ w ∈ u_ws C T N, w ∈ fz_tb) ∧ j < N ∧ Cond.fieldLink own idx C (T j).2.1 (T j).2.2.1 ∈ fz_tb ∧ (T j).1 = C ∧ (T j).2.2.2 = fin ∧ parseFieldDescriptor (T j).2.2.1 = some ty ∧ (∀ k, k < N → parseFieldDescriptor (T k).2.2.1 = some (t0 k)) ∧ (∀ a, a < N → ∀ b, b < N → a ≠ b → (T a).2.1 ≠ (T b).2.1)
def fz_ok (G : fz_G) (ty : FieldType) (v : fz_V) : Prop := narrow ty (fz_v G v) = fz_v G v ∧ fits ty (fz_v G v) = true
theorem fz_at {V : fz_W} {E0 : Nat → fz_E} {H : Heap} {k0 i0 : Nat} {x : fz_E} (hR : fz_R G (fz_d V E0) H) (hV : fz_lk V k0 = some x) (hi : i0 < fz_n x) : ∃ (L : List Nat) (f : Nat → va_E) (q0 : Nat), va_P G.2.1 classes (va_pl L f) H ∧ va_D (fz_A G) (va_pl L f) ∧ (∀ k i, i < fz_n (fz_d V E0 k) → G.2.2.2.2 k i ∈ L ∧ f (G.2.2.2.2 k i) = fz_c G (fz_d V E0 k) i) ∧ (∀ k i k' i', i < fz_n (fz_d V E0 k) → i' < fz_n (fz_d V E0 k') → G.2.2.2.2 k i = G.2.2.2.2 k' i' → k = k' ∧ i = i') ∧
    (va_pl L f)[q0]? = some (G.2.2.2.2 k0 i0, fz_c G x i0) ∧ ∀ e : va_E, (va_pl L f).set q0 (G.2.2.2.2 k0 i0, e) = va_pl L (va_up f (G.2.2.2.2 k0 i0) e) := by
  obtain ⟨L, f, hP, hD, hE, hJ⟩ := hR
  have hk : fz_d V E0 k0 = x := fz_d_lk hV
  obtain ⟨g1, g2⟩ := hE k0 i0 (by rw [hk]; exact hi)
  obtain ⟨q0, hq0⟩ := va_pl_get (X := []) (f := f) g1
  have hs := fun e : va_E => va_pl_set (X := []) (e := e) (A := fz_A G) hD g1 hq0
  rw [g2, hk] at hq0
  exact ⟨L, f, q0, hP, hD, hE, hJ, hq0, hs⟩
theorem fz_get {idx ci j n k0 i0 : Nat} {ty : FieldType} {fin : Bool} {F : Nat → List fz_V} {v : fz_V} (hd : decode M.2.1 pc = .ok (.getfield idx, 3)) (hF : fz_F M.1.cls idx ci j ty fin) (hV : fz_lk V k0 = some (zo ci n F)) (hi : i0 < n) (hv : (F i0)[j]? = some v) (k : fz_J G M R Z E0 cs sl (pc + 3) ls (v :: st) V) : fz_J G M R Z E0 cs sl pc ls (zR k0 i0 :: st) V := by
  intro p e s m args below meth c H locs la hC hR hS hl
  obtain ⟨C, T, N, t0, h1, h2, h3, h4, h5, h6, h7, h8, h9⟩ := hF
  obtain ⟨L, f, q0, hP, hD, hE, hJ, hq0, hs⟩ := fz_at hR hV (show i0 < fz_n (zo ci n F) from hi)
  exact va_get (D := G.2.1) (ws := va_pl L f) hC.1 hC.2.1 hC.2.2.2.2.2.1 h2 hC.2.2.2.2.1 hC.2.2.2.2.2.2.2.2.1 hP q0 hq0 h1 j h3 (hC.2.2.2.2.2.1 _ h4) (fun x hx => by rw [h5] at hx; exact hx) (v := fz_v G v) (by rw [List.getElem?_map, hv]; rfl) hd (k p e s m args below meth c H locs la hC hR hS hl)
theorem fz_put {idx ci j n k0 i0 : Nat} {ty : FieldType} {F : Nat → List fz_V} {v : fz_V} (F' : Nat → List fz_V) (hd : decode M.2.1 pc = .ok (.putfield idx, 3)) (hF : fz_F M.1.cls idx ci j ty false) (hV : fz_lk V k0 = some (zo ci n F)) (hi : i0 < n) (hlen : j < (F i0).length) (hok : fz_ok G ty v) (hF1 : F' i0 = (F i0).set j v) (hF2 : ∀ i', i' < n → i' ≠ i0 → F' i' = F i') (k : fz_J G M R Z E0 cs sl (pc + 3) ls st (fz_st V k0 (zo ci n F'))) : fz_J G M R Z E0 cs sl pc ls (v :: zR k0 i0 :: st) V := by
  intro p e s m args below meth c H locs la hC hR hS hl
  obtain ⟨C, T, N, t0, h1, h2, h3, h4, h5, h6, h7, h8, h9⟩ := hF
  obtain ⟨L, f, q0, hP, hD, hE, hJ, hq0, hs⟩ := fz_at hR hV (show i0 < fz_n (zo ci n F) from hi)
  have e1 : fz_c G (zo ci n F') i0 = .inr (ci, ((F i0).map (fz_v G)).set j (fz_v G v)) := by
    show Sum.inr (ci, (F' i0).map (fz_v G)) = _
    rw [hF1, List.map_set]
  refine va_put (D := G.2.1) (ws := va_pl L f) hC.1 hC.2.1 hC.2.2.2.2.2.1 h2 t0 h8 h9 hC.2.2.2.2.1 hC.2.2.2.2.2.2.2.2.1 hP hD hS q0 hq0 h1 j h3 (hC.2.2.2.2.2.1 _ h4) (fun x hx => by rw [h5] at hx; exact hx) h6 h7 hok.1 hok.2 (by rw [List.length_map]; exact hlen) hd (fun H1 locs1 hP1 hD1 hS1 => ?_)
  rw [hs, ← e1] at hP1 hD1
  exact k p e s m args below meth c H1 locs1 la hC (fz_upd hV hi rfl (fun i' h1 h2 => by show Sum.inr (ci, (F' i').map (fz_v G)) = _; rw [hF2 i' h1 h2]; rfl) hE hJ hP1 hD1) hS1 hl
theorem fz_put1 {idx ci j k0 : Nat} {ty : FieldType} {F : Nat → List fz_V} {v : fz_V} (hd : decode M.2.1 pc = .ok (.putfield idx, 3)) (hF : fz_F M.1.cls idx ci j ty false) (hV : fz_lk V k0 = some (zo ci 1 F)) (hlen : j < (F 0).length) (hok : fz_ok G ty v) (k : fz_J G M R Z E0 cs sl (pc + 3) ls st (fz_st V k0 (zo ci 1 (fun _ => (F 0).set j v)))) : fz_J G M R Z E0 cs sl pc ls (v :: zR k0 0 :: st) V :=
  fz_put _ hd hF hV Nat.one_pos hlen hok rfl (fun i' h1 h2 => absurd (Nat.lt_one_iff.mp h1) h2) k
theorem fz_putn {idx ci j n k0 i0 : Nat} {ty : FieldType} {F : Nat → List fz_V} {v : fz_V} (hd : decode M.2.1 pc = .ok (.putfield idx, 3)) (hF : fz_F M.1.cls idx ci j ty false) (hV : fz_lk V k0 = some (zo ci n F)) (hi : i0 < n) (hlen : j < (F i0).length) (hok : fz_ok G ty v) (k : fz_J G M R Z E0 cs sl (pc + 3) ls st (fz_st V k0 (zo ci n (va_up F i0 ((F i0).set j v))))) : fz_J G M R Z E0 cs sl pc ls (v :: zR k0 i0 :: st) V :=
  fz_put _ hd hF hV hi hlen hok (va_up_self _ _ _) (fun i' _ h2 => va_up_ne _ _ h2) k
theorem fz_putF {idx ci j k0 : Nat} {ty : FieldType} {F : Nat → List fz_V} {v : fz_V} (hd : decode M.2.1 pc = .ok (.putfield idx, 3)) (hF : fz_F M.1.cls idx ci j ty true) (hin : M.1.name = "<init>") (hcl : (classes[ci]?).map (fun q => q.1) = some M.1.cls) (hV : fz_lk V k0 = some (zo ci 1 F)) (hlen : j < (F 0).length) (hok : fz_ok G ty v) (k : fz_J G M R Z E0 cs sl (pc + 3) ls st (fz_st V k0 (zo ci 1 (fun _ => (F 0).set j v)))) : fz_J G M R Z E0 cs sl pc ls (v :: zR k0 0 :: st) V := by
  intro p e s m args below meth c H locs la hC hR hS hl
  obtain ⟨C, T, N, t0, h1, h2, h3, h4, h5, h6, h7, h8, h9⟩ := hF
  obtain ⟨L, f, q0, hP, hD, hE, hJ, hq0, hs⟩ := fz_at hR hV (show 0 < fz_n (zo ci 1 F) from Nat.one_pos)
  have e1 : fz_c G (zo ci 1 (fun _ => (F 0).set j v)) 0 = .inr (ci, ((F 0).map (fz_v G)).set j (fz_v G v)) := by
    show Sum.inr (ci, ((F 0).set j v).map (fz_v G)) = _
    rw [List.map_set]
  rw [h1] at hcl
  have hcl2 : C = M.1.cls := Option.some.inj hcl
  refine va_putF (D := G.2.1) (ws := va_pl L f) hC.1 hC.2.1 hC.2.2.2.2.2.1 h2 t0 h8 h9 hC.2.2.2.2.1 hC.2.2.2.2.2.2.2.2.1 hP hD hS q0 hq0 h1 j h3 (hC.2.2.2.2.2.1 _ h4) (fun x hx => by rw [h5] at hx; exact hx) h6 (hC.2.2.2.2.2.2.2.1.trans hin) (h5.trans hcl2) h7 hok.1 hok.2 (by rw [List.length_map]; exact hlen) hd (fun H1 locs1 hP1 hD1 hS1 => ?_)
  rw [hs, ← e1] at hP1 hD1
  exact k p e s m args below meth c H1 locs1 la hC (fz_upd hV Nat.one_pos rfl (fun i' h1 h2 => absurd (Nat.lt_one_iff.mp h1) h2) hE hJ hP1 hD1) hS1 hl
theorem fz_iald {t n len k0 i0 : Nat} {f : Nat → Nat → Int32} {j : Int32} (hd : decode M.2.1 pc = .ok (.iaload, 1)) (ht : fz_tyL[t]? = some .int) (hV : fz_lk V k0 = some (zi t n len f)) (hi : i0 < n) (hj : vp_in j len) (k : fz_J G M R Z E0 cs sl (pc + 1) ls (zI (f i0 j.toNatClampNeg) :: st) V) : fz_J G M R Z E0 cs sl pc ls (zI j :: zR k0 i0 :: st) V := by
  intro p e s m args below meth c H locs la hC hR hS hl
  obtain ⟨L, g, q0, hP, hD, hE, hJ, hq0, hs⟩ := fz_at hR hV (show i0 < fz_n (zi t n len f) from hi)
  exact va_iald (D := G.2.1) (ws := va_pl L g) hC.1 hC.2.1 hC.2.2.2.2.2.2.2.2.1 hP q0 t hq0 (fz_ty ht) hj hd (k p e s m args below meth c H locs la hC hR hS hl)
theorem fz_iast0 {t n len k0 i0 : Nat} {f : Nat → Nat → Int32} {j : Int32} {x : Int32} (f' : Nat → Nat → Int32) (hd : decode M.2.1 pc = .ok (.iastore, 1)) (ht : fz_tyL[t]? = some .int) (hV : fz_lk V k0 = some (zi t n len f)) (hi : i0 < n) (hj : vp_in j len) (h1 : f' i0 = upd (f i0) j.toNatClampNeg x) (h2 : ∀ i', i' < n → i' ≠ i0 → f' i' = f i') (k : fz_J G M R Z E0 cs sl (pc + 1) ls st (fz_st V k0 (zi t n len f'))) : fz_J G M R Z E0 cs sl pc ls (zI x :: zI j :: zR k0 i0 :: st) V := by
  intro p e s m args below meth c H locs la hC hR hS hl
  obtain ⟨L, g, q0, hP, hD, hE, hJ, hq0, hs⟩ := fz_at hR hV (show i0 < fz_n (zi t n len f) from hi)
  have e1 : fz_c G (zi t n len f') i0 = .inl (G.2.2.1 t, len, .inl (upd (f i0) j.toNatClampNeg x)) := by
    rw [← h1]; rfl
  refine va_iast (D := G.2.1) (ws := va_pl L g) hC.1 hC.2.1 hC.2.2.2.2.2.2.2.2.1 hP hD hS q0 t hq0 (fz_ty ht) hj hd (fun H1 locs1 hP1 hD1 hS1 => ?_)
  rw [hs, ← e1] at hP1 hD1
  exact k p e s m args below meth c H1 locs1 la hC (fz_upd hV hi rfl (fun i' h3 h4 => congrArg (fun z => (Sum.inl (G.2.2.1 t, len, .inl z) : va_E)) (h2 i' h3 h4)) hE hJ hP1 hD1) hS1 hl
theorem fz_iast1 {t len k0 : Nat} {f : Nat → Nat → Int32} {j : Int32} {x : Int32} (hd : decode M.2.1 pc = .ok (.iastore, 1)) (ht : fz_tyL[t]? = some .int) (hV : fz_lk V k0 = some (zi t 1 len f)) (hj : vp_in j len) (k : fz_J G M R Z E0 cs sl (pc + 1) ls st (fz_st V k0 (zi t 1 len (fun _ => upd (f 0) j.toNatClampNeg x)))) : fz_J G M R Z E0 cs sl pc ls (zI x :: zI j :: zR k0 0 :: st) V :=
  fz_iast0 _ hd ht hV Nat.one_pos hj rfl (fun i' h1 h2 => absurd (Nat.lt_one_iff.mp h1) h2) k
theorem fz_iastn {t n len k0 i0 : Nat} {f : Nat → Nat → Int32} {j : Int32} {x : Int32} (hd : decode M.2.1 pc = .ok (.iastore, 1)) (ht : fz_tyL[t]? = some .int) (hV : fz_lk V k0 = some (zi t n len f)) (hi : i0 < n) (hj : vp_in j len) (k : fz_J G M R Z E0 cs sl (pc + 1) ls st (fz_st V k0 (zi t n len (va_up f i0 (upd (f i0) j.toNatClampNeg x))))) : fz_J G M R Z E0 cs sl pc ls (zI x :: zI j :: zR k0 i0 :: st) V :=
  fz_iast0 _ hd ht hV hi hj (va_up_self _ _ _) (fun i' _ h2 => va_up_ne _ _ h2) k
theorem fz_lald {t n len k0 i0 : Nat} {f : Nat → Nat → Int64} {j : Int32} (hd : decode M.2.1 pc = .ok (.laload, 1)) (ht : fz_tyL[t]? = some .long) (hV : fz_lk V k0 = some (zl t n len f)) (hi : i0 < n) (hj : vp_in j len) (k : fz_J G M R Z E0 cs sl (pc + 1) ls (zL (f i0 j.toNatClampNeg) :: st) V) : fz_J G M R Z E0 cs sl pc ls (zI j :: zR k0 i0 :: st) V := by
  intro p e s m args below meth c H locs la hC hR hS hl
  obtain ⟨L, g, q0, hP, hD, hE, hJ, hq0, hs⟩ := fz_at hR hV (show i0 < fz_n (zl t n len f) from hi)
  exact va_lald (D := G.2.1) (ws := va_pl L g) hC.1 hC.2.1 hC.2.2.2.2.2.2.2.2.1 hP q0 t hq0 (fz_ty ht) hj hd (k p e s m args below meth c H locs la hC hR hS hl)
theorem fz_last0 {t n len k0 i0 : Nat} {f : Nat → Nat → Int64} {j : Int32} {x : Int64} (f' : Nat → Nat → Int64) (hd : decode M.2.1 pc = .ok (.lastore, 1)) (ht : fz_tyL[t]? = some .long) (hV : fz_lk V k0 = some (zl t n len f)) (hi : i0 < n) (hj : vp_in j len) (h1 : f' i0 = vp_updL (f i0) j.toNatClampNeg x) (h2 : ∀ i', i' < n → i' ≠ i0 → f' i' = f i') (k : fz_J G M R Z E0 cs sl (pc + 1) ls st (fz_st V k0 (zl t n len f'))) : fz_J G M R Z E0 cs sl pc ls (zL x :: zI j :: zR k0 i0 :: st) V := by
  intro p e s m args below meth c H locs la hC hR hS hl
  obtain ⟨L, g, q0, hP, hD, hE, hJ, hq0, hs⟩ := fz_at hR hV (show i0 < fz_n (zl t n len f) from hi)
  have e1 : fz_c G (zl t n len f') i0 = .inl (G.2.2.1 t, len, .inr (.inl (vp_updL (f i0) j.toNatClampNeg x))) := by
    rw [← h1]; rfl
  refine va_last (D := G.2.1) (ws := va_pl L g) hC.1 hC.2.1 hC.2.2.2.2.2.2.2.2.1 hP hD hS q0 t hq0 (fz_ty ht) hj hd (fun H1 locs1 hP1 hD1 hS1 => ?_)
  rw [hs, ← e1] at hP1 hD1
  exact k p e s m args below meth c H1 locs1 la hC (fz_upd hV hi rfl (fun i' h3 h4 => congrArg (fun z => (Sum.inl (G.2.2.1 t, len, .inr (.inl z)) : va_E)) (h2 i' h3 h4)) hE hJ hP1 hD1) hS1 hl
theorem fz_last1 {t len k0 : Nat} {f : Nat → Nat → Int64} {j : Int32} {x : Int64} (hd : decode M.2.1 pc = .ok (.lastore, 1)) (ht : fz_tyL[t]? = some .long) (hV : fz_lk V k0 = some (zl t 1 len f)) (hj : vp_in j len) (k : fz_J G M R Z E0 cs sl (pc + 1) ls st (fz_st V k0 (zl t 1 len (fun _ => vp_updL (f 0) j.toNatClampNeg x)))) : fz_J G M R Z E0 cs sl pc ls (zL x :: zI j :: zR k0 0 :: st) V :=
  fz_last0 _ hd ht hV Nat.one_pos hj rfl (fun i' h1 h2 => absurd (Nat.lt_one_iff.mp h1) h2) k
theorem fz_lastn {t n len k0 i0 : Nat} {f : Nat → Nat → Int64} {j : Int32} {x : Int64} (hd : decode M.2.1 pc = .ok (.lastore, 1)) (ht : fz_tyL[t]? = some .long) (hV : fz_lk V k0 = some (zl t n len f)) (hi : i0 < n) (hj : vp_in j len) (k : fz_J G M R Z E0 cs sl (pc + 1) ls st (fz_st V k0 (zl t n len (va_up f i0 (vp_updL (f i0) j.toNatClampNeg x))))) : fz_J G M R Z E0 cs sl pc ls (zL x :: zI j :: zR k0 i0 :: st) V :=
  fz_last0 _ hd ht hV hi hj (va_up_self _ _ _) (fun i' _ h2 => va_up_ne _ _ h2) k
theorem fz_zald {t n len k0 i0 : Nat} {f : Nat → Nat → Int32} {j : Int32} (hd : decode M.2.1 pc = .ok (.baload, 1)) (ht : fz_tyL[t]? = some .boolean) (hV : fz_lk V k0 = some (zi t n len f)) (hi : i0 < n) (hj : vp_in j len) (k : fz_J G M R Z E0 cs sl (pc + 1) ls (zI (f i0 j.toNatClampNeg) :: st) V) : fz_J G M R Z E0 cs sl pc ls (zI j :: zR k0 i0 :: st) V := by
  intro p e s m args below meth c H locs la hC hR hS hl
  obtain ⟨L, g, q0, hP, hD, hE, hJ, hq0, hs⟩ := fz_at hR hV (show i0 < fz_n (zi t n len f) from hi)
  exact va_zald (D := G.2.1) (ws := va_pl L g) hC.1 hC.2.1 hC.2.2.2.2.2.2.2.2.1 hP q0 t hq0 (fz_ty ht) hj hd (k p e s m args below meth c H locs la hC hR hS hl)
theorem fz_zast0 {t n len k0 i0 : Nat} {f : Nat → Nat → Int32} {j : Int32} {x : Int32} (f' : Nat → Nat → Int32) (hd : decode M.2.1 pc = .ok (.bastore, 1)) (ht : fz_tyL[t]? = some .boolean) (hV : fz_lk V k0 = some (zi t n len f)) (hi : i0 < n) (hj : vp_in j len) (h1 : f' i0 = upd (f i0) j.toNatClampNeg (vp_nar .boolean x)) (h2 : ∀ i', i' < n → i' ≠ i0 → f' i' = f i') (k : fz_J G M R Z E0 cs sl (pc + 1) ls st (fz_st V k0 (zi t n len f'))) : fz_J G M R Z E0 cs sl pc ls (zI x :: zI j :: zR k0 i0 :: st) V := by
  intro p e s m args below meth c H locs la hC hR hS hl
  obtain ⟨L, g, q0, hP, hD, hE, hJ, hq0, hs⟩ := fz_at hR hV (show i0 < fz_n (zi t n len f) from hi)
  have e1 : fz_c G (zi t n len f') i0 = .inl (G.2.2.1 t, len, .inl (upd (f i0) j.toNatClampNeg (vp_nar .boolean x))) := by
    rw [← h1]; rfl
  refine va_zast (D := G.2.1) (ws := va_pl L g) hC.1 hC.2.1 hC.2.2.2.2.2.2.2.2.1 hP hD hS q0 t hq0 (fz_ty ht) hj hd (fun H1 locs1 hP1 hD1 hS1 => ?_)
  rw [hs, ← e1] at hP1 hD1
  exact k p e s m args below meth c H1 locs1 la hC (fz_upd hV hi rfl (fun i' h3 h4 => congrArg (fun z => (Sum.inl (G.2.2.1 t, len, .inl z) : va_E)) (h2 i' h3 h4)) hE hJ hP1 hD1) hS1 hl
theorem fz_zast1 {t len k0 : Nat} {f : Nat → Nat → Int32} {j : Int32} {x : Int32} (hd : decode M.2.1 pc = .ok (.bastore, 1)) (ht : fz_tyL[t]? = some .boolean) (hV : fz_lk V k0 = some (zi t 1 len f)) (hj : vp_in j len) (k : fz_J G M R Z E0 cs sl (pc + 1) ls st (fz_st V k0 (zi t 1 len (fun _ => upd (f 0) j.toNatClampNeg (vp_nar .boolean x))))) : fz_J G M R Z E0 cs sl pc ls (zI x :: zI j :: zR k0 0 :: st) V :=
  fz_zast0 _ hd ht hV Nat.one_pos hj rfl (fun i' h1 h2 => absurd (Nat.lt_one_iff.mp h1) h2) k
theorem fz_zastn {t n len k0 i0 : Nat} {f : Nat → Nat → Int32} {j : Int32} {x : Int32} (hd : decode M.2.1 pc = .ok (.bastore, 1)) (ht : fz_tyL[t]? = some .boolean) (hV : fz_lk V k0 = some (zi t n len f)) (hi : i0 < n) (hj : vp_in j len) (k : fz_J G M R Z E0 cs sl (pc + 1) ls st (fz_st V k0 (zi t n len (va_up f i0 (upd (f i0) j.toNatClampNeg (vp_nar .boolean x)))))) : fz_J G M R Z E0 cs sl pc ls (zI x :: zI j :: zR k0 i0 :: st) V :=
  fz_zast0 _ hd ht hV hi hj (va_up_self _ _ _) (fun i' _ h2 => va_up_ne _ _ h2) k
theorem fz_bald {t n len k0 i0 : Nat} {f : Nat → Nat → Int32} {j : Int32} (hd : decode M.2.1 pc = .ok (.baload, 1)) (ht : fz_tyL[t]? = some .byte) (hV : fz_lk V k0 = some (zi t n len f)) (hi : i0 < n) (hj : vp_in j len) (k : fz_J G M R Z E0 cs sl (pc + 1) ls (zI (f i0 j.toNatClampNeg) :: st) V) : fz_J G M R Z E0 cs sl pc ls (zI j :: zR k0 i0 :: st) V := by
  intro p e s m args below meth c H locs la hC hR hS hl
  obtain ⟨L, g, q0, hP, hD, hE, hJ, hq0, hs⟩ := fz_at hR hV (show i0 < fz_n (zi t n len f) from hi)
  exact va_bald (D := G.2.1) (ws := va_pl L g) hC.1 hC.2.1 hC.2.2.2.2.2.2.2.2.1 hP q0 t hq0 (fz_ty ht) hj hd (k p e s m args below meth c H locs la hC hR hS hl)
theorem fz_bast0 {t n len k0 i0 : Nat} {f : Nat → Nat → Int32} {j : Int32} {x : Int32} (f' : Nat → Nat → Int32) (hd : decode M.2.1 pc = .ok (.bastore, 1)) (ht : fz_tyL[t]? = some .byte) (hV : fz_lk V k0 = some (zi t n len f)) (hi : i0 < n) (hj : vp_in j len) (h1 : f' i0 = upd (f i0) j.toNatClampNeg (vp_nar .byte x)) (h2 : ∀ i', i' < n → i' ≠ i0 → f' i' = f i') (k : fz_J G M R Z E0 cs sl (pc + 1) ls st (fz_st V k0 (zi t n len f'))) : fz_J G M R Z E0 cs sl pc ls (zI x :: zI j :: zR k0 i0 :: st) V := by
  intro p e s m args below meth c H locs la hC hR hS hl
  obtain ⟨L, g, q0, hP, hD, hE, hJ, hq0, hs⟩ := fz_at hR hV (show i0 < fz_n (zi t n len f) from hi)
  have e1 : fz_c G (zi t n len f') i0 = .inl (G.2.2.1 t, len, .inl (upd (f i0) j.toNatClampNeg (vp_nar .byte x))) := by
    rw [← h1]; rfl
  refine va_bast (D := G.2.1) (ws := va_pl L g) hC.1 hC.2.1 hC.2.2.2.2.2.2.2.2.1 hP hD hS q0 t hq0 (fz_ty ht) hj hd (fun H1 locs1 hP1 hD1 hS1 => ?_)
  rw [hs, ← e1] at hP1 hD1
  exact k p e s m args below meth c H1 locs1 la hC (fz_upd hV hi rfl (fun i' h3 h4 => congrArg (fun z => (Sum.inl (G.2.2.1 t, len, .inl z) : va_E)) (h2 i' h3 h4)) hE hJ hP1 hD1) hS1 hl
theorem fz_bast1 {t len k0 : Nat} {f : Nat → Nat → Int32} {j : Int32} {x : Int32} (hd : decode M.2.1 pc = .ok (.bastore, 1)) (ht : fz_tyL[t]? = some .byte) (hV : fz_lk V k0 = some (zi t 1 len f)) (hj : vp_in j len) (k : fz_J G M R Z E0 cs sl (pc + 1) ls st (fz_st V k0 (zi t 1 len (fun _ => upd (f 0) j.toNatClampNeg (vp_nar .byte x))))) : fz_J G M R Z E0 cs sl pc ls (zI x :: zI j :: zR k0 0 :: st) V :=
  fz_bast0 _ hd ht hV Nat.one_pos hj rfl (fun i' h1 h2 => absurd (Nat.lt_one_iff.mp h1) h2) k
theorem fz_bastn {t n len k0 i0 : Nat} {f : Nat → Nat → Int32} {j : Int32} {x : Int32} (hd : decode M.2.1 pc = .ok (.bastore, 1)) (ht : fz_tyL[t]? = some .byte) (hV : fz_lk V k0 = some (zi t n len f)) (hi : i0 < n) (hj : vp_in j len) (k : fz_J G M R Z E0 cs sl (pc + 1) ls st (fz_st V k0 (zi t n len (va_up f i0 (upd (f i0) j.toNatClampNeg (vp_nar .byte x)))))) : fz_J G M R Z E0 cs sl pc ls (zI x :: zI j :: zR k0 i0 :: st) V :=
  fz_bast0 _ hd ht hV hi hj (va_up_self _ _ _) (fun i' _ h2 => va_up_ne _ _ h2) k
theorem fz_cald {t n len k0 i0 : Nat} {f : Nat → Nat → Int32} {j : Int32} (hd : decode M.2.1 pc = .ok (.caload, 1)) (ht : fz_tyL[t]? = some .char) (hV : fz_lk V k0 = some (zi t n len f)) (hi : i0 < n) (hj : vp_in j len) (k : fz_J G M R Z E0 cs sl (pc + 1) ls (zI (f i0 j.toNatClampNeg) :: st) V) : fz_J G M R Z E0 cs sl pc ls (zI j :: zR k0 i0 :: st) V := by
  intro p e s m args below meth c H locs la hC hR hS hl
  obtain ⟨L, g, q0, hP, hD, hE, hJ, hq0, hs⟩ := fz_at hR hV (show i0 < fz_n (zi t n len f) from hi)
  exact va_cald (D := G.2.1) (ws := va_pl L g) hC.1 hC.2.1 hC.2.2.2.2.2.2.2.2.1 hP q0 t hq0 (fz_ty ht) hj hd (k p e s m args below meth c H locs la hC hR hS hl)
theorem fz_cast0 {t n len k0 i0 : Nat} {f : Nat → Nat → Int32} {j : Int32} {x : Int32} (f' : Nat → Nat → Int32) (hd : decode M.2.1 pc = .ok (.castore, 1)) (ht : fz_tyL[t]? = some .char) (hV : fz_lk V k0 = some (zi t n len f)) (hi : i0 < n) (hj : vp_in j len) (h1 : f' i0 = upd (f i0) j.toNatClampNeg (vp_nar .char x)) (h2 : ∀ i', i' < n → i' ≠ i0 → f' i' = f i') (k : fz_J G M R Z E0 cs sl (pc + 1) ls st (fz_st V k0 (zi t n len f'))) : fz_J G M R Z E0 cs sl pc ls (zI x :: zI j :: zR k0 i0 :: st) V := by
  intro p e s m args below meth c H locs la hC hR hS hl
  obtain ⟨L, g, q0, hP, hD, hE, hJ, hq0, hs⟩ := fz_at hR hV (show i0 < fz_n (zi t n len f) from hi)
  have e1 : fz_c G (zi t n len f') i0 = .inl (G.2.2.1 t, len, .inl (upd (f i0) j.toNatClampNeg (vp_nar .char x))) := by
    rw [← h1]; rfl
  refine va_cast (D := G.2.1) (ws := va_pl L g) hC.1 hC.2.1 hC.2.2.2.2.2.2.2.2.1 hP hD hS q0 t hq0 (fz_ty ht) hj hd (fun H1 locs1 hP1 hD1 hS1 => ?_)
  rw [hs, ← e1] at hP1 hD1
  exact k p e s m args below meth c H1 locs1 la hC (fz_upd hV hi rfl (fun i' h3 h4 => congrArg (fun z => (Sum.inl (G.2.2.1 t, len, .inl z) : va_E)) (h2 i' h3 h4)) hE hJ hP1 hD1) hS1 hl
theorem fz_cast1 {t len k0 : Nat} {f : Nat → Nat → Int32} {j : Int32} {x : Int32} (hd : decode M.2.1 pc = .ok (.castore, 1)) (ht : fz_tyL[t]? = some .char) (hV : fz_lk V k0 = some (zi t 1 len f)) (hj : vp_in j len) (k : fz_J G M R Z E0 cs sl (pc + 1) ls st (fz_st V k0 (zi t 1 len (fun _ => upd (f 0) j.toNatClampNeg (vp_nar .char x))))) : fz_J G M R Z E0 cs sl pc ls (zI x :: zI j :: zR k0 0 :: st) V :=
  fz_cast0 _ hd ht hV Nat.one_pos hj rfl (fun i' h1 h2 => absurd (Nat.lt_one_iff.mp h1) h2) k
theorem fz_castn {t n len k0 i0 : Nat} {f : Nat → Nat → Int32} {j : Int32} {x : Int32} (hd : decode M.2.1 pc = .ok (.castore, 1)) (ht : fz_tyL[t]? = some .char) (hV : fz_lk V k0 = some (zi t n len f)) (hi : i0 < n) (hj : vp_in j len) (k : fz_J G M R Z E0 cs sl (pc + 1) ls st (fz_st V k0 (zi t n len (va_up f i0 (upd (f i0) j.toNatClampNeg (vp_nar .char x)))))) : fz_J G M R Z E0 cs sl pc ls (zI x :: zI j :: zR k0 i0 :: st) V :=
  fz_cast0 _ hd ht hV hi hj (va_up_self _ _ _) (fun i' _ h2 => va_up_ne _ _ h2) k
theorem fz_aald {t n len k0 i0 : Nat} {C : String} {f : Nat → Nat → Option (Nat × Nat)} {j : Int32} {r : Option (Nat × Nat)} (hd : decode M.2.1 pc = .ok (.aaload, 1)) (ht : fz_tyL[t]? = some (.object C)) (hV : fz_lk V k0 = some (zq t n len f)) (hi : i0 < n) (hj : vp_in j len) (hr : f i0 j.toNatClampNeg = r) (k : fz_J G M R Z E0 cs sl (pc + 1) ls (.inr (.inr r) :: st) V) : fz_J G M R Z E0 cs sl pc ls (zI j :: zR k0 i0 :: st) V := by
  intro p e s m args below meth c H locs la hC hR hS hl
  subst hr
  obtain ⟨L, g, q0, hP, hD, hE, hJ, hq0, hs⟩ := fz_at hR hV (show i0 < fz_n (zq t n len f) from hi)
  refine va_aldq (D := G.2.1) (ws := va_pl L g) hC.1 hC.2.1 hC.2.2.2.2.2.2.2.2.1 hP q0 t hq0 (fz_ty ht) hj hd ?_
  have e2 : va_rf ((f i0 j.toNatClampNeg).map (fun q => G.2.2.2.2 q.1 q.2)) = fz_v G (.inr (.inr (f i0 j.toNatClampNeg))) := by
    cases f i0 j.toNatClampNeg <;> rfl
  show W _ _ _ _ _ _ _ _ _ _ _ _ _ _ _ (F0 m (pc + 1) la (va_rf ((f i0 j.toNatClampNeg).map (fun q => G.2.2.2.2 q.1 q.2)) :: st.map (fz_v G)))
  rw [e2]
  exact (k p e s m args below meth c H locs la hC hR hS hl)
theorem fz_alen_zi {t n len k0 i0 : Nat} {ty : FieldType} {f : Nat → Nat → Int32} {v : Int32} (hd : decode M.2.1 pc = .ok (.arraylength, 1)) (ht : fz_tyL[t]? = some ty) (hV : fz_lk V k0 = some (zi t n len f)) (hi : i0 < n) (hv : Int32.ofNat len = v) (k : fz_J G M R Z E0 cs sl (pc + 1) ls (zI v :: st) V) : fz_J G M R Z E0 cs sl pc ls (zR k0 i0 :: st) V := by
  intro p e s m args below meth c H locs la hC hR hS hl
  obtain ⟨L, g, q0, hP, hD, hE, hJ, hq0, hs⟩ := fz_at hR hV (show i0 < fz_n (zi t n len f) from hi)
  exact va_alen (D := G.2.1) (ws := va_pl L g) hC.1 hC.2.1 hC.2.2.2.2.2.2.2.2.1 hP q0 t hq0 (fz_ty ht) hv hd (k p e s m args below meth c H locs la hC hR hS hl)
theorem fz_alen_zl {t n len k0 i0 : Nat} {ty : FieldType} {f : Nat → Nat → Int64} {v : Int32} (hd : decode M.2.1 pc = .ok (.arraylength, 1)) (ht : fz_tyL[t]? = some ty) (hV : fz_lk V k0 = some (zl t n len f)) (hi : i0 < n) (hv : Int32.ofNat len = v) (k : fz_J G M R Z E0 cs sl (pc + 1) ls (zI v :: st) V) : fz_J G M R Z E0 cs sl pc ls (zR k0 i0 :: st) V := by
  intro p e s m args below meth c H locs la hC hR hS hl
  obtain ⟨L, g, q0, hP, hD, hE, hJ, hq0, hs⟩ := fz_at hR hV (show i0 < fz_n (zl t n len f) from hi)
  exact va_alen (D := G.2.1) (ws := va_pl L g) hC.1 hC.2.1 hC.2.2.2.2.2.2.2.2.1 hP q0 t hq0 (fz_ty ht) hv hd (k p e s m args below meth c H locs la hC hR hS hl)
theorem fz_alen_zq {t n len k0 i0 : Nat} {ty : FieldType} {f : Nat → Nat → Option (Nat × Nat)} {v : Int32} (hd : decode M.2.1 pc = .ok (.arraylength, 1)) (ht : fz_tyL[t]? = some ty) (hV : fz_lk V k0 = some (zq t n len f)) (hi : i0 < n) (hv : Int32.ofNat len = v) (k : fz_J G M R Z E0 cs sl (pc + 1) ls (zI v :: st) V) : fz_J G M R Z E0 cs sl pc ls (zR k0 i0 :: st) V := by
  intro p e s m args below meth c H locs la hC hR hS hl
  obtain ⟨L, g, q0, hP, hD, hE, hJ, hq0, hs⟩ := fz_at hR hV (show i0 < fz_n (zq t n len f) from hi)
  exact va_alen (D := G.2.1) (ws := va_pl L g) hC.1 hC.2.1 hC.2.2.2.2.2.2.2.2.1 hP q0 t hq0 (fz_ty ht) hv hd (k p e s m args below meth c H locs la hC hR hS hl)
theorem fz_iret {mc ms : Nat} {Q : Option fz_V → fz_W → Prop} {x : Int32} (hd : decode M.2.1 pc = .ok (.ireturn, 1)) (hr : M.2.2.2 = some .int) (hc : cs ≤ mc) (hs : sl ≤ ms) (hq : Q (some (zI x)) V) : fz_J G M R (fz_Z G E0 mc ms Q) E0 cs sl pc ls [zI x] V := by
  intro p e s m args below meth c H locs la hC hR hS hl
  refine W.widen (k := mc) (n := ms) hc hs ?_
  exact W.iret (v := x) hC.1 hC.2.1 (hC.2.2.1.trans hr) (fun t ht hW => ⟨⟨some (zI x), V, rfl, hq, by rw [ht]; exact hR⟩, hS.F ht⟩) hS.2.2 hd hC.2.2.2.2.2.2.1
theorem fz_zret {mc ms : Nat} {Q : Option fz_V → fz_W → Prop} {x : Int32} {ty : FieldType} (hd : decode M.2.1 pc = .ok (.ireturn, 1)) (hr : M.2.2.2 = some ty) (hn : narrow ty (.int x) = .int x) (hc : cs ≤ mc) (hs : sl ≤ ms) (hq : Q (some (zI x)) V) : fz_J G M R (fz_Z G E0 mc ms Q) E0 cs sl pc ls [zI x] V := by
  intro p e s m args below meth c H locs la hC hR hS hl
  refine W.widen (k := mc) (n := ms) hc hs ?_
  exact W.zret (v := x) hC.1 hC.2.1 (hC.2.2.1.trans hr) hn (fun t ht hW => ⟨⟨some (zI x), V, rfl, hq, by rw [ht]; exact hR⟩, hS.F ht⟩) hS.2.2 hd hC.2.2.2.2.2.2.1
theorem fz_lret {mc ms : Nat} {Q : Option fz_V → fz_W → Prop} {x : Int64} (hd : decode M.2.1 pc = .ok (.lreturn, 1)) (hr : M.2.2.2 = some .long) (hc : cs ≤ mc) (hs : sl ≤ ms) (hq : Q (some (zL x)) V) : fz_J G M R (fz_Z G E0 mc ms Q) E0 cs sl pc ls [zL x] V := by
  intro p e s m args below meth c H locs la hC hR hS hl
  refine W.widen (k := mc) (n := ms) hc hs ?_
  exact W.lret (v := x) hC.1 hC.2.1 (hC.2.2.1.trans hr) (fun t ht hW => ⟨⟨some (zL x), V, rfl, hq, by rw [ht]; exact hR⟩, hS.F ht⟩) hS.2.2 hd hC.2.2.2.2.2.2.1
theorem fz_vret {mc ms : Nat} {Q : Option fz_V → fz_W → Prop} (hd : decode M.2.1 pc = .ok (.return_, 1)) (hr : M.2.2.2 = none) (hc : cs ≤ mc) (hs : sl ≤ ms) (hq : Q none V) : fz_J G M R (fz_Z G E0 mc ms Q) E0 cs sl pc ls [] V := by
  intro p e s m args below meth c H locs la hC hR hS hl
  refine W.widen (k := mc) (n := ms) hc hs ?_
  exact W.vret hC.1 hC.2.1 (hC.2.2.1.trans hr) (fun t ht hW => ⟨⟨none, V, rfl, hq, by rw [ht]; exact hR⟩, hS.F ht⟩) hS.2.2 hd hC.2.2.2.2.2.2.1
theorem fz_aret {mc ms : Nat} {Q : Option fz_V → fz_W → Prop} {r : Option (Nat × Nat)} {rt : FieldType} (hd : decode M.2.1 pc = .ok (.areturn, 1)) (hr : M.2.2.2 = some rt) (hrt : (∃ n, rt = .object n) ∨ ∃ t, rt = .array t) (hc : cs ≤ mc) (hs : sl ≤ ms) (hq : Q (some (.inr (.inr r))) V) : fz_J G M R (fz_Z G E0 mc ms Q) E0 cs sl pc ls [.inr (.inr r)] V := by
  intro p e s m args below meth c H locs la hC hR hS hl
  refine W.widen (k := mc) (n := ms) hc hs ?_
  exact W.aret (v := fz_v G (.inr (.inr r))) hC.1 hC.2.1 (hC.2.2.1.trans hr) hrt (by cases r with | none => exact Or.inl rfl | some q => exact Or.inr ⟨_, rfl⟩) (fun t ht hW => ⟨⟨some (.inr (.inr r)), V, rfl, hq, by rw [ht]; exact hR⟩, hS.F ht⟩) hS.2.2 hd hC.2.2.2.2.2.2.1
end FZ
end
section
/-! CALLS: a contract of the callee (fz_T), over a part of the caller's world -/
theorem fz_d_app {E : Nat → fz_E} {V : fz_W} : ∀ {U : fz_W}, fz_d (U ++ V) E = fz_d U (fz_d V E)
  | [] => rfl
  | q :: U => by
    funext j
    show (if j = q.1 then q.2 else fz_d (U ++ V) E j) = (if j = q.1 then q.2 else fz_d U (fz_d V E) j)
    rw [fz_d_app]
theorem fz_nest_warm {s U : State} (hW : s.WarmedH U.vm) (h : fz_Nw s) : fz_Nw U := by
  intro w hw
  rcases fz_nest_ok w hw with ⟨a, i, x, z, rfl⟩ | ⟨a, i, b, n, d, z, rfl⟩
  · exact va_Nw.warmM hW (h _ hw)
  · exact va_Nw.warmF hW (h _ hw)
theorem fz_blind {G : fz_G} {E1 : Nat → fz_E} {as : List fz_V} {V : fz_W} : FrameBlind (fz_Pc G E1 as V) := by
  intro a U g mk q
  obtain ⟨q0, q1, q2, q3, q4⟩ := q
  refine ⟨q0, q1, va_K.moved (u := U) (U := U.calling g mk a) (Vm.Alike.refl U.vm) q2, fun w hw => ?_, q4⟩
  have hon : w.onTables = true := by
    rcases fz_nest_ok w hw with ⟨a, i, x, z, rfl⟩ | ⟨a, i, b, n, d, z, rfl⟩ <;> rfl
  exact va_Nw.same hon (show U.vm = (U.calling g mk a).vm from rfl) (q3 w hw)
theorem fz_pre {G : fz_G} {M : fz_M} {p : Program} {s : State} {m : MethodId} {args : Array Value} {meth : Method} {c : Code} {H : Heap} {locs : List Loc} {E0 : Nat → fz_E} {V V' : fz_W} {as : List fz_V} (hC : fz_C G M p s m args meth c) (hR : fz_R G (fz_d V E0) H) (hS : va_S (fz_A G) s.heap H locs) (hsub : fz_sub V' V) : ∀ U : State, U.heap = H → s.WarmedH U.vm → fz_Pc G (fz_d V E0) as V' (as.map (fz_v G)).toArray U := by
  intro U hU hW
  refine ⟨rfl, ?_, va_K.moved hW.alike hC.2.2.2.2.2.2.2.2.1, fz_nest_warm hW hC.2.2.2.2.2.2.2.2.2.1, ?_⟩
  · rw [hU, fz_d_sub hsub]; exact hR
  · rw [hU]; exact Nat.le_trans hC.2.2.2.2.2.2.2.2.2.2 hS.1
theorem fz_good {ws : List Cond} (h : ∀ w ∈ ws, w ∈ fz_tb) : GoodIn fz_tb ws := fun w hw => ⟨h w hw, fz_tbl_good w (h w hw)⟩
section FZC
variable {G : fz_G} {M : fz_M} {R : Room} {Z : List Frame → Array Value → State → State → Prop} {E0 : Nat → fz_E} {cs sl pc : Nat} {ls : List (Nat × fz_V)} {st : List fz_V} {V : fz_W}
/-- behind a call: the callee's entries at their places -/
theorem fz_back {U : fz_W} (h : fz_in U V = true) (k : fz_J G M R Z E0 cs sl pc ls st (fz_mg U V)) : fz_J G M R Z E0 cs sl pc ls st (U ++ V) := by
  intro p e s m args below meth c H locs la hC hR hS hl
  refine k p e s m args below meth c H locs la hC ?_ hS hl
  rw [fz_d_app, fz_d_mg h] at hR
  exact hR
theorem fz_after {p : Program} {e : Env} {s : State} {m : MethodId} {args : Array Value} {below : List Frame} {meth : Method} {c : Code} {H : Heap} {locs : List Loc} {la : Array Slot} {E1 : Nat → fz_E} {Q : Option fz_V → fz_W → Prop} {a : Array Value} {mc ms : Nat} {st0 rest : List Value} {Qz : State → Prop} (hr : va_Run p G.1 e R s m args below meth c H locs cs sl mc ms (F0 m pc la st0) rest (fz_Qc G E1 Q a) (fz_A G)) (hS : va_S (fz_A G) s.heap H locs)
    (kk : ∀ (r : Option fz_V) (U : fz_W) (H1 : Heap) (locs1 : List Loc), Q r U → fz_R G (fz_d U E1) H1 → va_S (fz_A G) s.heap H1 locs1 → W p G.1 e R s m args below meth c H1 locs1 (cs + mc) (sl + ms) Qz (F0 m (pc + 3) la ((r.map (fz_v G)).toList ++ rest))) : W p G.1 e R s m args below meth c H locs cs sl Qz (F0 m pc la st0) := by
  intro T hT X
  obtain ⟨v, st₀, t, T', L, h0, X', hL, e1, e2, ⟨⟨r, U, hv, hq, hRU⟩, hz, hk⟩, stp⟩ := hr T hT X
  cases hv
  rw [h0] at hz hk
  obtain ⟨t2, a1, b1⟩ := kk r U T'.heap (locs ++ L) hq (by rw [e1]; exact hRU)
    ⟨Nat.le_trans hS.1 (by rw [e1]; exact hz), fun q h1 h2 => by rw [e1, hk q (Nat.lt_of_lt_of_le h1 hS.1) h2]; exact hS.2.1 q h1 h2, fun q hq => by
      rcases List.mem_append.mp hq with h | h
      · exact hS.2.2 q h
      · exact hL q h⟩ T' rfl X'
  exact ⟨t2, stp t2 a1, b1⟩
theorem fz_lst (r : Option fz_V) (st : List fz_V) : (r.map (fz_v G)).toList ++ st.map (fz_v G) = (r.toList ++ st).map (fz_v G) := by
  cases r <;> rfl
/-- what a virtual call of M' spelt at idx in class own wants of the tables; the receiver is an object of class number ci -/
def fz_cV (own : String) (idx : Nat) (M' : fz_M) (na ci : Nat) : Prop := (∀ w ∈ ([.methodLink own idx M'.1, .instanceMethod M'.1, .selects M'.1.cls M'.1 M'.1, .initialized M'.1.cls, .code M'.1 M'.2.1 M'.2.2.1 M'.2.2.2] : List Cond), w ∈ fz_tb) ∧ (M'.1.cls ≠ "java/lang/invoke/MethodHandle" ∧ M'.1.cls ≠ "java/lang/invoke/VarHandle" ∧ (parseMethodDescriptor M'.1.desc).map (fun d => d.parameters.length) = some na) ∧ (classes[ci]?).map (fun q => q.1) = some M'.1.cls
theorem fz_callV {M' : fz_M} {R' : Room} {as : List fz_V} {V' : fz_W} {Q' : Option fz_V → fz_W → Prop} {k0 i0 ci n idx : Nat} {F : Nat → List fz_V} {stk : List fz_V} (hT : fz_T G M' R' (zR k0 i0 :: as) V' Q') (hd : decode M.2.1 pc = .ok (.invokevirtual idx, 3)) (hw : fz_cV M.1.cls idx M' as.length ci) (hV : fz_lk V k0 = some (zo ci n F)) (hi : i0 < n) (hsub : fz_sub V' V) (hfr : R'.frames + 1 ≤ R.frames) (hlo : 8 + (M'.2.2.1 + 11) + R'.locals ≤ R.locals) (hc : cs + R'.cells ≤ R.cells) (hs : sl + R'.slots ≤ R.slots) (hst : fz_wd st ≤ 8) (hk : stk = as.reverse ++ zR k0 i0 :: st)
    (k : ∀ r U, Q' r U → fz_J G M R Z E0 (cs + R'.cells) (sl + R'.slots) (pc + 3) ls (r.toList ++ st) (U ++ V)) : fz_J G M R Z E0 cs sl pc ls stk V := by
  subst hk
  intro p e s m args below meth c H locs la hC hR hS hl
  obtain ⟨w1, w2, w3⟩ := hw
  obtain ⟨L, f, q0, hP, hD, hE, hJ, hq0, hset⟩ := fz_at hR hV (show i0 < fz_n (zo ci n F) from hi)
  obtain ⟨q, hq1, hq2⟩ := Option.map_eq_some_iff.mp w3
  have hg : GoodIn fz_tb (wsV M.1.cls idx M'.1.cls M'.1 (fz_ws M')) := fz_good (fun w hw => by
    simp only [wsV, fz_ws, List.mem_append, List.mem_cons, List.not_mem_nil, or_false] at hw
    rcases hw with (rfl | rfl | rfl | rfl) | rfl | hw
    · exact w1 _ (by simp)
    · exact w1 _ (by simp)
    · exact w1 _ (by simp)
    · exact w1 _ (by simp)
    · exact w1 _ (by simp)
    · exact hw)
  have hst2 : (as.reverse ++ zR k0 i0 :: st).map (fz_v G) = (as.map (fz_v G)).reverse ++ Value.ref (G.2.2.2.2 k0 i0) :: st.map (fz_v G) := by
    rw [List.map_append, List.map_reverse]; rfl
  rw [hst2]
  refine fz_after (va_runV (cc := M.2.1) (nL := M.2.2.1) (Ts := fz_tb) (own := M.1.cls) (C := M'.1.cls) (bytes := M'.2.1) (maxL := M'.2.2.1) (ret := M'.2.2.2) (As := as.map (fz_v G)) (rest := st.map (fz_v G)) ⟨hC.1, hC.2.1, hC.2.2.2.1, hC.2.2.2.2.1, hC.2.2.2.2.2.1⟩ (hT (fz_d V E0)) (cwV as.length hC.2.2.2.2.2.1 hg rfl rfl rfl ⟨rfl, w2⟩ ⟨hfr, hlo⟩) ⟨fz_blind, ?_, fz_pre (as := zR k0 i0 :: as) hC hR hS hsub⟩ rfl (List.length_map ..) hl.1 rfl (lv_room (by rw [fz_wd_sum]; exact hst)) hd ⟨hc, hs⟩) hS (fun r U H1 locs1 hq hR1 hS1 => ?_)
  · have hrec := va_recv (ws := va_pl L f) hC.2.2.2.2.2.2.2.2.1 hP hq1 hq0
    rw [hq2] at hrec
    exact hrec
  · rw [fz_lst]
    exact k r U hq p e s m args below meth c H1 locs1 la hC (by rw [fz_d_app]; exact hR1) hS1 hl
def fz_cS (own : String) (idx : Nat) (M' : fz_M) (na : Nat) : Prop := (∀ w ∈ ([.methodLink own idx M'.1, .static M'.1, .initialized M'.1.cls, .code M'.1 M'.2.1 M'.2.2.1 M'.2.2.2] : List Cond), w ∈ fz_tb) ∧ (M'.1.cls ≠ "java/lang/invoke/MethodHandle" ∧ M'.1.cls ≠ "java/lang/invoke/VarHandle" ∧ (parseMethodDescriptor M'.1.desc).map (fun d => d.parameters.length) = some na)
theorem fz_callS {M' : fz_M} {R' : Room} {as : List fz_V} {V' : fz_W} {Q' : Option fz_V → fz_W → Prop} {idx : Nat} {stk : List fz_V} (hT : fz_T G M' R' as V' Q') (hd : decode M.2.1 pc = .ok (.invokestatic idx, 3)) (hw : fz_cS M.1.cls idx M' as.length) (hsub : fz_sub V' V) (hfr : R'.frames + 1 ≤ R.frames) (hlo : 8 + (M'.2.2.1 + 11) + R'.locals ≤ R.locals) (hc : cs + R'.cells ≤ R.cells) (hs : sl + R'.slots ≤ R.slots) (hst : fz_wd st ≤ 8) (hk : stk = as.reverse ++ st)
    (k : ∀ r U, Q' r U → fz_J G M R Z E0 (cs + R'.cells) (sl + R'.slots) (pc + 3) ls (r.toList ++ st) (U ++ V)) : fz_J G M R Z E0 cs sl pc ls stk V := by
  subst hk
  intro p e s m args below meth c H locs la hC hR hS hl
  obtain ⟨w1, w2⟩ := hw
  have hg : GoodIn fz_tb (fz_ws M') := fz_good (fun w hw => by
    simp only [fz_ws, List.mem_cons] at hw
    rcases hw with rfl | hw
    · exact w1 _ (by simp)
    · exact hw)
  have ht := hC.2.2.2.2.2.1
  have hst2 : (as.reverse ++ st).map (fz_v G) = (as.map (fz_v G)).reverse ++ st.map (fz_v G) := by
    rw [List.map_append, List.map_reverse]
  rw [hst2]
  refine fz_after (va_runS (cc := M.2.1) (nL := M.2.2.1) (Ts := fz_tb) (own := M.1.cls) (bytes := M'.2.1) (maxL := M'.2.2.1) (ret := M'.2.2.2) (As := as.map (fz_v G)) (rest := st.map (fz_v G)) ⟨hC.1, hC.2.1, hC.2.2.2.1, hC.2.2.2.2.1, hC.2.2.2.2.2.1⟩ (hT (fz_d V E0)) ⟨callB_of (ws' := fz_tb) as.length ht hg rfl rfl rfl (ht _ (w1 _ (by simp))) (ht _ (w1 _ (by simp))) w2 ⟨hfr, hlo⟩, ht _ (w1 _ (by simp))⟩ ⟨fz_blind, fz_pre (as := as) hC hR hS hsub⟩ rfl (List.length_map ..) hl.1 rfl (lv_room (by rw [fz_wd_sum]; exact hst)) hd ⟨hc, hs⟩) hS (fun r U H1 locs1 hq hR1 hS1 => ?_)
  rw [fz_lst]
  exact k r U hq p e s m args below meth c H1 locs1 la hC (by rw [fz_d_app]; exact hR1) hS1 hl
def fz_cI (own : String) (idx : Nat) (M' : fz_M) (na : Nat) : Prop := (∀ w ∈ ([.methodLink own idx M'.1, .instanceMethod M'.1, .initialized M'.1.cls, .code M'.1 M'.2.1 M'.2.2.1 none] : List Cond), w ∈ fz_tb) ∧ (M'.1.cls ≠ "java/lang/invoke/MethodHandle" ∧ M'.1.cls ≠ "java/lang/invoke/VarHandle" ∧ (parseMethodDescriptor M'.1.desc).map (fun d => d.parameters.length) = some na) ∧ M'.1.name = "<init>" ∧ M'.2.2.2 = none
theorem fz_callI {M' : fz_M} {R' : Room} {as : List fz_V} {V' : fz_W} {Q' : Option fz_V → fz_W → Prop} {k0 i0 idx : Nat} {stk : List fz_V} (hT : fz_T G M' R' (zR k0 i0 :: as) V' Q') (hd : decode M.2.1 pc = .ok (.invokespecial idx, 3)) (hw : fz_cI M.1.cls idx M' as.length) (hsub : fz_sub V' V) (hfr : R'.frames + 1 ≤ R.frames) (hlo : 8 + (M'.2.2.1 + 11) + R'.locals ≤ R.locals) (hc : cs + R'.cells ≤ R.cells) (hs : sl + R'.slots ≤ R.slots) (hst : fz_wd st ≤ 8) (hk : stk = as.reverse ++ zR k0 i0 :: st)
    (k : ∀ r U, Q' r U → fz_J G M R Z E0 (cs + R'.cells) (sl + R'.slots) (pc + 3) ls (r.toList ++ st) (U ++ V)) : fz_J G M R Z E0 cs sl pc ls stk V := by
  subst hk
  intro p e s m args below meth c H locs la hC hR hS hl
  obtain ⟨w1, w2, w3, w4⟩ := hw
  have ht := hC.2.2.2.2.2.1
  have hg : GoodIn fz_tb (fz_ws M') := fz_good (fun w hw => by
    simp only [fz_ws, List.mem_cons] at hw
    rcases hw with rfl | hw
    · rw [w4]; exact w1 _ (by simp)
    · exact hw)
  have hst2 : (as.reverse ++ zR k0 i0 :: st).map (fz_v G) = (as.map (fz_v G)).reverse ++ Value.ref (G.2.2.2.2 k0 i0) :: st.map (fz_v G) := by
    rw [List.map_append, List.map_reverse]; rfl
  rw [hst2]
  refine fz_after (va_runI (cc := M.2.1) (nL := M.2.2.1) (Ts := fz_tb) (own := M.1.cls) (bytes := M'.2.1) (maxL := M'.2.2.1) (As := as.map (fz_v G)) (rest := st.map (fz_v G)) ⟨hC.1, hC.2.1, hC.2.2.2.1, hC.2.2.2.2.1, hC.2.2.2.2.2.1⟩ (hT (fz_d V E0)) ⟨callB_of (ws' := fz_tb) as.length ht hg (by rw [fz_ws, w4]) rfl rfl (ht _ (w1 _ (by simp))) (ht _ (w1 _ (by simp))) w2 ⟨hfr, hlo⟩, w3, ht _ (w1 _ (by simp))⟩ ⟨fz_blind, fz_pre (as := zR k0 i0 :: as) hC hR hS hsub⟩ rfl (List.length_map ..) hl.1 rfl (lv_room (by rw [fz_wd_sum]; exact hst)) hd ⟨hc, hs⟩) hS (fun r U H1 locs1 hq hR1 hS1 => ?_)
  rw [fz_lst]
  exact k r U hq p e s m args below meth c H1 locs1 la hC (by rw [fz_d_app]; exact hR1) hS1 hl
def fz_cIN (own : String) (idx : Nat) (host : String) (M' : fz_M) (na : Nat) : Prop := (∀ w ∈ ([.instanceMethod M'.1, .initialized M'.1.cls, .code M'.1 M'.2.1 M'.2.2.1 none] : List Cond), w ∈ fz_tb) ∧ Cond.methodLinkNest own idx M'.1 host ∈ fz_nest ∧ (M'.1.cls ≠ "java/lang/invoke/MethodHandle" ∧ M'.1.cls ≠ "java/lang/invoke/VarHandle" ∧ (parseMethodDescriptor M'.1.desc).map (fun d => d.parameters.length) = some na) ∧ M'.1.name = "<init>" ∧ M'.2.2.2 = none
theorem fz_callIN {M' : fz_M} {R' : Room} {as : List fz_V} {V' : fz_W} {Q' : Option fz_V → fz_W → Prop} {k0 i0 idx : Nat} {host : String} {stk : List fz_V} (hT : fz_T G M' R' (zR k0 i0 :: as) V' Q') (hd : decode M.2.1 pc = .ok (.invokespecial idx, 3)) (hw : fz_cIN M.1.cls idx host M' as.length) (hsub : fz_sub V' V) (hfr : R'.frames + 1 ≤ R.frames) (hlo : 8 + (M'.2.2.1 + 11) + R'.locals ≤ R.locals) (hc : cs + R'.cells ≤ R.cells) (hs : sl + R'.slots ≤ R.slots) (hst : fz_wd st ≤ 8) (hk : stk = as.reverse ++ zR k0 i0 :: st)
    (k : ∀ r U, Q' r U → fz_J G M R Z E0 (cs + R'.cells) (sl + R'.slots) (pc + 3) ls (r.toList ++ st) (U ++ V)) : fz_J G M R Z E0 cs sl pc ls stk V := by
  subst hk
  intro p e s m args below meth c H locs la hC hR hS hl
  obtain ⟨w1, wn, w2, w3, w4⟩ := hw
  have ht := hC.2.2.2.2.2.1
  have hg : GoodIn fz_tb (fz_ws M') := fz_good (fun w hw => by
    simp only [fz_ws, List.mem_cons] at hw
    rcases hw with rfl | hw
    · rw [w4]; exact w1 _ (by simp)
    · exact hw)
  have hst2 : (as.reverse ++ zR k0 i0 :: st).map (fz_v G) = (as.map (fz_v G)).reverse ++ Value.ref (G.2.2.2.2 k0 i0) :: st.map (fz_v G) := by
    rw [List.map_append, List.map_reverse]; rfl
  rw [hst2]
  refine fz_after (va_runIN (cc := M.2.1) (nL := M.2.2.1) (Ts := fz_tb) (own := M.1.cls) (host := host) (bytes := M'.2.1) (maxL := M'.2.2.1) (As := as.map (fz_v G)) (rest := st.map (fz_v G)) ⟨hC.1, hC.2.1, hC.2.2.2.1, hC.2.2.2.2.1, hC.2.2.2.2.2.1⟩ (hT (fz_d V E0)) ⟨va_cnB (ws' := fz_tb) as.length ht hg (by rw [fz_ws, w4]) rfl rfl (hC.2.2.2.2.2.2.2.2.2.1 _ wn) (ht _ (w1 _ (by simp))) w2 ⟨hfr, hlo⟩, w3, ht _ (w1 _ (by simp))⟩ ⟨fz_blind, fz_pre (as := zR k0 i0 :: as) hC hR hS hsub⟩ rfl (List.length_map ..) hl.1 rfl (lv_room (by rw [fz_wd_sum]; exact hst)) hd ⟨hc, hs⟩) hS (fun r U H1 locs1 hq hR1 hS1 => ?_)
  rw [fz_lst]
  exact k r U hq p e s m args below meth c H1 locs1 la hC (by rw [fz_d_app]; exact hR1) hS1 hl
theorem fz_objInit {idx k0 i0 : Nat} (hd : decode M.2.1 pc = .ok (.invokespecial idx, 3)) (hw : ∀ w ∈ ([.methodLink M.1.cls idx objectInit, .instanceMethod objectInit, .code objectInit ⟨#[0xb1]⟩ 1 none] : List Cond), w ∈ fz_tb) (hfr : 1 ≤ R.frames) (hlo : fz_wd st + 12 ≤ R.locals) (k : fz_J G M R Z E0 cs sl (pc + 3) ls st V) : fz_J G M R Z E0 cs sl pc ls (zR k0 i0 :: st) V := by
  intro p e s m args below meth c H locs la hC hR hS hl
  have ht := hC.2.2.2.2.2.1
  exact W.objInit hC.1 hC.2.1 hC.2.2.2.2.1 (ht _ (hw _ (by simp))) (ht _ (hw _ (by simp))) (ht _ (hw _ (by simp))) rfl (hl.1.trans hC.2.2.2.1.symm) rfl hd hfr (by rw [fz_wd_sum]; show 2 * 0 + _ + 12 ≤ _; omega) (k p e s m args below meth c H locs la hC hR hS hl)
theorem fz_max {idx : Nat} {x y : Int32} (hd : decode M.2.1 pc = .ok (.invokestatic idx, 3)) (hw : ∀ w ∈ ([.methodLink M.1.cls idx Lib.Math.max.name, .static Lib.Math.max.name, .initialized "java/lang/Math", .code Lib.Math.max.name Lib.Math.max.code 2 (some .int)] : List Cond), w ∈ fz_tb) (hfr : 1 ≤ R.frames) (hlo : fz_wd st + 13 ≤ R.locals) (hc : cs ≤ R.cells) (hs : sl ≤ R.slots) (k : fz_J G M R Z E0 cs sl (pc + 3) ls (zI (if x < y then y else x) :: st) V) : fz_J G M R Z E0 cs sl pc ls (zI y :: zI x :: st) V := by
  intro p e s m args below meth c H locs la hC hR hS hl
  have ht := hC.2.2.2.2.2.1
  exact va_mmax hC.1 hC.2.1 (hC.2.2.2.1.trans hl.1.symm) hC.2.2.2.2.1 (ht _ (hw _ (by simp))) (ht _ (hw _ (by simp))) (ht _ (hw _ (by simp))) (ht _ (hw _ (by simp))) hfr (by rw [fz_wd_sum]; exact hlo) hc hs hd (k p e s m args below meth c H locs la hC hR hS hl)
theorem fz_min {idx : Nat} {x y : Int32} (hd : decode M.2.1 pc = .ok (.invokestatic idx, 3)) (hw : ∀ w ∈ ([.methodLink M.1.cls idx Lib.Math.min.name, .static Lib.Math.min.name, .initialized "java/lang/Math", .code Lib.Math.min.name Lib.Math.min.code 2 (some .int)] : List Cond), w ∈ fz_tb) (hfr : 1 ≤ R.frames) (hlo : fz_wd st + 13 ≤ R.locals) (hc : cs ≤ R.cells) (hs : sl ≤ R.slots) (k : fz_J G M R Z E0 cs sl (pc + 3) ls (zI (if y < x then y else x) :: st) V) : fz_J G M R Z E0 cs sl pc ls (zI y :: zI x :: st) V := by
  intro p e s m args below meth c H locs la hC hR hS hl
  have ht := hC.2.2.2.2.2.1
  exact va_mmin hC.1 hC.2.1 (hC.2.2.2.1.trans hl.1.symm) hC.2.2.2.2.1 (ht _ (hw _ (by simp))) (ht _ (hw _ (by simp))) (ht _ (hw _ (by simp))) (ht _ (hw _ (by simp))) hfr (by rw [fz_wd_sum]; exact hlo) hc hs hd (k p e s m args below meth c H locs la hC hR hS hl)
end FZC
end
section
/-! WHAT THE LINKS SAY, a row a link. Printed by our own program. -/
theorem fX0_11 : fz_F RX0 11 0 1 (tyX0 1) true := ⟨RX0, TX0, 10, tyX0, rfl, izX0, by decide, fz_mem 349 (by decide +kernel) rfl, rfl, rfl, tyX0_ok 1 (by decide), tyX0_ok, nmX0⟩
theorem fX0_20 : fz_F RX0 20 0 2 (tyX0 2) true := ⟨RX0, TX0, 10, tyX0, rfl, izX0, by decide, fz_mem 350 (by decide +kernel) rfl, rfl, rfl, tyX0_ok 2 (by decide), tyX0_ok, nmX0⟩
theorem fX0_27 : fz_F RX0 27 0 3 (tyX0 3) true := ⟨RX0, TX0, 10, tyX0, rfl, izX0, by decide, fz_mem 351 (by decide +kernel) rfl, rfl, rfl, tyX0_ok 3 (by decide), tyX0_ok, nmX0⟩
theorem fX0_31 : fz_F RX0 31 0 5 (tyX0 5) false := ⟨RX0, TX0, 10, tyX0, rfl, izX0, by decide, fz_mem 353 (by decide +kernel) rfl, rfl, rfl, tyX0_ok 5 (by decide), tyX0_ok, nmX0⟩
theorem fX0_35 : fz_F RX0 35 0 0 (tyX0 0) true := ⟨RX0, TX0, 10, tyX0, rfl, izX0, by decide, fz_mem 348 (by decide +kernel) rfl, rfl, rfl, tyX0_ok 0 (by decide), tyX0_ok, nmX0⟩
theorem fX0_44 : fz_F RX0 44 0 4 (tyX0 4) true := ⟨RX0, TX0, 10, tyX0, rfl, izX0, by decide, fz_mem 352 (by decide +kernel) rfl, rfl, rfl, tyX0_ok 4 (by decide), tyX0_ok, nmX0⟩
theorem fX0_49 : fz_F RX0 49 0 6 (tyX0 6) false := ⟨RX0, TX0, 10, tyX0, rfl, izX0, by decide, fz_mem 354 (by decide +kernel) rfl, rfl, rfl, tyX0_ok 6 (by decide), tyX0_ok, nmX0⟩
theorem fX0_53 : fz_F RX0 53 0 7 (tyX0 7) false := ⟨RX0, TX0, 10, tyX0, rfl, izX0, by decide, fz_mem 355 (by decide +kernel) rfl, rfl, rfl, tyX0_ok 7 (by decide), tyX0_ok, nmX0⟩
theorem fX0_56 : fz_F RX0 56 0 8 (tyX0 8) false := ⟨RX0, TX0, 10, tyX0, rfl, izX0, by decide, fz_mem 356 (by decide +kernel) rfl, rfl, rfl, tyX0_ok 8 (by decide), tyX0_ok, nmX0⟩
theorem fX0_59 : fz_F RX0 59 0 9 (tyX0 9) false := ⟨RX0, TX0, 10, tyX0, rfl, izX0, by decide, fz_mem 357 (by decide +kernel) rfl, rfl, rfl, tyX0_ok 9 (by decide), tyX0_ok, nmX0⟩
theorem fX0_66 : fz_F RX0 66 6 1 (tyX6 1) false := ⟨RX6, TX6, 4, tyX6, rfl, izX6, by decide, fz_mem 334 (by decide +kernel) rfl, rfl, rfl, tyX6_ok 1 (by decide), tyX6_ok, nmX6⟩
theorem fX0_116 : fz_F RX0 116 7 1 (tyX7 1) false := ⟨RX7, TX7, 9, tyX7, rfl, izX7, by decide, fz_mem 192 (by decide +kernel) rfl, rfl, rfl, tyX7_ok 1 (by decide), tyX7_ok, nmX7⟩
theorem fX0_121 : fz_F RX0 121 7 2 (tyX7 2) false := ⟨RX7, TX7, 9, tyX7, rfl, izX7, by decide, fz_mem 194 (by decide +kernel) rfl, rfl, rfl, tyX7_ok 2 (by decide), tyX7_ok, nmX7⟩
theorem fX0_142 : fz_F RX0 142 6 3 (tyX6 3) false := ⟨RX6, TX6, 4, tyX6, rfl, izX6, by decide, fz_mem 338 (by decide +kernel) rfl, rfl, rfl, tyX6_ok 3 (by decide), tyX6_ok, nmX6⟩
theorem fX0_161 : fz_F RX0 161 7 3 (tyX7 3) false := ⟨RX7, TX7, 9, tyX7, rfl, izX7, by decide, fz_mem 198 (by decide +kernel) rfl, rfl, rfl, tyX7_ok 3 (by decide), tyX7_ok, nmX7⟩
theorem fX0_178 : fz_F RX0 178 6 0 (tyX6 0) false := ⟨RX6, TX6, 4, tyX6, rfl, izX6, by decide, fz_mem 332 (by decide +kernel) rfl, rfl, rfl, tyX6_ok 0 (by decide), tyX6_ok, nmX6⟩
theorem fX0_199 : fz_F RX0 199 6 2 (tyX6 2) false := ⟨RX6, TX6, 4, tyX6, rfl, izX6, by decide, fz_mem 336 (by decide +kernel) rfl, rfl, rfl, tyX6_ok 2 (by decide), tyX6_ok, nmX6⟩
theorem fX1_9 : fz_F RX1 9 1 0 (tyX1 0) true := ⟨RX1, TX1, 7, tyX1, rfl, izX1, by decide, fz_mem 93 (by decide +kernel) rfl, rfl, rfl, tyX1_ok 0 (by decide), tyX1_ok, nmX1⟩
theorem fX1_15 : fz_F RX1 15 1 1 (tyX1 1) true := ⟨RX1, TX1, 7, tyX1, rfl, izX1, by decide, fz_mem 95 (by decide +kernel) rfl, rfl, rfl, tyX1_ok 1 (by decide), tyX1_ok, nmX1⟩
theorem fX1_19 : fz_F RX1 19 1 2 (tyX1 2) true := ⟨RX1, TX1, 7, tyX1, rfl, izX1, by decide, fz_mem 97 (by decide +kernel) rfl, rfl, rfl, tyX1_ok 2 (by decide), tyX1_ok, nmX1⟩
theorem fX1_22 : fz_F RX1 22 1 3 (tyX1 3) true := ⟨RX1, TX1, 7, tyX1, rfl, izX1, by decide, fz_mem 98 (by decide +kernel) rfl, rfl, rfl, tyX1_ok 3 (by decide), tyX1_ok, nmX1⟩
theorem fX1_25 : fz_F RX1 25 1 4 (tyX1 4) true := ⟨RX1, TX1, 7, tyX1, rfl, izX1, by decide, fz_mem 99 (by decide +kernel) rfl, rfl, rfl, tyX1_ok 4 (by decide), tyX1_ok, nmX1⟩
theorem fX1_28 : fz_F RX1 28 1 5 (tyX1 5) false := ⟨RX1, TX1, 7, tyX1, rfl, izX1, by decide, fz_mem 100 (by decide +kernel) rfl, rfl, rfl, tyX1_ok 5 (by decide), tyX1_ok, nmX1⟩
theorem fX1_36 : fz_F RX1 36 1 6 (tyX1 6) false := ⟨RX1, TX1, 7, tyX1, rfl, izX1, by decide, fz_mem 101 (by decide +kernel) rfl, rfl, rfl, tyX1_ok 6 (by decide), tyX1_ok, nmX1⟩
theorem fX10_12 : fz_F RX10 12 10 0 (tyX10 0) false := ⟨RX10, TX10, 6, tyX10, rfl, izX10, by decide, fz_mem 379 (by decide +kernel) rfl, rfl, rfl, tyX10_ok 0 (by decide), tyX10_ok, nmX10⟩
theorem fX10_16 : fz_F RX10 16 10 1 (tyX10 1) false := ⟨RX10, TX10, 6, tyX10, rfl, izX10, by decide, fz_mem 380 (by decide +kernel) rfl, rfl, rfl, tyX10_ok 1 (by decide), tyX10_ok, nmX10⟩
theorem fX10_22 : fz_F RX10 22 10 2 (tyX10 2) true := ⟨RX10, TX10, 6, tyX10, rfl, izX10, by decide, fz_mem 381 (by decide +kernel) rfl, rfl, rfl, tyX10_ok 2 (by decide), tyX10_ok, nmX10⟩
theorem fX10_29 : fz_F RX10 29 10 3 (tyX10 3) true := ⟨RX10, TX10, 6, tyX10, rfl, izX10, by decide, fz_mem 382 (by decide +kernel) rfl, rfl, rfl, tyX10_ok 3 (by decide), tyX10_ok, nmX10⟩
theorem fX10_38 : fz_F RX10 38 10 4 (tyX10 4) true := ⟨RX10, TX10, 6, tyX10, rfl, izX10, by decide, fz_mem 383 (by decide +kernel) rfl, rfl, rfl, tyX10_ok 4 (by decide), tyX10_ok, nmX10⟩
theorem fX10_42 : fz_F RX10 42 10 5 (tyX10 5) false := ⟨RX10, TX10, 6, tyX10, rfl, izX10, by decide, fz_mem 384 (by decide +kernel) rfl, rfl, rfl, tyX10_ok 5 (by decide), tyX10_ok, nmX10⟩
theorem fX11_7 : fz_F RX11 7 11 1 (tyX11 1) true := ⟨RX11, TX11, 39, tyX11, rfl, izX11, by decide, fz_mem 922 (by decide +kernel) rfl, rfl, rfl, tyX11_ok 1 (by decide), tyX11_ok, nmX11⟩
theorem fX11_13 : fz_F RX11 13 11 2 (tyX11 2) false := ⟨RX11, TX11, 39, tyX11, rfl, izX11, by decide, fz_mem 923 (by decide +kernel) rfl, rfl, rfl, tyX11_ok 2 (by decide), tyX11_ok, nmX11⟩
theorem fX11_17 : fz_F RX11 17 11 5 (tyX11 5) true := ⟨RX11, TX11, 39, tyX11, rfl, izX11, by decide, fz_mem 926 (by decide +kernel) rfl, rfl, rfl, tyX11_ok 5 (by decide), tyX11_ok, nmX11⟩
theorem fX11_20 : fz_F RX11 20 11 6 (tyX11 6) true := ⟨RX11, TX11, 39, tyX11, rfl, izX11, by decide, fz_mem 927 (by decide +kernel) rfl, rfl, rfl, tyX11_ok 6 (by decide), tyX11_ok, nmX11⟩
theorem fX11_23 : fz_F RX11 23 11 9 (tyX11 9) true := ⟨RX11, TX11, 39, tyX11, rfl, izX11, by decide, fz_mem 930 (by decide +kernel) rfl, rfl, rfl, tyX11_ok 9 (by decide), tyX11_ok, nmX11⟩
theorem fX11_26 : fz_F RX11 26 11 10 (tyX11 10) true := ⟨RX11, TX11, 39, tyX11, rfl, izX11, by decide, fz_mem 931 (by decide +kernel) rfl, rfl, rfl, tyX11_ok 10 (by decide), tyX11_ok, nmX11⟩
theorem fX11_30 : fz_F RX11 30 11 13 (tyX11 13) true := ⟨RX11, TX11, 39, tyX11, rfl, izX11, by decide, fz_mem 934 (by decide +kernel) rfl, rfl, rfl, tyX11_ok 13 (by decide), tyX11_ok, nmX11⟩
theorem fX11_33 : fz_F RX11 33 11 14 (tyX11 14) true := ⟨RX11, TX11, 39, tyX11, rfl, izX11, by decide, fz_mem 935 (by decide +kernel) rfl, rfl, rfl, tyX11_ok 14 (by decide), tyX11_ok, nmX11⟩
theorem fX11_36 : fz_F RX11 36 11 15 (tyX11 15) true := ⟨RX11, TX11, 39, tyX11, rfl, izX11, by decide, fz_mem 936 (by decide +kernel) rfl, rfl, rfl, tyX11_ok 15 (by decide), tyX11_ok, nmX11⟩
theorem fX11_39 : fz_F RX11 39 11 16 (tyX11 16) true := ⟨RX11, TX11, 39, tyX11, rfl, izX11, by decide, fz_mem 937 (by decide +kernel) rfl, rfl, rfl, tyX11_ok 16 (by decide), tyX11_ok, nmX11⟩
theorem fX11_42 : fz_F RX11 42 11 17 (tyX11 17) true := ⟨RX11, TX11, 39, tyX11, rfl, izX11, by decide, fz_mem 938 (by decide +kernel) rfl, rfl, rfl, tyX11_ok 17 (by decide), tyX11_ok, nmX11⟩
theorem fX11_45 : fz_F RX11 45 11 18 (tyX11 18) true := ⟨RX11, TX11, 39, tyX11, rfl, izX11, by decide, fz_mem 939 (by decide +kernel) rfl, rfl, rfl, tyX11_ok 18 (by decide), tyX11_ok, nmX11⟩
theorem fX11_48 : fz_F RX11 48 11 23 (tyX11 23) true := ⟨RX11, TX11, 39, tyX11, rfl, izX11, by decide, fz_mem 944 (by decide +kernel) rfl, rfl, rfl, tyX11_ok 23 (by decide), tyX11_ok, nmX11⟩
theorem fX11_51 : fz_F RX11 51 11 24 (tyX11 24) true := ⟨RX11, TX11, 39, tyX11, rfl, izX11, by decide, fz_mem 945 (by decide +kernel) rfl, rfl, rfl, tyX11_ok 24 (by decide), tyX11_ok, nmX11⟩
theorem fX11_54 : fz_F RX11 54 11 25 (tyX11 25) true := ⟨RX11, TX11, 39, tyX11, rfl, izX11, by decide, fz_mem 946 (by decide +kernel) rfl, rfl, rfl, tyX11_ok 25 (by decide), tyX11_ok, nmX11⟩
theorem fX11_57 : fz_F RX11 57 11 26 (tyX11 26) true := ⟨RX11, TX11, 39, tyX11, rfl, izX11, by decide, fz_mem 947 (by decide +kernel) rfl, rfl, rfl, tyX11_ok 26 (by decide), tyX11_ok, nmX11⟩
theorem fX11_60 : fz_F RX11 60 11 27 (tyX11 27) true := ⟨RX11, TX11, 39, tyX11, rfl, izX11, by decide, fz_mem 948 (by decide +kernel) rfl, rfl, rfl, tyX11_ok 27 (by decide), tyX11_ok, nmX11⟩
theorem fX11_63 : fz_F RX11 63 11 29 (tyX11 29) true := ⟨RX11, TX11, 39, tyX11, rfl, izX11, by decide, fz_mem 950 (by decide +kernel) rfl, rfl, rfl, tyX11_ok 29 (by decide), tyX11_ok, nmX11⟩
theorem fX11_66 : fz_F RX11 66 11 30 (tyX11 30) true := ⟨RX11, TX11, 39, tyX11, rfl, izX11, by decide, fz_mem 951 (by decide +kernel) rfl, rfl, rfl, tyX11_ok 30 (by decide), tyX11_ok, nmX11⟩
theorem fX11_69 : fz_F RX11 69 11 31 (tyX11 31) true := ⟨RX11, TX11, 39, tyX11, rfl, izX11, by decide, fz_mem 952 (by decide +kernel) rfl, rfl, rfl, tyX11_ok 31 (by decide), tyX11_ok, nmX11⟩
theorem fX11_72 : fz_F RX11 72 11 32 (tyX11 32) true := ⟨RX11, TX11, 39, tyX11, rfl, izX11, by decide, fz_mem 953 (by decide +kernel) rfl, rfl, rfl, tyX11_ok 32 (by decide), tyX11_ok, nmX11⟩
theorem fX11_75 : fz_F RX11 75 11 33 (tyX11 33) true := ⟨RX11, TX11, 39, tyX11, rfl, izX11, by decide, fz_mem 954 (by decide +kernel) rfl, rfl, rfl, tyX11_ok 33 (by decide), tyX11_ok, nmX11⟩
theorem fX11_78 : fz_F RX11 78 11 34 (tyX11 34) true := ⟨RX11, TX11, 39, tyX11, rfl, izX11, by decide, fz_mem 955 (by decide +kernel) rfl, rfl, rfl, tyX11_ok 34 (by decide), tyX11_ok, nmX11⟩
theorem fX11_81 : fz_F RX11 81 11 35 (tyX11 35) true := ⟨RX11, TX11, 39, tyX11, rfl, izX11, by decide, fz_mem 956 (by decide +kernel) rfl, rfl, rfl, tyX11_ok 35 (by decide), tyX11_ok, nmX11⟩
theorem fX11_84 : fz_F RX11 84 11 36 (tyX11 36) true := ⟨RX11, TX11, 39, tyX11, rfl, izX11, by decide, fz_mem 957 (by decide +kernel) rfl, rfl, rfl, tyX11_ok 36 (by decide), tyX11_ok, nmX11⟩
theorem fX11_88 : fz_F RX11 88 11 37 (tyX11 37) true := ⟨RX11, TX11, 39, tyX11, rfl, izX11, by decide, fz_mem 958 (by decide +kernel) rfl, rfl, rfl, tyX11_ok 37 (by decide), tyX11_ok, nmX11⟩
theorem fX11_91 : fz_F RX11 91 11 38 (tyX11 38) true := ⟨RX11, TX11, 39, tyX11, rfl, izX11, by decide, fz_mem 959 (by decide +kernel) rfl, rfl, rfl, tyX11_ok 38 (by decide), tyX11_ok, nmX11⟩
theorem fX11_96 : fz_F RX11 96 11 0 (tyX11 0) false := ⟨RX11, TX11, 39, tyX11, rfl, izX11, by decide, fz_mem 921 (by decide +kernel) rfl, rfl, rfl, tyX11_ok 0 (by decide), tyX11_ok, nmX11⟩
theorem fX11_99 : fz_F RX11 99 11 7 (tyX11 7) false := ⟨RX11, TX11, 39, tyX11, rfl, izX11, by decide, fz_mem 928 (by decide +kernel) rfl, rfl, rfl, tyX11_ok 7 (by decide), tyX11_ok, nmX11⟩
theorem fX11_102 : fz_F RX11 102 11 8 (tyX11 8) false := ⟨RX11, TX11, 39, tyX11, rfl, izX11, by decide, fz_mem 929 (by decide +kernel) rfl, rfl, rfl, tyX11_ok 8 (by decide), tyX11_ok, nmX11⟩
theorem fX11_132 : fz_F RX11 132 11 3 (tyX11 3) false := ⟨RX11, TX11, 39, tyX11, rfl, izX11, by decide, fz_mem 924 (by decide +kernel) rfl, rfl, rfl, tyX11_ok 3 (by decide), tyX11_ok, nmX11⟩
theorem fX11_135 : fz_F RX11 135 11 4 (tyX11 4) false := ⟨RX11, TX11, 39, tyX11, rfl, izX11, by decide, fz_mem 925 (by decide +kernel) rfl, rfl, rfl, tyX11_ok 4 (by decide), tyX11_ok, nmX11⟩
theorem fX11_141 : fz_F RX11 141 11 11 (tyX11 11) false := ⟨RX11, TX11, 39, tyX11, rfl, izX11, by decide, fz_mem 932 (by decide +kernel) rfl, rfl, rfl, tyX11_ok 11 (by decide), tyX11_ok, nmX11⟩
theorem fX11_144 : fz_F RX11 144 11 12 (tyX11 12) false := ⟨RX11, TX11, 39, tyX11, rfl, izX11, by decide, fz_mem 933 (by decide +kernel) rfl, rfl, rfl, tyX11_ok 12 (by decide), tyX11_ok, nmX11⟩
theorem fX11_147 : fz_F RX11 147 11 22 (tyX11 22) false := ⟨RX11, TX11, 39, tyX11, rfl, izX11, by decide, fz_mem 943 (by decide +kernel) rfl, rfl, rfl, tyX11_ok 22 (by decide), tyX11_ok, nmX11⟩
theorem fX11_150 : fz_F RX11 150 11 28 (tyX11 28) false := ⟨RX11, TX11, 39, tyX11, rfl, izX11, by decide, fz_mem 949 (by decide +kernel) rfl, rfl, rfl, tyX11_ok 28 (by decide), tyX11_ok, nmX11⟩
theorem fX11_153 : fz_F RX11 153 11 19 (tyX11 19) false := ⟨RX11, TX11, 39, tyX11, rfl, izX11, by decide, fz_mem 940 (by decide +kernel) rfl, rfl, rfl, tyX11_ok 19 (by decide), tyX11_ok, nmX11⟩
theorem fX11_156 : fz_F RX11 156 11 20 (tyX11 20) false := ⟨RX11, TX11, 39, tyX11, rfl, izX11, by decide, fz_mem 941 (by decide +kernel) rfl, rfl, rfl, tyX11_ok 20 (by decide), tyX11_ok, nmX11⟩
theorem fX11_159 : fz_F RX11 159 11 21 (tyX11 21) false := ⟨RX11, TX11, 39, tyX11, rfl, izX11, by decide, fz_mem 942 (by decide +kernel) rfl, rfl, rfl, tyX11_ok 21 (by decide), tyX11_ok, nmX11⟩
theorem fX2_9 : fz_F RX2 9 2 0 (tyX2 0) true := ⟨RX2, TX2, 6, tyX2, rfl, izX2, by decide, fz_mem 125 (by decide +kernel) rfl, rfl, rfl, tyX2_ok 0 (by decide), tyX2_ok, nmX2⟩
theorem fX2_15 : fz_F RX2 15 2 1 (tyX2 1) false := ⟨RX2, TX2, 6, tyX2, rfl, izX2, by decide, fz_mem 126 (by decide +kernel) rfl, rfl, rfl, tyX2_ok 1 (by decide), tyX2_ok, nmX2⟩
theorem fX2_19 : fz_F RX2 19 2 2 (tyX2 2) false := ⟨RX2, TX2, 6, tyX2, rfl, izX2, by decide, fz_mem 127 (by decide +kernel) rfl, rfl, rfl, tyX2_ok 2 (by decide), tyX2_ok, nmX2⟩
theorem fX2_22 : fz_F RX2 22 2 5 (tyX2 5) false := ⟨RX2, TX2, 6, tyX2, rfl, izX2, by decide, fz_mem 130 (by decide +kernel) rfl, rfl, rfl, tyX2_ok 5 (by decide), tyX2_ok, nmX2⟩
theorem fX2_29 : fz_F RX2 29 2 3 (tyX2 3) false := ⟨RX2, TX2, 6, tyX2, rfl, izX2, by decide, fz_mem 128 (by decide +kernel) rfl, rfl, rfl, tyX2_ok 3 (by decide), tyX2_ok, nmX2⟩
theorem fX2_32 : fz_F RX2 32 2 4 (tyX2 4) false := ⟨RX2, TX2, 6, tyX2, rfl, izX2, by decide, fz_mem 129 (by decide +kernel) rfl, rfl, rfl, tyX2_ok 4 (by decide), tyX2_ok, nmX2⟩
theorem fX3_9 : fz_F RX3 9 3 0 (tyX3 0) false := ⟨RX3, TX3, 1, tyX3, rfl, izX3, by decide, fz_mem 285 (by decide +kernel) rfl, rfl, rfl, tyX3_ok 0 (by decide), tyX3_ok, nmX3⟩
theorem fX4_9 : fz_F RX4 9 4 0 (tyX4 0) false := ⟨RX4, TX4, 6, tyX4, rfl, izX4, by decide, fz_mem 159 (by decide +kernel) rfl, rfl, rfl, tyX4_ok 0 (by decide), tyX4_ok, nmX4⟩
theorem fX4_15 : fz_F RX4 15 4 1 (tyX4 1) false := ⟨RX4, TX4, 6, tyX4, rfl, izX4, by decide, fz_mem 161 (by decide +kernel) rfl, rfl, rfl, tyX4_ok 1 (by decide), tyX4_ok, nmX4⟩
theorem fX4_18 : fz_F RX4 18 4 2 (tyX4 2) false := ⟨RX4, TX4, 6, tyX4, rfl, izX4, by decide, fz_mem 163 (by decide +kernel) rfl, rfl, rfl, tyX4_ok 2 (by decide), tyX4_ok, nmX4⟩
theorem fX4_21 : fz_F RX4 21 4 3 (tyX4 3) false := ⟨RX4, TX4, 6, tyX4, rfl, izX4, by decide, fz_mem 165 (by decide +kernel) rfl, rfl, rfl, tyX4_ok 3 (by decide), tyX4_ok, nmX4⟩
theorem fX4_24 : fz_F RX4 24 4 4 (tyX4 4) false := ⟨RX4, TX4, 6, tyX4, rfl, izX4, by decide, fz_mem 167 (by decide +kernel) rfl, rfl, rfl, tyX4_ok 4 (by decide), tyX4_ok, nmX4⟩
theorem fX4_27 : fz_F RX4 27 4 5 (tyX4 5) false := ⟨RX4, TX4, 6, tyX4, rfl, izX4, by decide, fz_mem 169 (by decide +kernel) rfl, rfl, rfl, tyX4_ok 5 (by decide), tyX4_ok, nmX4⟩
theorem fX5_11 : fz_F RX5 11 5 0 (tyX5 0) true := ⟨RX5, TX5, 7, tyX5, rfl, izX5, by decide, fz_mem 227 (by decide +kernel) rfl, rfl, rfl, tyX5_ok 0 (by decide), tyX5_ok, nmX5⟩
theorem fX5_19 : fz_F RX5 19 5 1 (tyX5 1) true := ⟨RX5, TX5, 7, tyX5, rfl, izX5, by decide, fz_mem 228 (by decide +kernel) rfl, rfl, rfl, tyX5_ok 1 (by decide), tyX5_ok, nmX5⟩
theorem fX5_23 : fz_F RX5 23 5 2 (tyX5 2) true := ⟨RX5, TX5, 7, tyX5, rfl, izX5, by decide, fz_mem 229 (by decide +kernel) rfl, rfl, rfl, tyX5_ok 2 (by decide), tyX5_ok, nmX5⟩
theorem fX5_29 : fz_F RX5 29 5 3 (tyX5 3) false := ⟨RX5, TX5, 7, tyX5, rfl, izX5, by decide, fz_mem 230 (by decide +kernel) rfl, rfl, rfl, tyX5_ok 3 (by decide), tyX5_ok, nmX5⟩
theorem fX5_33 : fz_F RX5 33 5 5 (tyX5 5) false := ⟨RX5, TX5, 7, tyX5, rfl, izX5, by decide, fz_mem 232 (by decide +kernel) rfl, rfl, rfl, tyX5_ok 5 (by decide), tyX5_ok, nmX5⟩
theorem fX5_36 : fz_F RX5 36 5 4 (tyX5 4) false := ⟨RX5, TX5, 7, tyX5, rfl, izX5, by decide, fz_mem 231 (by decide +kernel) rfl, rfl, rfl, tyX5_ok 4 (by decide), tyX5_ok, nmX5⟩
theorem fX5_39 : fz_F RX5 39 5 6 (tyX5 6) false := ⟨RX5, TX5, 7, tyX5, rfl, izX5, by decide, fz_mem 233 (by decide +kernel) rfl, rfl, rfl, tyX5_ok 6 (by decide), tyX5_ok, nmX5⟩
theorem fX5_52 : fz_F RX5 52 4 0 (tyX4 0) false := ⟨RX4, TX4, 6, tyX4, rfl, izX4, by decide, fz_mem 160 (by decide +kernel) rfl, rfl, rfl, tyX4_ok 0 (by decide), tyX4_ok, nmX4⟩
theorem fX5_55 : fz_F RX5 55 4 4 (tyX4 4) false := ⟨RX4, TX4, 6, tyX4, rfl, izX4, by decide, fz_mem 168 (by decide +kernel) rfl, rfl, rfl, tyX4_ok 4 (by decide), tyX4_ok, nmX4⟩
theorem fX5_59 : fz_F RX5 59 4 1 (tyX4 1) false := ⟨RX4, TX4, 6, tyX4, rfl, izX4, by decide, fz_mem 162 (by decide +kernel) rfl, rfl, rfl, tyX4_ok 1 (by decide), tyX4_ok, nmX4⟩
theorem fX5_61 : fz_F RX5 61 4 2 (tyX4 2) false := ⟨RX4, TX4, 6, tyX4, rfl, izX4, by decide, fz_mem 164 (by decide +kernel) rfl, rfl, rfl, tyX4_ok 2 (by decide), tyX4_ok, nmX4⟩
theorem fX5_64 : fz_F RX5 64 7 3 (tyX7 3) false := ⟨RX7, TX7, 9, tyX7, rfl, izX7, by decide, fz_mem 197 (by decide +kernel) rfl, rfl, rfl, tyX7_ok 3 (by decide), tyX7_ok, nmX7⟩
theorem fX5_75 : fz_F RX5 75 7 4 (tyX7 4) false := ⟨RX7, TX7, 9, tyX7, rfl, izX7, by decide, fz_mem 200 (by decide +kernel) rfl, rfl, rfl, tyX7_ok 4 (by decide), tyX7_ok, nmX7⟩
theorem fX5_78 : fz_F RX5 78 7 6 (tyX7 6) false := ⟨RX7, TX7, 9, tyX7, rfl, izX7, by decide, fz_mem 203 (by decide +kernel) rfl, rfl, rfl, tyX7_ok 6 (by decide), tyX7_ok, nmX7⟩
theorem fX5_81 : fz_F RX5 81 7 7 (tyX7 7) false := ⟨RX7, TX7, 9, tyX7, rfl, izX7, by decide, fz_mem 205 (by decide +kernel) rfl, rfl, rfl, tyX7_ok 7 (by decide), tyX7_ok, nmX7⟩
theorem fX5_84 : fz_F RX5 84 7 8 (tyX7 8) false := ⟨RX7, TX7, 9, tyX7, rfl, izX7, by decide, fz_mem 207 (by decide +kernel) rfl, rfl, rfl, tyX7_ok 8 (by decide), tyX7_ok, nmX7⟩
theorem fX5_87 : fz_F RX5 87 7 0 (tyX7 0) false := ⟨RX7, TX7, 9, tyX7, rfl, izX7, by decide, fz_mem 190 (by decide +kernel) rfl, rfl, rfl, tyX7_ok 0 (by decide), tyX7_ok, nmX7⟩
theorem fX5_90 : fz_F RX5 90 7 2 (tyX7 2) false := ⟨RX7, TX7, 9, tyX7, rfl, izX7, by decide, fz_mem 195 (by decide +kernel) rfl, rfl, rfl, tyX7_ok 2 (by decide), tyX7_ok, nmX7⟩
theorem fX5_91 : fz_F RX5 91 4 3 (tyX4 3) false := ⟨RX4, TX4, 6, tyX4, rfl, izX4, by decide, fz_mem 166 (by decide +kernel) rfl, rfl, rfl, tyX4_ok 3 (by decide), tyX4_ok, nmX4⟩
theorem fX5_94 : fz_F RX5 94 4 5 (tyX4 5) false := ⟨RX4, TX4, 6, tyX4, rfl, izX4, by decide, fz_mem 170 (by decide +kernel) rfl, rfl, rfl, tyX4_ok 5 (by decide), tyX4_ok, nmX4⟩
theorem fX6_9 : fz_F RX6 9 6 0 (tyX6 0) false := ⟨RX6, TX6, 4, tyX6, rfl, izX6, by decide, fz_mem 331 (by decide +kernel) rfl, rfl, rfl, tyX6_ok 0 (by decide), tyX6_ok, nmX6⟩
theorem fX6_15 : fz_F RX6 15 6 1 (tyX6 1) false := ⟨RX6, TX6, 4, tyX6, rfl, izX6, by decide, fz_mem 333 (by decide +kernel) rfl, rfl, rfl, tyX6_ok 1 (by decide), tyX6_ok, nmX6⟩
theorem fX6_18 : fz_F RX6 18 6 2 (tyX6 2) false := ⟨RX6, TX6, 4, tyX6, rfl, izX6, by decide, fz_mem 335 (by decide +kernel) rfl, rfl, rfl, tyX6_ok 2 (by decide), tyX6_ok, nmX6⟩
theorem fX6_21 : fz_F RX6 21 6 3 (tyX6 3) false := ⟨RX6, TX6, 4, tyX6, rfl, izX6, by decide, fz_mem 337 (by decide +kernel) rfl, rfl, rfl, tyX6_ok 3 (by decide), tyX6_ok, nmX6⟩
theorem fX7_9 : fz_F RX7 9 7 0 (tyX7 0) false := ⟨RX7, TX7, 9, tyX7, rfl, izX7, by decide, fz_mem 189 (by decide +kernel) rfl, rfl, rfl, tyX7_ok 0 (by decide), tyX7_ok, nmX7⟩
theorem fX7_15 : fz_F RX7 15 7 1 (tyX7 1) false := ⟨RX7, TX7, 9, tyX7, rfl, izX7, by decide, fz_mem 191 (by decide +kernel) rfl, rfl, rfl, tyX7_ok 1 (by decide), tyX7_ok, nmX7⟩
theorem fX7_18 : fz_F RX7 18 7 2 (tyX7 2) false := ⟨RX7, TX7, 9, tyX7, rfl, izX7, by decide, fz_mem 193 (by decide +kernel) rfl, rfl, rfl, tyX7_ok 2 (by decide), tyX7_ok, nmX7⟩
theorem fX7_21 : fz_F RX7 21 7 3 (tyX7 3) false := ⟨RX7, TX7, 9, tyX7, rfl, izX7, by decide, fz_mem 196 (by decide +kernel) rfl, rfl, rfl, tyX7_ok 3 (by decide), tyX7_ok, nmX7⟩
theorem fX7_24 : fz_F RX7 24 7 4 (tyX7 4) false := ⟨RX7, TX7, 9, tyX7, rfl, izX7, by decide, fz_mem 199 (by decide +kernel) rfl, rfl, rfl, tyX7_ok 4 (by decide), tyX7_ok, nmX7⟩
theorem fX7_27 : fz_F RX7 27 7 5 (tyX7 5) false := ⟨RX7, TX7, 9, tyX7, rfl, izX7, by decide, fz_mem 201 (by decide +kernel) rfl, rfl, rfl, tyX7_ok 5 (by decide), tyX7_ok, nmX7⟩
theorem fX7_30 : fz_F RX7 30 7 6 (tyX7 6) false := ⟨RX7, TX7, 9, tyX7, rfl, izX7, by decide, fz_mem 202 (by decide +kernel) rfl, rfl, rfl, tyX7_ok 6 (by decide), tyX7_ok, nmX7⟩
theorem fX7_33 : fz_F RX7 33 7 7 (tyX7 7) false := ⟨RX7, TX7, 9, tyX7, rfl, izX7, by decide, fz_mem 204 (by decide +kernel) rfl, rfl, rfl, tyX7_ok 7 (by decide), tyX7_ok, nmX7⟩
theorem fX7_36 : fz_F RX7 36 7 8 (tyX7 8) false := ⟨RX7, TX7, 9, tyX7, rfl, izX7, by decide, fz_mem 206 (by decide +kernel) rfl, rfl, rfl, tyX7_ok 8 (by decide), tyX7_ok, nmX7⟩
theorem fX8_9 : fz_F RX8 9 8 0 (tyX8 0) true := ⟨RX8, TX8, 5, tyX8, rfl, izX8, by decide, fz_mem 263 (by decide +kernel) rfl, rfl, rfl, tyX8_ok 0 (by decide), tyX8_ok, nmX8⟩
theorem fX8_15 : fz_F RX8 15 8 1 (tyX8 1) true := ⟨RX8, TX8, 5, tyX8, rfl, izX8, by decide, fz_mem 264 (by decide +kernel) rfl, rfl, rfl, tyX8_ok 1 (by decide), tyX8_ok, nmX8⟩
theorem fX8_19 : fz_F RX8 19 8 2 (tyX8 2) true := ⟨RX8, TX8, 5, tyX8, rfl, izX8, by decide, fz_mem 265 (by decide +kernel) rfl, rfl, rfl, tyX8_ok 2 (by decide), tyX8_ok, nmX8⟩
theorem fX8_22 : fz_F RX8 22 8 3 (tyX8 3) true := ⟨RX8, TX8, 5, tyX8, rfl, izX8, by decide, fz_mem 266 (by decide +kernel) rfl, rfl, rfl, tyX8_ok 3 (by decide), tyX8_ok, nmX8⟩
theorem fX8_25 : fz_F RX8 25 8 4 (tyX8 4) false := ⟨RX8, TX8, 5, tyX8, rfl, izX8, by decide, fz_mem 267 (by decide +kernel) rfl, rfl, rfl, tyX8_ok 4 (by decide), tyX8_ok, nmX8⟩
theorem fX9_9 : fz_F RX9 9 9 1 (tyX9 1) true := ⟨RX9, TX9, 10, tyX9, rfl, izX9, by decide, fz_mem 296 (by decide +kernel) rfl, rfl, rfl, tyX9_ok 1 (by decide), tyX9_ok, nmX9⟩
theorem fX9_15 : fz_F RX9 15 9 2 (tyX9 2) true := ⟨RX9, TX9, 10, tyX9, rfl, izX9, by decide, fz_mem 297 (by decide +kernel) rfl, rfl, rfl, tyX9_ok 2 (by decide), tyX9_ok, nmX9⟩
theorem fX9_18 : fz_F RX9 18 9 5 (tyX9 5) false := ⟨RX9, TX9, 10, tyX9, rfl, izX9, by decide, fz_mem 300 (by decide +kernel) rfl, rfl, rfl, tyX9_ok 5 (by decide), tyX9_ok, nmX9⟩
theorem fX9_22 : fz_F RX9 22 9 0 (tyX9 0) true := ⟨RX9, TX9, 10, tyX9, rfl, izX9, by decide, fz_mem 295 (by decide +kernel) rfl, rfl, rfl, tyX9_ok 0 (by decide), tyX9_ok, nmX9⟩
theorem fX9_26 : fz_F RX9 26 9 6 (tyX9 6) false := ⟨RX9, TX9, 10, tyX9, rfl, izX9, by decide, fz_mem 301 (by decide +kernel) rfl, rfl, rfl, tyX9_ok 6 (by decide), tyX9_ok, nmX9⟩
theorem fX9_30 : fz_F RX9 30 9 7 (tyX9 7) false := ⟨RX9, TX9, 10, tyX9, rfl, izX9, by decide, fz_mem 302 (by decide +kernel) rfl, rfl, rfl, tyX9_ok 7 (by decide), tyX9_ok, nmX9⟩
theorem fX9_33 : fz_F RX9 33 9 8 (tyX9 8) false := ⟨RX9, TX9, 10, tyX9, rfl, izX9, by decide, fz_mem 303 (by decide +kernel) rfl, rfl, rfl, tyX9_ok 8 (by decide), tyX9_ok, nmX9⟩
theorem fX9_36 : fz_F RX9 36 9 9 (tyX9 9) false := ⟨RX9, TX9, 10, tyX9, rfl, izX9, by decide, fz_mem 304 (by decide +kernel) rfl, rfl, rfl, tyX9_ok 9 (by decide), tyX9_ok, nmX9⟩
theorem fX9_84 : fz_F RX9 84 1 1 (tyX1 1) true := ⟨RX1, TX1, 7, tyX1, rfl, izX1, by decide, fz_mem 96 (by decide +kernel) rfl, rfl, rfl, tyX1_ok 1 (by decide), tyX1_ok, nmX1⟩
theorem fX9_95 : fz_F RX9 95 9 3 (tyX9 3) false := ⟨RX9, TX9, 10, tyX9, rfl, izX9, by decide, fz_mem 298 (by decide +kernel) rfl, rfl, rfl, tyX9_ok 3 (by decide), tyX9_ok, nmX9⟩
theorem fX9_99 : fz_F RX9 99 9 4 (tyX9 4) false := ⟨RX9, TX9, 10, tyX9, rfl, izX9, by decide, fz_mem 299 (by decide +kernel) rfl, rfl, rfl, tyX9_ok 4 (by decide), tyX9_ok, nmX9⟩
theorem fX9_105 : fz_F RX9 105 1 0 (tyX1 0) true := ⟨RX1, TX1, 7, tyX1, rfl, izX1, by decide, fz_mem 94 (by decide +kernel) rfl, rfl, rfl, tyX1_ok 0 (by decide), tyX1_ok, nmX1⟩
theorem kX0_19 : fz_cIN RX0 19 RX10 mX8_init 0 := ⟨fz_mems [260, 71, 261] (by decide +kernel) (by decide +kernel), by decide +kernel, ⟨by decide +kernel, by decide +kernel, by decide +kernel⟩, rfl, rfl⟩
theorem kX0_26 : fz_cIN RX0 26 RX10 mX3_init 0 := ⟨fz_mems [282, 72, 283] (by decide +kernel) (by decide +kernel), by decide +kernel, ⟨by decide +kernel, by decide +kernel, by decide +kernel⟩, rfl, rfl⟩
theorem kX0_41 : fz_cI RX0 41 mX9_init 2 := ⟨fz_mems [291, 292, 73, 293] (by decide +kernel) (by decide +kernel), ⟨by decide +kernel, by decide +kernel, by decide +kernel⟩, rfl, rfl⟩
theorem kX0_48 : fz_cIN RX0 48 RX10 mX6_init 0 := ⟨fz_mems [328, 74, 329] (by decide +kernel) (by decide +kernel), by decide +kernel, ⟨by decide +kernel, by decide +kernel, by decide +kernel⟩, rfl, rfl⟩
theorem kX0_62 : fz_cV RX0 62 mX3_alarms 0 3 := ⟨fz_mems [898, 899, 900, 72, 901] (by decide +kernel) (by decide +kernel), ⟨by decide +kernel, by decide +kernel, by decide +kernel⟩, rfl⟩
theorem kX0_69 : fz_cV RX0 69 mX9_begin 1 9 := ⟨fz_mems [525, 526, 527, 73, 528] (by decide +kernel) (by decide +kernel), ⟨by decide +kernel, by decide +kernel, by decide +kernel⟩, rfl⟩
theorem kX0_73 : fz_cV RX0 73 mX8_clear 0 8 := ⟨fz_mems [529, 530, 531, 71, 532] (by decide +kernel) (by decide +kernel), ⟨by decide +kernel, by decide +kernel, by decide +kernel⟩, rfl⟩
theorem kX0_76 : fz_cV RX0 76 mX3_clear 0 3 := ⟨fz_mems [534, 535, 536, 72, 537] (by decide +kernel) (by decide +kernel), ⟨by decide +kernel, by decide +kernel, by decide +kernel⟩, rfl⟩
theorem kX0_77 : fz_cV RX0 77 mX8_ownerOf 1 8 := ⟨fz_mems [573, 574, 575, 71, 576] (by decide +kernel) (by decide +kernel), ⟨by decide +kernel, by decide +kernel, by decide +kernel⟩, rfl⟩
theorem kX0_81 : fz_cV RX0 81 mX6_begin 0 6 := ⟨fz_mems [577, 578, 579, 74, 580] (by decide +kernel) (by decide +kernel), ⟨by decide +kernel, by decide +kernel, by decide +kernel⟩, rfl⟩
theorem kX0_83 : fz_cV RX0 83 mX8_add 1 8 := ⟨fz_mems [581, 582, 583, 71, 584] (by decide +kernel) (by decide +kernel), ⟨by decide +kernel, by decide +kernel, by decide +kernel⟩, rfl⟩
theorem kX0_87 : fz_cV RX0 87 mX5_pending 0 5 := ⟨fz_mems [651, 652, 653, 67, 654] (by decide +kernel) (by decide +kernel), ⟨by decide +kernel, by decide +kernel, by decide +kernel⟩, rfl⟩
theorem kX0_92 : fz_cV RX0 92 mX8_endTimeOf 1 8 := ⟨fz_mems [655, 656, 657, 71, 658] (by decide +kernel) (by decide +kernel), ⟨by decide +kernel, by decide +kernel, by decide +kernel⟩, rfl⟩
theorem kX0_95 : fz_cV RX0 95 mX0_lookForWork 1 0 := ⟨fz_mems [659, 661, 11, 70, 662] (by decide +kernel) (by decide +kernel), ⟨by decide +kernel, by decide +kernel, by decide +kernel⟩, rfl⟩
theorem kX0_98 : fz_cV RX0 98 mX0_goOn 1 0 := ⟨fz_mems [785, 787, 28, 70, 788] (by decide +kernel) (by decide +kernel), ⟨by decide +kernel, by decide +kernel, by decide +kernel⟩, rfl⟩
theorem kX0_101 : fz_cV RX0 101 mX3_look 3 3 := ⟨fz_mems [802, 803, 804, 72, 805] (by decide +kernel) (by decide +kernel), ⟨by decide +kernel, by decide +kernel, by decide +kernel⟩, rfl⟩
theorem kX0_105 : fz_cV RX0 105 mX8_cellAt 2 8 := ⟨fz_mems [663, 664, 665, 71, 666] (by decide +kernel) (by decide +kernel), ⟨by decide +kernel, by decide +kernel, by decide +kernel⟩, rfl⟩
theorem kX0_109 : fz_cV RX0 109 mX0_nearestFit 2 0 := ⟨fz_mems [667, 669, 12, 70, 670] (by decide +kernel) (by decide +kernel), ⟨by decide +kernel, by decide +kernel, by decide +kernel⟩, rfl⟩
theorem kX0_112 : fz_cV RX0 112 mX5_taskAt 1 5 := ⟨fz_mems [675, 676, 677, 67, 678] (by decide +kernel) (by decide +kernel), ⟨by decide +kernel, by decide +kernel, by decide +kernel⟩, rfl⟩
theorem kX0_124 : fz_cV RX0 124 mX9_find 4 9 := ⟨fz_mems [689, 690, 691, 73, 692] (by decide +kernel) (by decide +kernel), ⟨by decide +kernel, by decide +kernel, by decide +kernel⟩, rfl⟩
theorem kX0_128 : fz_cV RX0 128 mX0_countWay 1 0 := ⟨fz_mems [758, 760, 25, 70, 761] (by decide +kernel) (by decide +kernel), ⟨by decide +kernel, by decide +kernel, by decide +kernel⟩, rfl⟩
theorem kX0_132 : fz_cV RX0 132 mX0_take 3 0 := ⟨fz_mems [763, 765, 26, 70, 766] (by decide +kernel) (by decide +kernel), ⟨by decide +kernel, by decide +kernel, by decide +kernel⟩, rfl⟩
theorem kX0_136 : fz_cV RX0 136 mX5_arePendingFor 1 5 := ⟨fz_mems [775, 776, 777, 67, 778] (by decide +kernel) (by decide +kernel), ⟨by decide +kernel, by decide +kernel, by decide +kernel⟩, rfl⟩
theorem kX0_139 : fz_cV RX0 139 mX0_nearestRefuge 2 0 := ⟨fz_mems [779, 781, 27, 70, 782] (by decide +kernel) (by decide +kernel), ⟨by decide +kernel, by decide +kernel, by decide +kernel⟩, rfl⟩
theorem kX0_145 : fz_cV RX0 145 mX5_tasks 0 5 := ⟨fz_mems [671, 672, 673, 67, 674] (by decide +kernel) (by decide +kernel), ⟨by decide +kernel, by decide +kernel, by decide +kernel⟩, rfl⟩
theorem kX0_148 : fz_cV RX0 148 mX0_isFit 2 0 := ⟨fz_mems [679, 681, 13, 70, 682] (by decide +kernel) (by decide +kernel), ⟨by decide +kernel, by decide +kernel, by decide +kernel⟩, rfl⟩
theorem kX0_152 : fz_cV RX0 152 mX1_measureFrom 2 1 := ⟨fz_mems [687, 498, 499, 65, 500] (by decide +kernel) (by decide +kernel), ⟨by decide +kernel, by decide +kernel, by decide +kernel⟩, rfl⟩
theorem kX0_158 : fz_cV RX0 158 mX1_measured 1 1 := ⟨fz_mems [688, 558, 559, 65, 560] (by decide +kernel) (by decide +kernel), ⟨by decide +kernel, by decide +kernel, by decide +kernel⟩, rfl⟩
theorem kX0_164 : fz_cV RX0 164 mX8_isEndOfOther 2 8 := ⟨fz_mems [683, 684, 685, 71, 686] (by decide +kernel) (by decide +kernel), ⟨by decide +kernel, by decide +kernel, by decide +kernel⟩, rfl⟩
theorem kX0_168 : fz_cV RX0 168 mX1_size 0 1 := ⟨fz_mems [783, 539, 540, 65, 541] (by decide +kernel) (by decide +kernel), ⟨by decide +kernel, by decide +kernel, by decide +kernel⟩, rfl⟩
theorem kX0_170 : fz_cV RX0 170 mX1_isPlace 1 1 := ⟨fz_mems [784, 490, 491, 65, 492] (by decide +kernel) (by decide +kernel), ⟨by decide +kernel, by decide +kernel, by decide +kernel⟩, rfl⟩
theorem kX0_181 : fz_cV RX0 181 mX5_take 3 5 := ⟨fz_mems [767, 768, 769, 67, 770] (by decide +kernel) (by decide +kernel), ⟨by decide +kernel, by decide +kernel, by decide +kernel⟩, rfl⟩
theorem kX0_184 : fz_cV RX0 184 mX5_pick 2 5 := ⟨fz_mems [771, 772, 773, 67, 774] (by decide +kernel) (by decide +kernel), ⟨by decide +kernel, by decide +kernel, by decide +kernel⟩, rfl⟩
theorem kX0_188 : fz_cV RX0 188 mX8_keep 2 8 := ⟨fz_mems [789, 790, 791, 71, 792] (by decide +kernel) (by decide +kernel), ⟨by decide +kernel, by decide +kernel, by decide +kernel⟩, rfl⟩
theorem kX0_192 : fz_cV RX0 192 mX0_workOn 3 0 := ⟨fz_mems [794, 796, 29, 70, 797] (by decide +kernel) (by decide +kernel), ⟨by decide +kernel, by decide +kernel, by decide +kernel⟩, rfl⟩
theorem kX0_196 : fz_cV RX0 196 mX5_bring 2 5 := ⟨fz_mems [798, 799, 800, 67, 801] (by decide +kernel) (by decide +kernel), ⟨by decide +kernel, by decide +kernel, by decide +kernel⟩, rfl⟩
theorem kX0_202 : fz_cV RX0 202 mX0_hasPicked 1 0 := ⟨fz_mems [833, 835, 31, 70, 836] (by decide +kernel) (by decide +kernel), ⟨by decide +kernel, by decide +kernel, by decide +kernel⟩, rfl⟩
theorem kX0_205 : fz_cV RX0 205 mX8_endOf 1 8 := ⟨fz_mems [837, 838, 839, 71, 840] (by decide +kernel) (by decide +kernel), ⟨by decide +kernel, by decide +kernel, by decide +kernel⟩, rfl⟩
theorem kX1_32 : fz_cV RX1 32 mX1_has 1 1 := ⟨fz_mems [476, 477, 478, 65, 479] (by decide +kernel) (by decide +kernel), ⟨by decide +kernel, by decide +kernel, by decide +kernel⟩, rfl⟩
theorem kX1_45 : fz_cV RX1 45 mX2_width 0 2 := ⟨fz_mems [449, 450, 451, 66, 452] (by decide +kernel) (by decide +kernel), ⟨by decide +kernel, by decide +kernel, by decide +kernel⟩, rfl⟩
theorem kX1_50 : fz_cV RX1 50 mX2_length 0 2 := ⟨fz_mems [453, 454, 455, 66, 456] (by decide +kernel) (by decide +kernel), ⟨by decide +kernel, by decide +kernel, by decide +kernel⟩, rfl⟩
theorem kX1_53 : fz_cV RX1 53 mX2_kindOf 1 2 := ⟨fz_mems [457, 430, 431, 66, 432] (by decide +kernel) (by decide +kernel), ⟨by decide +kernel, by decide +kernel, by decide +kernel⟩, rfl⟩
theorem kX1_57 : fz_cV RX1 57 mX1_findOpenMoves 0 1 := ⟨fz_mems [458, 460, 3, 65, 461] (by decide +kernel) (by decide +kernel), ⟨by decide +kernel, by decide +kernel, by decide +kernel⟩, rfl⟩
theorem kX1_60 : fz_cS RX1 60 mJ7_fill_d0a16 2 := ⟨fz_mems [462, 463, 76, 464] (by decide +kernel) (by decide +kernel), ⟨by decide +kernel, by decide +kernel, by decide +kernel⟩⟩
theorem kX1_66 : fz_cV RX1 66 mX1_leadsOn 2 1 := ⟨fz_mems [465, 467, 4, 65, 468] (by decide +kernel) (by decide +kernel), ⟨by decide +kernel, by decide +kernel, by decide +kernel⟩, rfl⟩
theorem kX1_70 : fz_cV RX1 70 mX1_kindAt 1 1 := ⟨fz_mems [472, 473, 474, 65, 475] (by decide +kernel) (by decide +kernel), ⟨by decide +kernel, by decide +kernel, by decide +kernel⟩, rfl⟩
theorem kX1_73 : fz_cV RX1 73 mX1_isOpen 2 1 := ⟨fz_mems [508, 509, 510, 65, 511] (by decide +kernel) (by decide +kernel), ⟨by decide +kernel, by decide +kernel, by decide +kernel⟩, rfl⟩
theorem kX1_76 : fz_cV RX1 76 mX1_isPlace 1 1 := ⟨fz_mems [489, 490, 491, 65, 492] (by decide +kernel) (by decide +kernel), ⟨by decide +kernel, by decide +kernel, by decide +kernel⟩, rfl⟩
theorem kX1_79 : fz_cV RX1 79 mX1_isJoinedToAll 1 1 := ⟨fz_mems [493, 495, 5, 65, 496] (by decide +kernel) (by decide +kernel), ⟨by decide +kernel, by decide +kernel, by decide +kernel⟩, rfl⟩
theorem kX1_82 : fz_cV RX1 82 mX1_measureFrom 2 1 := ⟨fz_mems [497, 498, 499, 65, 500] (by decide +kernel) (by decide +kernel), ⟨by decide +kernel, by decide +kernel, by decide +kernel⟩, rfl⟩
theorem kX1_86 : fz_cS RX1 86 mJ7_fill_53178 2 := ⟨fz_mems [501, 502, 76, 503] (by decide +kernel) (by decide +kernel), ⟨by decide +kernel, by decide +kernel, by decide +kernel⟩⟩
theorem kX1_89 : fz_cV RX1 89 mX1_measureAround 2 1 := ⟨fz_mems [504, 506, 6, 65, 507] (by decide +kernel) (by decide +kernel), ⟨by decide +kernel, by decide +kernel, by decide +kernel⟩, rfl⟩
theorem kX2_25 : fz_cS RX2 25 mX2_byteOf 2 := ⟨fz_mems [406, 407, 66, 408] (by decide +kernel) (by decide +kernel), ⟨by decide +kernel, by decide +kernel, by decide +kernel⟩⟩
theorem kX2_35 : fz_cV RX2 35 mX2_kindOf 1 2 := ⟨fz_mems [429, 430, 431, 66, 432] (by decide +kernel) (by decide +kernel), ⟨by decide +kernel, by decide +kernel, by decide +kernel⟩, rfl⟩
theorem kX2_39 : fz_cV RX2 39 mX2_endLine 0 2 := ⟨fz_mems [433, 435, 1, 66, 436] (by decide +kernel) (by decide +kernel), ⟨by decide +kernel, by decide +kernel, by decide +kernel⟩, rfl⟩
theorem kX2_43 : fz_cV RX2 43 mX2_widenLine 0 2 := ⟨fz_mems [437, 439, 2, 66, 440] (by decide +kernel) (by decide +kernel), ⟨by decide +kernel, by decide +kernel, by decide +kernel⟩, rfl⟩
theorem kX3_15 : fz_cV RX3 15 mX8_robots 0 8 := ⟨fz_mems [806, 711, 712, 71, 713] (by decide +kernel) (by decide +kernel), ⟨by decide +kernel, by decide +kernel, by decide +kernel⟩, rfl⟩
theorem kX3_21 : fz_cV RX3 21 mX8_cellAt 2 8 := ⟨fz_mems [807, 664, 665, 71, 666] (by decide +kernel) (by decide +kernel), ⟨by decide +kernel, by decide +kernel, by decide +kernel⟩, rfl⟩
theorem kX3_25 : fz_cV RX3 25 mX1_kindAt 1 1 := ⟨fz_mems [808, 473, 474, 65, 475] (by decide +kernel) (by decide +kernel), ⟨by decide +kernel, by decide +kernel, by decide +kernel⟩, rfl⟩
theorem kX3_31 : fz_cV RX3 31 mX1_isMove 2 1 := ⟨fz_mems [809, 810, 811, 65, 812] (by decide +kernel) (by decide +kernel), ⟨by decide +kernel, by decide +kernel, by decide +kernel⟩, rfl⟩
theorem kX3_35 : fz_cV RX3 35 mX3_lookAtTwo 4 3 := ⟨fz_mems [813, 815, 30, 72, 816] (by decide +kernel) (by decide +kernel), ⟨by decide +kernel, by decide +kernel, by decide +kernel⟩, rfl⟩
theorem kX5_27 : fz_cIN RX5 27 RX10 mX4_init 0 := ⟨fz_mems [156, 68, 157] (by decide +kernel) (by decide +kernel), by decide +kernel, ⟨by decide +kernel, by decide +kernel, by decide +kernel⟩, rfl, rfl⟩
theorem kX5_28 : fz_cIN RX5 28 RX10 mX7_init 0 := ⟨fz_mems [186, 69, 187] (by decide +kernel) (by decide +kernel), by decide +kernel, ⟨by decide +kernel, by decide +kernel, by decide +kernel⟩, rfl, rfl⟩
theorem kX5_42 : fz_cS RX5 42 mJ7_fill_53178 2 := ⟨fz_mems [520, 502, 76, 503] (by decide +kernel) (by decide +kernel), ⟨by decide +kernel, by decide +kernel, by decide +kernel⟩⟩
theorem kX5_48 : fz_cV RX5 48 mX4_begin 4 4 := ⟨fz_mems [607, 608, 609, 68, 610] (by decide +kernel) (by decide +kernel), ⟨by decide +kernel, by decide +kernel, by decide +kernel⟩, rfl⟩
theorem kX5_58 : fz_cV RX5 58 mX7_begin 4 7 := ⟨fz_mems [615, 616, 617, 69, 618] (by decide +kernel) (by decide +kernel), ⟨by decide +kernel, by decide +kernel, by decide +kernel⟩, rfl⟩
theorem kX5_67 : fz_cV RX5 67 mX5_leavePending 2 5 := ⟨fz_mems [627, 629, 8, 67, 630] (by decide +kernel) (by decide +kernel), ⟨by decide +kernel, by decide +kernel, by decide +kernel⟩, rfl⟩
theorem kX5_71 : fz_cV RX5 71 mX5_finishOne 2 5 := ⟨fz_mems [631, 633, 9, 67, 634] (by decide +kernel) (by decide +kernel), ⟨by decide +kernel, by decide +kernel, by decide +kernel⟩, rfl⟩
theorem kX5_97 : fz_cV RX5 97 mX7_tell 1 7 := ⟨fz_mems [868, 869, 870, 69, 871] (by decide +kernel) (by decide +kernel), ⟨by decide +kernel, by decide +kernel, by decide +kernel⟩, rfl⟩
theorem kX5_101 : fz_cV RX5 101 mX4_tell 1 4 := ⟨fz_mems [880, 881, 882, 68, 883] (by decide +kernel) (by decide +kernel), ⟨by decide +kernel, by decide +kernel, by decide +kernel⟩, rfl⟩
theorem kX8_29 : fz_cS RX8 29 mJ7_fill_53178 2 := ⟨fz_mems [533, 502, 76, 503] (by decide +kernel) (by decide +kernel), ⟨by decide +kernel, by decide +kernel, by decide +kernel⟩⟩
theorem kX8_35 : fz_cV RX8 35 mX8_write 3 8 := ⟨fz_mems [585, 586, 587, 71, 588] (by decide +kernel) (by decide +kernel), ⟨by decide +kernel, by decide +kernel, by decide +kernel⟩, rfl⟩
theorem kX8_43 : fz_cV RX8 43 mX8_cellAt 2 8 := ⟨fz_mems [793, 664, 665, 71, 666] (by decide +kernel) (by decide +kernel), ⟨by decide +kernel, by decide +kernel, by decide +kernel⟩, rfl⟩
theorem kX9_39 : fz_cV RX9 39 mX8_cellAt 2 8 := ⟨fz_mems [693, 664, 665, 71, 666] (by decide +kernel) (by decide +kernel), ⟨by decide +kernel, by decide +kernel, by decide +kernel⟩, rfl⟩
theorem kX9_45 : fz_cV RX9 45 mX9_empty 1 9 := ⟨fz_mems [694, 696, 14, 73, 697] (by decide +kernel) (by decide +kernel), ⟨by decide +kernel, by decide +kernel, by decide +kernel⟩, rfl⟩
theorem kX9_49 : fz_cV RX9 49 mX9_add 2 9 := ⟨fz_mems [698, 700, 15, 73, 701] (by decide +kernel) (by decide +kernel), ⟨by decide +kernel, by decide +kernel, by decide +kernel⟩, rfl⟩
theorem kX9_53 : fz_cV RX9 53 mX9_reachGoal 0 9 := ⟨fz_mems [702, 704, 16, 73, 705] (by decide +kernel) (by decide +kernel), ⟨by decide +kernel, by decide +kernel, by decide +kernel⟩, rfl⟩
theorem kX9_57 : fz_cV RX9 57 mX9_lookAtOthers 1 9 := ⟨fz_mems [719, 721, 19, 73, 722] (by decide +kernel) (by decide +kernel), ⟨by decide +kernel, by decide +kernel, by decide +kernel⟩, rfl⟩
theorem kX9_60 : fz_cV RX9 60 mX9_narrow 1 9 := ⟨fz_mems [741, 743, 22, 73, 744] (by decide +kernel) (by decide +kernel), ⟨by decide +kernel, by decide +kernel, by decide +kernel⟩, rfl⟩
theorem kX9_63 : fz_cV RX9 63 mX9_follow 3 9 := ⟨fz_mems [745, 747, 23, 73, 748] (by decide +kernel) (by decide +kernel), ⟨by decide +kernel, by decide +kernel, by decide +kernel⟩, rfl⟩
theorem kX9_67 : fz_cV RX9 67 mX9_ticksUntilGoalIsClear 0 9 := ⟨fz_mems [706, 708, 17, 73, 709] (by decide +kernel) (by decide +kernel), ⟨by decide +kernel, by decide +kernel, by decide +kernel⟩, rfl⟩
theorem kX9_70 : fz_cV RX9 70 mX9_holds 2 9 := ⟨fz_mems [715, 717, 18, 73, 718] (by decide +kernel) (by decide +kernel), ⟨by decide +kernel, by decide +kernel, by decide +kernel⟩, rfl⟩
theorem kX9_74 : fz_cV RX9 74 mX9_spread 1 9 := ⟨fz_mems [731, 733, 21, 73, 734] (by decide +kernel) (by decide +kernel), ⟨by decide +kernel, by decide +kernel, by decide +kernel⟩, rfl⟩
theorem kX9_77 : fz_cV RX9 77 mX8_robots 0 8 := ⟨fz_mems [710, 711, 712, 71, 713] (by decide +kernel) (by decide +kernel), ⟨by decide +kernel, by decide +kernel, by decide +kernel⟩, rfl⟩
theorem kX9_80 : fz_cV RX9 80 mX8_endTimeOf 1 8 := ⟨fz_mems [714, 656, 657, 71, 658] (by decide +kernel) (by decide +kernel), ⟨by decide +kernel, by decide +kernel, by decide +kernel⟩, rfl⟩
theorem kX9_102 : fz_cV RX9 102 mX9_avoid 2 9 := ⟨fz_mems [726, 728, 20, 73, 729] (by decide +kernel) (by decide +kernel), ⟨by decide +kernel, by decide +kernel, by decide +kernel⟩, rfl⟩
theorem kX9_111 : fz_cS RX9 111 mX9_shiftedLow 3 := ⟨fz_mems [735, 736, 73, 737] (by decide +kernel) (by decide +kernel), ⟨by decide +kernel, by decide +kernel, by decide +kernel⟩⟩
theorem kX9_115 : fz_cS RX9 115 mX9_shiftedHigh 3 := ⟨fz_mems [738, 739, 73, 740] (by decide +kernel) (by decide +kernel), ⟨by decide +kernel, by decide +kernel, by decide +kernel⟩⟩
theorem kX9_118 : fz_cV RX9 118 mX9_leastMove 3 9 := ⟨fz_mems [749, 751, 24, 73, 752] (by decide +kernel) (by decide +kernel), ⟨by decide +kernel, by decide +kernel, by decide +kernel⟩, rfl⟩
theorem kX9_122 : fz_cV RX9 122 mX8_write 3 8 := ⟨fz_mems [753, 586, 587, 71, 588] (by decide +kernel) (by decide +kernel), ⟨by decide +kernel, by decide +kernel, by decide +kernel⟩, rfl⟩
theorem kX9_125 : fz_cV RX9 125 mX8_setEnd 3 8 := ⟨fz_mems [754, 755, 756, 71, 757] (by decide +kernel) (by decide +kernel), ⟨by decide +kernel, by decide +kernel, by decide +kernel⟩, rfl⟩
theorem kX10_11 : fz_cIN RX10 11 RX10 mX1_init 0 := ⟨fz_mems [90, 65, 91] (by decide +kernel) (by decide +kernel), by decide +kernel, ⟨by decide +kernel, by decide +kernel, by decide +kernel⟩, rfl, rfl⟩
theorem kX10_21 : fz_cIN RX10 21 RX10 mX2_init 0 := ⟨fz_mems [122, 66, 123] (by decide +kernel) (by decide +kernel), by decide +kernel, ⟨by decide +kernel, by decide +kernel, by decide +kernel⟩, rfl, rfl⟩
theorem kX10_28 : fz_cI RX10 28 mX5_init 0 := ⟨fz_mems [146, 147, 67, 148] (by decide +kernel) (by decide +kernel), ⟨by decide +kernel, by decide +kernel, by decide +kernel⟩, rfl, rfl⟩
theorem kX10_35 : fz_cI RX10 35 mX0_init 2 := ⟨fz_mems [251, 252, 70, 253] (by decide +kernel) (by decide +kernel), ⟨by decide +kernel, by decide +kernel, by decide +kernel⟩, rfl, rfl⟩
theorem kX10_46 : fz_cV RX10 46 mX2_append 1 2 := ⟨fz_mems [402, 403, 404, 66, 405] (by decide +kernel) (by decide +kernel), ⟨by decide +kernel, by decide +kernel, by decide +kernel⟩, rfl⟩
theorem kX10_50 : fz_cV RX10 50 mX2_wipe 0 2 := ⟨fz_mems [413, 414, 415, 66, 416] (by decide +kernel) (by decide +kernel), ⟨by decide +kernel, by decide +kernel, by decide +kernel⟩, rfl⟩
theorem kX10_54 : fz_cV RX10 54 mX10_findFault 0 10 := ⟨fz_mems [421, 423, 0, 64, 424] (by decide +kernel) (by decide +kernel), ⟨by decide +kernel, by decide +kernel, by decide +kernel⟩, rfl⟩
theorem kX10_57 : fz_cV RX10 57 mX5_clear 0 5 := ⟨fz_mems [516, 517, 518, 67, 519] (by decide +kernel) (by decide +kernel), ⟨by decide +kernel, by decide +kernel, by decide +kernel⟩, rfl⟩
theorem kX10_60 : fz_cV RX10 60 mX0_begin 1 0 := ⟨fz_mems [521, 522, 523, 70, 524] (by decide +kernel) (by decide +kernel), ⟨by decide +kernel, by decide +kernel, by decide +kernel⟩, rfl⟩
theorem kX10_64 : fz_cV RX10 64 mX1_size 0 1 := ⟨fz_mems [538, 539, 540, 65, 541] (by decide +kernel) (by decide +kernel), ⟨by decide +kernel, by decide +kernel, by decide +kernel⟩, rfl⟩
theorem kX10_67 : fz_cV RX10 67 mX1_kindAt 1 1 := ⟨fz_mems [550, 473, 474, 65, 475] (by decide +kernel) (by decide +kernel), ⟨by decide +kernel, by decide +kernel, by decide +kernel⟩, rfl⟩
theorem kX10_71 : fz_cV RX10 71 mX1_has 1 1 := ⟨fz_mems [555, 477, 478, 65, 479] (by decide +kernel) (by decide +kernel), ⟨by decide +kernel, by decide +kernel, by decide +kernel⟩, rfl⟩
theorem kX10_75 : fz_cV RX10 75 mX1_measureFrom 2 1 := ⟨fz_mems [556, 498, 499, 65, 500] (by decide +kernel) (by decide +kernel), ⟨by decide +kernel, by decide +kernel, by decide +kernel⟩, rfl⟩
theorem kX10_79 : fz_cV RX10 79 mX1_measured 1 1 := ⟨fz_mems [557, 558, 559, 65, 560] (by decide +kernel) (by decide +kernel), ⟨by decide +kernel, by decide +kernel, by decide +kernel⟩, rfl⟩
theorem kX10_82 : fz_cV RX10 82 mX0_now 0 0 := ⟨fz_mems [565, 566, 567, 70, 568] (by decide +kernel) (by decide +kernel), ⟨by decide +kernel, by decide +kernel, by decide +kernel⟩, rfl⟩
theorem kX10_85 : fz_cV RX10 85 mX0_put 1 0 := ⟨fz_mems [569, 570, 571, 70, 572] (by decide +kernel) (by decide +kernel), ⟨by decide +kernel, by decide +kernel, by decide +kernel⟩, rfl⟩
theorem kX10_88 : fz_cV RX10 88 mX10_areShelves 3 10 := ⟨fz_mems [595, 597, 7, 64, 598] (by decide +kernel) (by decide +kernel), ⟨by decide +kernel, by decide +kernel, by decide +kernel⟩, rfl⟩
theorem kX10_92 : fz_cV RX10 92 mX5_haveRoomFor 1 5 := ⟨fz_mems [599, 600, 601, 67, 602] (by decide +kernel) (by decide +kernel), ⟨by decide +kernel, by decide +kernel, by decide +kernel⟩, rfl⟩
theorem kX10_95 : fz_cV RX10 95 mX5_add 3 5 := ⟨fz_mems [603, 604, 605, 67, 606] (by decide +kernel) (by decide +kernel), ⟨by decide +kernel, by decide +kernel, by decide +kernel⟩, rfl⟩
theorem kX10_99 : fz_cV RX10 99 mX5_addTask 2 5 := ⟨fz_mems [611, 612, 613, 67, 614] (by decide +kernel) (by decide +kernel), ⟨by decide +kernel, by decide +kernel, by decide +kernel⟩, rfl⟩
theorem kX10_103 : fz_cV RX10 103 mX5_cancelPending 2 5 := ⟨fz_mems [623, 624, 625, 67, 626] (by decide +kernel) (by decide +kernel), ⟨by decide +kernel, by decide +kernel, by decide +kernel⟩, rfl⟩
theorem kX10_107 : fz_cV RX10 107 mX10_refusalOfTicks 1 10 := ⟨fz_mems [639, 641, 10, 64, 642] (by decide +kernel) (by decide +kernel), ⟨by decide +kernel, by decide +kernel, by decide +kernel⟩, rfl⟩
theorem kX10_110 : fz_cV RX10 110 mX0_step 0 0 := ⟨fz_mems [647, 648, 649, 70, 650] (by decide +kernel) (by decide +kernel), ⟨by decide +kernel, by decide +kernel, by decide +kernel⟩, rfl⟩
theorem kX10_113 : fz_cV RX10 113 mX5_open 0 5 := ⟨fz_mems [821, 822, 823, 67, 824] (by decide +kernel) (by decide +kernel), ⟨by decide +kernel, by decide +kernel, by decide +kernel⟩, rfl⟩
theorem kX10_116 : fz_cV RX10 116 mX0_tellRobot 2 0 := ⟨fz_mems [829, 830, 831, 70, 832] (by decide +kernel) (by decide +kernel), ⟨by decide +kernel, by decide +kernel, by decide +kernel⟩, rfl⟩
theorem kX10_119 : fz_cV RX10 119 mX0_cellIn 2 0 := ⟨fz_mems [845, 846, 847, 70, 848] (by decide +kernel) (by decide +kernel), ⟨by decide +kernel, by decide +kernel, by decide +kernel⟩, rfl⟩
theorem kX10_122 : fz_cV RX10 122 mX0_cellAt 2 0 := ⟨fz_mems [856, 857, 858, 70, 859] (by decide +kernel) (by decide +kernel), ⟨by decide +kernel, by decide +kernel, by decide +kernel⟩, rfl⟩
theorem kX10_125 : fz_cV RX10 125 mX5_tellTask 2 5 := ⟨fz_mems [864, 865, 866, 67, 867] (by decide +kernel) (by decide +kernel), ⟨by decide +kernel, by decide +kernel, by decide +kernel⟩, rfl⟩
theorem kX10_128 : fz_cV RX10 128 mX5_tellOrder 2 5 := ⟨fz_mems [876, 877, 878, 67, 879] (by decide +kernel) (by decide +kernel), ⟨by decide +kernel, by decide +kernel, by decide +kernel⟩, rfl⟩
theorem kX10_131 : fz_cV RX10 131 mX0_size 0 0 := ⟨fz_mems [643, 644, 645, 70, 646] (by decide +kernel) (by decide +kernel), ⟨by decide +kernel, by decide +kernel, by decide +kernel⟩, rfl⟩
theorem kX10_132 : fz_cV RX10 132 mX5_size 0 5 := ⟨fz_mems [888, 889, 890, 67, 891] (by decide +kernel) (by decide +kernel), ⟨by decide +kernel, by decide +kernel, by decide +kernel⟩, rfl⟩
theorem kX10_133 : fz_cV RX10 133 mX5_tasks 0 5 := ⟨fz_mems [892, 672, 673, 67, 674] (by decide +kernel) (by decide +kernel), ⟨by decide +kernel, by decide +kernel, by decide +kernel⟩, rfl⟩
theorem kX10_136 : fz_cV RX10 136 mX5_pending 0 5 := ⟨fz_mems [893, 652, 653, 67, 654] (by decide +kernel) (by decide +kernel), ⟨by decide +kernel, by decide +kernel, by decide +kernel⟩, rfl⟩
theorem kX10_139 : fz_cV RX10 139 mX0_alarms 0 0 := ⟨fz_mems [894, 895, 896, 70, 897] (by decide +kernel) (by decide +kernel), ⟨by decide +kernel, by decide +kernel, by decide +kernel⟩, rfl⟩
theorem kX10_142 : fz_cV RX10 142 mX0_ways 0 0 := ⟨fz_mems [902, 903, 904, 70, 905] (by decide +kernel) (by decide +kernel), ⟨by decide +kernel, by decide +kernel, by decide +kernel⟩, rfl⟩
theorem kX10_145 : fz_cV RX10 145 mX0_longestWay 0 0 := ⟨fz_mems [906, 907, 908, 70, 909] (by decide +kernel) (by decide +kernel), ⟨by decide +kernel, by decide +kernel, by decide +kernel⟩, rfl⟩
theorem kX10_148 : fz_cV RX10 148 mX0_moves 0 0 := ⟨fz_mems [910, 911, 912, 70, 913] (by decide +kernel) (by decide +kernel), ⟨by decide +kernel, by decide +kernel, by decide +kernel⟩, rfl⟩
theorem kX10_151 : fz_cV RX10 151 mX2_findFault 0 2 := ⟨fz_mems [425, 426, 427, 66, 428] (by decide +kernel) (by decide +kernel), ⟨by decide +kernel, by decide +kernel, by decide +kernel⟩, rfl⟩
theorem kX10_152 : fz_cV RX10 152 mX2_faultPlace 0 2 := ⟨fz_mems [441, 442, 443, 66, 444] (by decide +kernel) (by decide +kernel), ⟨by decide +kernel, by decide +kernel, by decide +kernel⟩, rfl⟩
theorem kX10_154 : fz_cV RX10 154 mX1_load 1 1 := ⟨fz_mems [445, 446, 447, 65, 448] (by decide +kernel) (by decide +kernel), ⟨by decide +kernel, by decide +kernel, by decide +kernel⟩, rfl⟩
theorem kX10_158 : fz_cV RX10 158 mX1_hasAllKinds 0 1 := ⟨fz_mems [480, 481, 482, 65, 483] (by decide +kernel) (by decide +kernel), ⟨by decide +kernel, by decide +kernel, by decide +kernel⟩, rfl⟩
theorem kX10_162 : fz_cV RX10 162 mX2_length 0 2 := ⟨fz_mems [484, 454, 455, 66, 456] (by decide +kernel) (by decide +kernel), ⟨by decide +kernel, by decide +kernel, by decide +kernel⟩, rfl⟩
theorem kX10_165 : fz_cV RX10 165 mX1_firstPlaceApart 0 1 := ⟨fz_mems [485, 486, 487, 65, 488] (by decide +kernel) (by decide +kernel), ⟨by decide +kernel, by decide +kernel, by decide +kernel⟩, rfl⟩
theorem kX10_168 : fz_cV RX10 168 mX1_placeInText 1 1 := ⟨fz_mems [512, 513, 514, 65, 515] (by decide +kernel) (by decide +kernel), ⟨by decide +kernel, by decide +kernel, by decide +kernel⟩, rfl⟩
theorem kX11_105 : fz_cS RX11 105 mX11_kindOf 1 := ⟨fz_mems [1057, 1058, 75, 1059] (by decide +kernel) (by decide +kernel), ⟨by decide +kernel, by decide +kernel, by decide +kernel⟩⟩
theorem kX11_109 : fz_cV RX11 109 mX11_wrong 2 11 := ⟨fz_mems [1060, 1062, 33, 75, 1063] (by decide +kernel) (by decide +kernel), ⟨by decide +kernel, by decide +kernel, by decide +kernel⟩, rfl⟩
theorem kX11_113 : fz_cS RX11 113 mX11_beside 4 := ⟨fz_mems [1076, 1077, 75, 1078] (by decide +kernel) (by decide +kernel), ⟨by decide +kernel, by decide +kernel, by decide +kernel⟩⟩
theorem kX11_117 : fz_cV RX11 117 mX11_look 1 11 := ⟨fz_mems [1072, 1074, 36, 75, 1075] (by decide +kernel) (by decide +kernel), ⟨by decide +kernel, by decide +kernel, by decide +kernel⟩, rfl⟩
theorem kX11_121 : fz_cV RX11 121 mX11_readLines 0 11 := ⟨fz_mems [1053, 1055, 32, 75, 1056] (by decide +kernel) (by decide +kernel), ⟨by decide +kernel, by decide +kernel, by decide +kernel⟩, rfl⟩
theorem kX11_125 : fz_cV RX11 125 mX11_hasKind 1 11 := ⟨fz_mems [1064, 1066, 34, 75, 1067] (by decide +kernel) (by decide +kernel), ⟨by decide +kernel, by decide +kernel, by decide +kernel⟩, rfl⟩
theorem kX11_129 : fz_cV RX11 129 mX11_isApart 1 11 := ⟨fz_mems [1068, 1070, 35, 75, 1071] (by decide +kernel) (by decide +kernel), ⟨by decide +kernel, by decide +kernel, by decide +kernel⟩, rfl⟩
theorem kX11_138 : fz_cV RX11 138 mX11_measure 1 11 := ⟨fz_mems [1079, 1081, 37, 75, 1082] (by decide +kernel) (by decide +kernel), ⟨by decide +kernel, by decide +kernel, by decide +kernel⟩, rfl⟩
theorem kX11_162 : fz_cS RX11 162 mX11_in 3 := ⟨fz_mems [1091, 1092, 75, 1093] (by decide +kernel) (by decide +kernel), ⟨by decide +kernel, by decide +kernel, by decide +kernel⟩⟩
theorem kX11_166 : fz_cV RX11 166 mX11_at 2 11 := ⟨fz_mems [1106, 1108, 39, 75, 1109] (by decide +kernel) (by decide +kernel), ⟨by decide +kernel, by decide +kernel, by decide +kernel⟩, rfl⟩
theorem kX11_169 : fz_cV RX11 169 mX11_isKind 2 11 := ⟨fz_mems [1102, 1104, 38, 75, 1105] (by decide +kernel) (by decide +kernel), ⟨by decide +kernel, by decide +kernel, by decide +kernel⟩, rfl⟩
theorem kX11_173 : fz_cV RX11 173 mX11_addTask 1 11 := ⟨fz_mems [1114, 1116, 40, 75, 1117] (by decide +kernel) (by decide +kernel), ⟨by decide +kernel, by decide +kernel, by decide +kernel⟩, rfl⟩
theorem kX11_176 : fz_cV RX11 176 mX11_isOpen 1 11 := ⟨fz_mems [1126, 1128, 42, 75, 1129] (by decide +kernel) (by decide +kernel), ⟨by decide +kernel, by decide +kernel, by decide +kernel⟩, rfl⟩
theorem kX11_179 : fz_cV RX11 179 mX11_close 1 11 := ⟨fz_mems [1122, 1124, 41, 75, 1125] (by decide +kernel) (by decide +kernel), ⟨by decide +kernel, by decide +kernel, by decide +kernel⟩, rfl⟩
theorem kX11_182 : fz_cV RX11 182 mX11_endOf 1 11 := ⟨fz_mems [1146, 1148, 46, 75, 1149] (by decide +kernel) (by decide +kernel), ⟨by decide +kernel, by decide +kernel, by decide +kernel⟩, rfl⟩
theorem kX11_185 : fz_cV RX11 185 mX11_mayGo 4 11 := ⟨fz_mems [1177, 1179, 53, 75, 1180] (by decide +kernel) (by decide +kernel), ⟨by decide +kernel, by decide +kernel, by decide +kernel⟩, rfl⟩
theorem kX11_189 : fz_cS RX11 189 mX11_state 3 := ⟨fz_mems [1170, 1171, 75, 1172] (by decide +kernel) (by decide +kernel), ⟨by decide +kernel, by decide +kernel, by decide +kernel⟩⟩
theorem kX11_193 : fz_cV RX11 193 mX11_lastIn 2 11 := ⟨fz_mems [1166, 1168, 51, 75, 1169] (by decide +kernel) (by decide +kernel), ⟨by decide +kernel, by decide +kernel, by decide +kernel⟩, rfl⟩
theorem kX11_196 : fz_cV RX11 196 mX11_spread 3 11 := ⟨fz_mems [1173, 1175, 52, 75, 1176] (by decide +kernel) (by decide +kernel), ⟨by decide +kernel, by decide +kernel, by decide +kernel⟩, rfl⟩
theorem kX11_200 : fz_cV RX11 200 mX11_trace 3 11 := ⟨fz_mems [1181, 1183, 54, 75, 1184] (by decide +kernel) (by decide +kernel), ⟨by decide +kernel, by decide +kernel, by decide +kernel⟩, rfl⟩
theorem kX11_203 : fz_cV RX11 203 mX11_follow 4 11 := ⟨fz_mems [1185, 1187, 55, 75, 1188] (by decide +kernel) (by decide +kernel), ⟨by decide +kernel, by decide +kernel, by decide +kernel⟩, rfl⟩
theorem kX11_207 : fz_cV RX11 207 mX11_isOthersEnd 2 11 := ⟨fz_mems [1158, 1160, 49, 75, 1161] (by decide +kernel) (by decide +kernel), ⟨by decide +kernel, by decide +kernel, by decide +kernel⟩, rfl⟩
theorem kX11_210 : fz_cV RX11 210 mX11_isWanted 1 11 := ⟨fz_mems [1189, 1191, 56, 75, 1192] (by decide +kernel) (by decide +kernel), ⟨by decide +kernel, by decide +kernel, by decide +kernel⟩, rfl⟩
theorem kX11_213 : fz_cV RX11 213 mX11_fitTask 1 11 := ⟨fz_mems [1154, 1156, 48, 75, 1157] (by decide +kernel) (by decide +kernel), ⟨by decide +kernel, by decide +kernel, by decide +kernel⟩, rfl⟩
theorem kX11_216 : fz_cV RX11 216 mX11_findWay 3 11 := ⟨fz_mems [1162, 1164, 50, 75, 1165] (by decide +kernel) (by decide +kernel), ⟨by decide +kernel, by decide +kernel, by decide +kernel⟩, rfl⟩
theorem kX11_219 : fz_cV RX11 219 mX11_aside 1 11 := ⟨fz_mems [1193, 1195, 57, 75, 1196] (by decide +kernel) (by decide +kernel), ⟨by decide +kernel, by decide +kernel, by decide +kernel⟩, rfl⟩
theorem kX11_222 : fz_cV RX11 222 mX11_stay 1 11 := ⟨fz_mems [1142, 1144, 45, 75, 1145] (by decide +kernel) (by decide +kernel), ⟨by decide +kernel, by decide +kernel, by decide +kernel⟩, rfl⟩
theorem kX11_225 : fz_cV RX11 225 mX11_seek 1 11 := ⟨fz_mems [1150, 1152, 47, 75, 1153] (by decide +kernel) (by decide +kernel), ⟨by decide +kernel, by decide +kernel, by decide +kernel⟩, rfl⟩
theorem kX11_228 : fz_cV RX11 228 mX11_settleRobot 1 11 := ⟨fz_mems [1197, 1199, 58, 75, 1200] (by decide +kernel) (by decide +kernel), ⟨by decide +kernel, by decide +kernel, by decide +kernel⟩, rfl⟩
theorem kX11_231 : fz_cV RX11 231 mX11_watch 0 11 := ⟨fz_mems [1201, 1203, 59, 75, 1204] (by decide +kernel) (by decide +kernel), ⟨by decide +kernel, by decide +kernel, by decide +kernel⟩, rfl⟩
theorem kX11_234 : fz_cV RX11 234 mX11_refusal 1 11 := ⟨fz_mems [1134, 1136, 43, 75, 1137] (by decide +kernel) (by decide +kernel), ⟨by decide +kernel, by decide +kernel, by decide +kernel⟩, rfl⟩
theorem kX11_237 : fz_cV RX11 237 mX11_tickOnce 0 11 := ⟨fz_mems [1138, 1140, 44, 75, 1141] (by decide +kernel) (by decide +kernel), ⟨by decide +kernel, by decide +kernel, by decide +kernel⟩, rfl⟩
theorem kX11_240 : fz_cV RX11 240 mX11_openOrders 0 11 := ⟨fz_mems [1209, 1211, 60, 75, 1212] (by decide +kernel) (by decide +kernel), ⟨by decide +kernel, by decide +kernel, by decide +kernel⟩, rfl⟩
theorem kX11_243 : fz_cV RX11 243 mX11_pending 0 11 := ⟨fz_mems [1237, 1239, 61, 75, 1240] (by decide +kernel) (by decide +kernel), ⟨by decide +kernel, by decide +kernel, by decide +kernel⟩, rfl⟩
theorem kX11_246 : fz_cV RX11 246 mX11_allMoves 0 11 := ⟨fz_mems [1241, 1243, 62, 75, 1244] (by decide +kernel) (by decide +kernel), ⟨by decide +kernel, by decide +kernel, by decide +kernel⟩, rfl⟩
theorem kL_9 : fz_cI RL 9 mX10_init 0 := ⟨fz_mems [81, 82, 64, 83] (by decide +kernel) (by decide +kernel), ⟨by decide +kernel, by decide +kernel, by decide +kernel⟩, rfl, rfl⟩
theorem kL_12 : fz_cI RL 12 mX11_init 0 := ⟨fz_mems [916, 917, 75, 918] (by decide +kernel) (by decide +kernel), ⟨by decide +kernel, by decide +kernel, by decide +kernel⟩, rfl, rfl⟩
theorem kL_15 : fz_cV RL 15 mX10_type 1 10 := ⟨fz_mems [398, 399, 400, 64, 401] (by decide +kernel) (by decide +kernel), ⟨by decide +kernel, by decide +kernel, by decide +kernel⟩, rfl⟩
theorem kL_19 : fz_cV RL 19 mX11_type 1 11 := ⟨fz_mems [1040, 1041, 1042, 75, 1043] (by decide +kernel) (by decide +kernel), ⟨by decide +kernel, by decide +kernel, by decide +kernel⟩, rfl⟩
theorem kL_20 : fz_cV RL 20 mX10_erase 0 10 := ⟨fz_mems [409, 410, 411, 64, 412] (by decide +kernel) (by decide +kernel), ⟨by decide +kernel, by decide +kernel, by decide +kernel⟩, rfl⟩
theorem kL_24 : fz_cV RL 24 mX11_erase 0 11 := ⟨fz_mems [1045, 1046, 1047, 75, 1048] (by decide +kernel) (by decide +kernel), ⟨by decide +kernel, by decide +kernel, by decide +kernel⟩, rfl⟩
theorem kL_25 : fz_cV RL 25 mX10_read 0 10 := ⟨fz_mems [417, 418, 419, 64, 420] (by decide +kernel) (by decide +kernel), ⟨by decide +kernel, by decide +kernel, by decide +kernel⟩, rfl⟩
theorem kL_28 : fz_cV RL 28 mX11_read 0 11 := ⟨fz_mems [1049, 1050, 1051, 75, 1052] (by decide +kernel) (by decide +kernel), ⟨by decide +kernel, by decide +kernel, by decide +kernel⟩, rfl⟩
theorem kL_29 : fz_cV RL 29 mX10_place 0 10 := ⟨fz_mems [542, 543, 544, 64, 545] (by decide +kernel) (by decide +kernel), ⟨by decide +kernel, by decide +kernel, by decide +kernel⟩, rfl⟩
theorem kL_32 : fz_cV RL 32 mX11_place 0 11 := ⟨fz_mems [1083, 1084, 1085, 75, 1086] (by decide +kernel) (by decide +kernel), ⟨by decide +kernel, by decide +kernel, by decide +kernel⟩, rfl⟩
theorem kL_33 : fz_cV RL 33 mX10_cell 1 10 := ⟨fz_mems [546, 547, 548, 64, 549] (by decide +kernel) (by decide +kernel), ⟨by decide +kernel, by decide +kernel, by decide +kernel⟩, rfl⟩
theorem kL_37 : fz_cV RL 37 mX11_cell 1 11 := ⟨fz_mems [1087, 1088, 1089, 75, 1090] (by decide +kernel) (by decide +kernel), ⟨by decide +kernel, by decide +kernel, by decide +kernel⟩, rfl⟩
theorem kL_38 : fz_cV RL 38 mX10_distance 2 10 := ⟨fz_mems [551, 552, 553, 64, 554] (by decide +kernel) (by decide +kernel), ⟨by decide +kernel, by decide +kernel, by decide +kernel⟩, rfl⟩
theorem kL_42 : fz_cV RL 42 mX11_distance 2 11 := ⟨fz_mems [1094, 1095, 1096, 75, 1097] (by decide +kernel) (by decide +kernel), ⟨by decide +kernel, by decide +kernel, by decide +kernel⟩, rfl⟩
theorem kL_43 : fz_cV RL 43 mX10_robot 1 10 := ⟨fz_mems [561, 562, 563, 64, 564] (by decide +kernel) (by decide +kernel), ⟨by decide +kernel, by decide +kernel, by decide +kernel⟩, rfl⟩
theorem kL_46 : fz_cV RL 46 mX11_robot 1 11 := ⟨fz_mems [1098, 1099, 1100, 75, 1101] (by decide +kernel) (by decide +kernel), ⟨by decide +kernel, by decide +kernel, by decide +kernel⟩, rfl⟩
theorem kL_47 : fz_cV RL 47 mX10_order 4 10 := ⟨fz_mems [591, 592, 593, 64, 594] (by decide +kernel) (by decide +kernel), ⟨by decide +kernel, by decide +kernel, by decide +kernel⟩, rfl⟩
theorem kL_51 : fz_cV RL 51 mX11_order 4 11 := ⟨fz_mems [1110, 1111, 1112, 75, 1113] (by decide +kernel) (by decide +kernel), ⟨by decide +kernel, by decide +kernel, by decide +kernel⟩, rfl⟩
theorem kL_52 : fz_cV RL 52 mX10_cancel 1 10 := ⟨fz_mems [619, 620, 621, 64, 622] (by decide +kernel) (by decide +kernel), ⟨by decide +kernel, by decide +kernel, by decide +kernel⟩, rfl⟩
theorem kL_55 : fz_cV RL 55 mX11_cancel 1 11 := ⟨fz_mems [1118, 1119, 1120, 75, 1121] (by decide +kernel) (by decide +kernel), ⟨by decide +kernel, by decide +kernel, by decide +kernel⟩, rfl⟩
theorem kL_56 : fz_cV RL 56 mX10_tick 1 10 := ⟨fz_mems [635, 636, 637, 64, 638] (by decide +kernel) (by decide +kernel), ⟨by decide +kernel, by decide +kernel, by decide +kernel⟩, rfl⟩
theorem kL_59 : fz_cV RL 59 mX11_tick 1 11 := ⟨fz_mems [1130, 1131, 1132, 75, 1133] (by decide +kernel) (by decide +kernel), ⟨by decide +kernel, by decide +kernel, by decide +kernel⟩, rfl⟩
theorem kL_60 : fz_cV RL 60 mX10_settle 1 10 := ⟨fz_mems [817, 818, 819, 64, 820] (by decide +kernel) (by decide +kernel), ⟨by decide +kernel, by decide +kernel, by decide +kernel⟩, rfl⟩
theorem kL_63 : fz_cV RL 63 mX11_settle 1 11 := ⟨fz_mems [1205, 1206, 1207, 75, 1208] (by decide +kernel) (by decide +kernel), ⟨by decide +kernel, by decide +kernel, by decide +kernel⟩, rfl⟩
theorem kL_64 : fz_cV RL 64 mX10_robotOf 2 10 := ⟨fz_mems [825, 826, 827, 64, 828] (by decide +kernel) (by decide +kernel), ⟨by decide +kernel, by decide +kernel, by decide +kernel⟩, rfl⟩
theorem kL_67 : fz_cV RL 67 mX11_robotOf 2 11 := ⟨fz_mems [1213, 1214, 1215, 75, 1216] (by decide +kernel) (by decide +kernel), ⟨by decide +kernel, by decide +kernel, by decide +kernel⟩, rfl⟩
theorem kL_68 : fz_cV RL 68 mX10_ahead 2 10 := ⟨fz_mems [841, 842, 843, 64, 844] (by decide +kernel) (by decide +kernel), ⟨by decide +kernel, by decide +kernel, by decide +kernel⟩, rfl⟩
theorem kL_71 : fz_cV RL 71 mX11_ahead 2 11 := ⟨fz_mems [1217, 1218, 1219, 75, 1220] (by decide +kernel) (by decide +kernel), ⟨by decide +kernel, by decide +kernel, by decide +kernel⟩, rfl⟩
theorem kL_72 : fz_cV RL 72 mX10_was 2 10 := ⟨fz_mems [852, 853, 854, 64, 855] (by decide +kernel) (by decide +kernel), ⟨by decide +kernel, by decide +kernel, by decide +kernel⟩, rfl⟩
theorem kL_75 : fz_cV RL 75 mX11_was 2 11 := ⟨fz_mems [1221, 1222, 1223, 75, 1224] (by decide +kernel) (by decide +kernel), ⟨by decide +kernel, by decide +kernel, by decide +kernel⟩, rfl⟩
theorem kL_76 : fz_cV RL 76 mX10_task 2 10 := ⟨fz_mems [860, 861, 862, 64, 863] (by decide +kernel) (by decide +kernel), ⟨by decide +kernel, by decide +kernel, by decide +kernel⟩, rfl⟩
theorem kL_79 : fz_cV RL 79 mX11_task 2 11 := ⟨fz_mems [1225, 1226, 1227, 75, 1228] (by decide +kernel) (by decide +kernel), ⟨by decide +kernel, by decide +kernel, by decide +kernel⟩, rfl⟩
theorem kL_80 : fz_cV RL 80 mX10_orderOf 2 10 := ⟨fz_mems [872, 873, 874, 64, 875] (by decide +kernel) (by decide +kernel), ⟨by decide +kernel, by decide +kernel, by decide +kernel⟩, rfl⟩
theorem kL_83 : fz_cV RL 83 mX11_orderOf 2 11 := ⟨fz_mems [1229, 1230, 1231, 75, 1232] (by decide +kernel) (by decide +kernel), ⟨by decide +kernel, by decide +kernel, by decide +kernel⟩, rfl⟩
theorem kL_84 : fz_cV RL 84 mX10_count 1 10 := ⟨fz_mems [884, 885, 886, 64, 887] (by decide +kernel) (by decide +kernel), ⟨by decide +kernel, by decide +kernel, by decide +kernel⟩, rfl⟩
theorem kL_87 : fz_cV RL 87 mX11_count 1 11 := ⟨fz_mems [1233, 1234, 1235, 75, 1236] (by decide +kernel) (by decide +kernel), ⟨by decide +kernel, by decide +kernel, by decide +kernel⟩, rfl⟩
theorem oX0_3 : ∀ w ∈ ([.methodLink RX0 3 objectInit, .instanceMethod objectInit, .code objectInit ⟨#[0xb1]⟩ 1 none] : List Cond), w ∈ fz_tb := fz_mems [254, 85, 86] (by decide +kernel) (by decide +kernel)
theorem oX0_173 : ∀ w ∈ ([.methodLink RX0 173 Lib.Math.max.name, .static Lib.Math.max.name, .initialized "java/lang/Math", .code Lib.Math.max.name Lib.Math.max.code 2 (some .int)] : List Cond), w ∈ fz_tb := fz_mems [762, 470, 77, 471] (by decide +kernel) (by decide +kernel)
theorem oX0_208 : ∀ w ∈ ([.methodLink RX0 208 Lib.Math.min.name, .static Lib.Math.min.name, .initialized "java/lang/Math", .code Lib.Math.min.name Lib.Math.min.code 2 (some .int)] : List Cond), w ∈ fz_tb := fz_mems [849, 850, 77, 851] (by decide +kernel) (by decide +kernel)
theorem oX1_3 : ∀ w ∈ ([.methodLink RX1 3 objectInit, .instanceMethod objectInit, .code objectInit ⟨#[0xb1]⟩ 1 none] : List Cond), w ∈ fz_tb := fz_mems [92, 85, 86] (by decide +kernel) (by decide +kernel)
theorem oX1_39 : ∀ w ∈ ([.methodLink RX1 39 Lib.Math.max.name, .static Lib.Math.max.name, .initialized "java/lang/Math", .code Lib.Math.max.name Lib.Math.max.code 2 (some .int)] : List Cond), w ∈ fz_tb := fz_mems [469, 470, 77, 471] (by decide +kernel) (by decide +kernel)
theorem oX10_3 : ∀ w ∈ ([.methodLink RX10 3 objectInit, .instanceMethod objectInit, .code objectInit ⟨#[0xb1]⟩ 1 none] : List Cond), w ∈ fz_tb := fz_mems [84, 85, 86] (by decide +kernel) (by decide +kernel)
theorem oX11_1 : ∀ w ∈ ([.methodLink RX11 1 objectInit, .instanceMethod objectInit, .code objectInit ⟨#[0xb1]⟩ 1 none] : List Cond), w ∈ fz_tb := fz_mems [919, 85, 86] (by decide +kernel) (by decide +kernel)
theorem oX2_3 : ∀ w ∈ ([.methodLink RX2 3 objectInit, .instanceMethod objectInit, .code objectInit ⟨#[0xb1]⟩ 1 none] : List Cond), w ∈ fz_tb := fz_mems [124, 85, 86] (by decide +kernel) (by decide +kernel)
theorem oX3_3 : ∀ w ∈ ([.methodLink RX3 3 objectInit, .instanceMethod objectInit, .code objectInit ⟨#[0xb1]⟩ 1 none] : List Cond), w ∈ fz_tb := fz_mems [284, 85, 86] (by decide +kernel) (by decide +kernel)
theorem oX4_3 : ∀ w ∈ ([.methodLink RX4 3 objectInit, .instanceMethod objectInit, .code objectInit ⟨#[0xb1]⟩ 1 none] : List Cond), w ∈ fz_tb := fz_mems [158, 85, 86] (by decide +kernel) (by decide +kernel)
theorem oX5_3 : ∀ w ∈ ([.methodLink RX5 3 objectInit, .instanceMethod objectInit, .code objectInit ⟨#[0xb1]⟩ 1 none] : List Cond), w ∈ fz_tb := fz_mems [149, 85, 86] (by decide +kernel) (by decide +kernel)
theorem oX6_3 : ∀ w ∈ ([.methodLink RX6 3 objectInit, .instanceMethod objectInit, .code objectInit ⟨#[0xb1]⟩ 1 none] : List Cond), w ∈ fz_tb := fz_mems [330, 85, 86] (by decide +kernel) (by decide +kernel)
theorem oX7_3 : ∀ w ∈ ([.methodLink RX7 3 objectInit, .instanceMethod objectInit, .code objectInit ⟨#[0xb1]⟩ 1 none] : List Cond), w ∈ fz_tb := fz_mems [188, 85, 86] (by decide +kernel) (by decide +kernel)
theorem oX8_3 : ∀ w ∈ ([.methodLink RX8 3 objectInit, .instanceMethod objectInit, .code objectInit ⟨#[0xb1]⟩ 1 none] : List Cond), w ∈ fz_tb := fz_mems [262, 85, 86] (by decide +kernel) (by decide +kernel)
theorem oX9_3 : ∀ w ∈ ([.methodLink RX9 3 objectInit, .instanceMethod objectInit, .code objectInit ⟨#[0xb1]⟩ 1 none] : List Cond), w ∈ fz_tb := fz_mems [294, 85, 86] (by decide +kernel) (by decide +kernel)
theorem oX9_89 : ∀ w ∈ ([.methodLink RX9 89 arraycopyName, .native arraycopyName, .static arraycopyName, .initialized "java/lang/System"] : List Cond), w ∈ fz_tb := fz_mems [723, 725, 724, 78] (by decide +kernel) (by decide +kernel)
theorem nX8_39 : Cond.constantLong RX8 39 (255) ∈ fz_tb := fz_mem 589 (by decide +kernel) rfl
theorem nX8_41 : Cond.constantLong RX8 41 (-1) ∈ fz_tb := fz_mem 590 (by decide +kernel) rfl
theorem nX9_109 : Cond.constantLong RX9 109 (-1) ∈ fz_tb := fz_mem 730 (by decide +kernel) rfl
theorem nX11_87 : Cond.constant RX11 87 (160160) ∈ fz_tb := fz_mem 920 (by decide +kernel) rfl
theorem nX11_94 : Cond.constantLong RX11 94 (255) ∈ fz_tb := fz_mem 1044 (by decide +kernel) rfl
end
section
/-! NUMBERS AND BITS -/
/-- bit i of a long -/
def bl (x : Int64) (i : Nat) : Bool := x.toBitVec.getLsbD i
theorem bl_ext {x y : Int64} (h : ∀ i, i < 64 → bl x i = bl y i) : x = y :=
  Int64.toBitVec_inj.mp (BitVec.eq_of_getLsbD_eq (fun i hi => h i hi))
theorem bl_big {x : Int64} {i : Nat} (h : 64 ≤ i) : bl x i = false := BitVec.getLsbD_of_ge _ _ h
theorem bl_and (x y : Int64) (i : Nat) : bl (x &&& y) i = (bl x i && bl y i) := by
  show (x &&& y).toBitVec.getLsbD i = _
  rw [Int64.toBitVec_and, BitVec.getLsbD_and]; rfl
theorem bl_or (x y : Int64) (i : Nat) : bl (x ||| y) i = (bl x i || bl y i) := by
  show (x ||| y).toBitVec.getLsbD i = _
  rw [Int64.toBitVec_or, BitVec.getLsbD_or]; rfl
theorem bl_not (x : Int64) {i : Nat} (hi : i < 64) : bl (x ^^^ (-1)) i = !bl x i := by
  show (x ^^^ (-1)).toBitVec.getLsbD i = _
  rw [Int64.toBitVec_xor, BitVec.getLsbD_xor]
  have h : (-1 : Int64).toBitVec = BitVec.allOnes 64 := by decide
  rw [h, BitVec.getLsbD_allOnes]
  simp [hi, bl]
theorem bl_0 (i : Nat) : bl 0 i = false := by
  show (0#64).getLsbD i = false
  exact BitVec.getLsbD_zero
theorem sh_c : ∀ c, c < 128 → ((nI c).toInt64 &&& 63).toBitVec.smod 64 = BitVec.ofNat 64 (c % 64) := by decide +kernel
theorem sh_u : ∀ c, c < 128 → ((nI c).toInt64.toUInt64 &&& Int64.toUInt64 63).toNat % 64 = c % 64 := by decide +kernel
theorem bl_ushr (x : Int64) {c : Nat} (hc : c < 128) (i : Nat) : bl (x.toUInt64 >>> ((nI c).toInt64.toUInt64 &&& Int64.toUInt64 63)).toInt64 i = bl x (c % 64 + i) := by
  show (x.toUInt64 >>> ((nI c).toInt64.toUInt64 &&& Int64.toUInt64 63)).toBitVec.getLsbD i = x.toBitVec.getLsbD (c % 64 + i)
  rw [UInt64.toBitVec_shiftRight, BitVec.ushiftRight_eq', BitVec.getLsbD_ushiftRight]
  have h : (((nI c).toInt64.toUInt64 &&& Int64.toUInt64 63).toBitVec % 64).toNat = c % 64 := by
    rw [BitVec.toNat_umod]
    exact sh_u c hc
  rw [h]
  rfl
theorem bl_shl (x : Int64) {c : Nat} (hc : c < 128) {i : Nat} (hi : i < 64) : bl (x <<< ((nI c).toInt64 &&& 63)) i = (decide (c % 64 ≤ i) && bl x (i - c % 64)) := by
  show (x.toBitVec <<< (((nI c).toInt64 &&& 63).toBitVec.smod 64)).getLsbD i = _
  rw [sh_c c hc, BitVec.shiftLeft_eq', BitVec.getLsbD_shiftLeft, BitVec.toNat_ofNat, Nat.mod_eq_of_lt (show c % 64 < 2 ^ 64 by omega)]
  simp only [hi, decide_true, Bool.true_and]
  by_cases h : i < c % 64
  · have h2 : ¬ c % 64 ≤ i := by omega
    simp [h, h2]
  · have h2 : c % 64 ≤ i := by omega
    simp [h, h2, bl]
theorem bl_one (i : Nat) : bl 1 i = decide (i = 0) := by
  show (1#64).getLsbD i = _
  rw [BitVec.getLsbD_one]
  by_cases h : i = 0 <;> simp [h]
theorem bl_1shl {c : Nat} (hc : c < 128) {i : Nat} (hi : i < 64) : bl ((1 : Int64) <<< ((nI c).toInt64 &&& 63)) i = decide (i = c % 64) := by
  rw [bl_shl 1 hc hi, bl_one]
  by_cases h : i = c % 64
  · simp [h]
  · by_cases h2 : c % 64 ≤ i
    · have : ¬ i - c % 64 = 0 := by omega
      simp [h, h2, this]
    · simp [h, h2]
/-- x >>> c & 1 isn't 0: the bit -/
theorem bl_test (x : Int64) {c : Nat} (hc : c < 128) : ((x.toUInt64 >>> ((nI c).toInt64.toUInt64 &&& Int64.toUInt64 63)).toInt64 &&& 1) = if bl x (c % 64) then 1 else 0 := by
  apply bl_ext
  intro i hi
  rw [bl_and, bl_ushr x hc, bl_one]
  by_cases h : i = 0
  · subst h
    cases hb : bl x (c % 64) <;> simp [hb, bl_one, bl_0]
  · cases hb : bl x (c % 64) <;> simp [h, bl_one, bl_0]
theorem nI_iff {a b : Nat} (ha : a < 2 ^ 31) (hb : b < 2 ^ 31) : nI a ≤ nI b ↔ a ≤ b := nI_leI ha hb
/-- an unsigned shift of a long by 8 k, to int, under 255: its k-th byte -/
def bt (w : Int64) (k : Nat) : Nat := w.toBitVec.toNat / 2 ^ (8 * k) % 256
theorem bt_lt (w : Int64) (k : Nat) : bt w k < 256 := Nat.mod_lt _ (by decide)
theorem nI_mul (a b : Nat) : nI a * nI b = nI (a * b) := pk_mul a b
theorem bt_u (w : Int64) {k : Nat} (hk : k < 8) : (w.toUInt64 >>> ((nI (8 * k)).toInt64.toUInt64 &&& Int64.toUInt64 63)).toInt64.toInt32 &&& nI 255 = nI (bt w k) := by
  rw [pk_and _ 8 (m := nI 255) (by decide)]
  congr 1
  have h1 : ∀ y : Int64, y.toInt32.toBitVec.toNat = y.toBitVec.toNat % 2 ^ 32 := by
    intro y
    show (y.toBitVec.signExtend 32).toNat = _
    rw [BitVec.signExtend_eq_setWidth_of_le _ (by decide), BitVec.toNat_setWidth]
  rw [h1]
  have h2 : (w.toUInt64 >>> ((nI (8 * k)).toInt64.toUInt64 &&& Int64.toUInt64 63)).toInt64.toBitVec.toNat = w.toBitVec.toNat / 2 ^ (8 * k) := by
    show (w.toUInt64 >>> ((nI (8 * k)).toInt64.toUInt64 &&& Int64.toUInt64 63)).toNat = _
    rw [UInt64.toNat_shiftRight, sh_u (8 * k) (by omega), Nat.mod_eq_of_lt (show 8 * k < 64 by omega), Nat.shiftRight_eq_div_pow]
    rfl
  rw [h2]
  unfold bt
  omega
theorem cl_add {a b : Nat} (h : a + b < 2 ^ 31) : (nI a + nI b).toNatClampNeg = a + b := by rw [nI_add, nI_clamp h]
theorem in_add {a b n : Nat} (h : a + b < n) (hn : n < 2 ^ 31) : vp_in (nI a + nI b) n := by rw [nI_add]; exact vp_in_nI h hn
section FZP
variable {G : fz_G} {M : fz_M} {R : Room} {Z : List Frame → Array Value → State → State → Prop} {E0 : Nat → fz_E} {cs sl pc : Nat} {ls : List (Nat × fz_V)} {st : List fz_V} {V : fz_W}
theorem fz_pk (ps : List Nat) {ls' : List (Nat × fz_V)} (h : ps.filterMap (fun i => ls[i]?) = ls') (k : fz_J G M R Z E0 cs sl pc ls' st V) : fz_J G M R Z E0 cs sl pc ls st V := by
  refine fz_keep (fun q hq => ?_) k
  rw [← h] at hq
  obtain ⟨i, -, hi⟩ := List.mem_filterMap.mp hq
  exact List.mem_of_getElem? hi
theorem fz_incN {i k : Nat} (hd : decode M.2.1 pc = .ok (.iinc i 1, 3)) (hv : fz_lo ls i = some (zI (nI k))) (hb : i < M.2.2.1) (kk : fz_J G M R Z E0 cs sl (pc + 3) (fz_s1 ls i (zI (nI (k + 1)))) st V) : fz_J G M R Z E0 cs sl pc ls st V := by
  refine fz_iinc hd hv hb ?_
  have e : nI k + Int32.ofInt 1 = nI (k + 1) := nI_1 k
  rw [e]
  exact kk
theorem fz_ialdu {t n len k0 i0 : Nat} {f : Nat → Nat → Int32} {a : Nat → Int32} {j : Int32} (hd : decode M.2.1 pc = .ok (.iaload, 1)) (ht : fz_tyL[t]? = some .int) (hV : fz_lk V k0 = some (zi t n len (va_up f i0 a))) (hi : i0 < n) (hj : vp_in j len) (k : fz_J G M R Z E0 cs sl (pc + 1) ls (zI (a j.toNatClampNeg) :: st) V) : fz_J G M R Z E0 cs sl pc ls (zI j :: zR k0 i0 :: st) V := by
  refine fz_iald hd ht hV hi hj ?_
  rw [va_up_self]
  exact k
theorem fz_laldu {t n len k0 i0 : Nat} {f : Nat → Nat → Int64} {a : Nat → Int64} {j : Int32} (hd : decode M.2.1 pc = .ok (.laload, 1)) (ht : fz_tyL[t]? = some .long) (hV : fz_lk V k0 = some (zl t n len (va_up f i0 a))) (hi : i0 < n) (hj : vp_in j len) (k : fz_J G M R Z E0 cs sl (pc + 1) ls (zL (a j.toNatClampNeg) :: st) V) : fz_J G M R Z E0 cs sl pc ls (zI j :: zR k0 i0 :: st) V := by
  refine fz_lald hd ht hV hi hj ?_
  rw [va_up_self]
  exact k
theorem fz_iastu {t n len k0 i0 : Nat} {f : Nat → Nat → Int32} {a : Nat → Int32} {j x : Int32} (hd : decode M.2.1 pc = .ok (.iastore, 1)) (ht : fz_tyL[t]? = some .int) (hV : fz_lk V k0 = some (zi t n len (va_up f i0 a))) (hi : i0 < n) (hj : vp_in j len) (k : fz_J G M R Z E0 cs sl (pc + 1) ls st (fz_st V k0 (zi t n len (va_up f i0 (upd a j.toNatClampNeg x))))) : fz_J G M R Z E0 cs sl pc ls (zI x :: zI j :: zR k0 i0 :: st) V :=
  fz_iast0 _ hd ht hV hi hj (by rw [va_up_self, va_up_self]) (fun i' _ h2 => by rw [va_up_ne _ _ h2, va_up_ne _ _ h2]) k
theorem fz_lastu {t n len k0 i0 : Nat} {f : Nat → Nat → Int64} {a : Nat → Int64} {j : Int32} {x : Int64} (hd : decode M.2.1 pc = .ok (.lastore, 1)) (ht : fz_tyL[t]? = some .long) (hV : fz_lk V k0 = some (zl t n len (va_up f i0 a))) (hi : i0 < n) (hj : vp_in j len) (k : fz_J G M R Z E0 cs sl (pc + 1) ls st (fz_st V k0 (zl t n len (va_up f i0 (vp_updL a j.toNatClampNeg x))))) : fz_J G M R Z E0 cs sl pc ls (zL x :: zI j :: zR k0 i0 :: st) V :=
  fz_last0 _ hd ht hV hi hj (by rw [va_up_self, va_up_self]) (fun i' _ h2 => by rw [va_up_ne _ _ h2, va_up_ne _ _ h2]) k
theorem va_upI {α : Type} (f : Nat → α) (g : Nat) : va_up f g (f g) = f := by
  funext j
  unfold va_up
  by_cases h : j = g
  · rw [if_pos h, h]
  · rw [if_neg h]
end FZP
end
section
/-! THE TEXT: FleetController$MapText -/
abbrev eTx (len wd ln co fp : Int32) : fz_E := zo 2 1 (fun _ => [zR 9 0, zI len, zI wd, zI ln, zI co, zI fp])
abbrev eSg (sg : Nat → Int32) : fz_E := zi 0 1 90 (fun _ => sg)
theorem tX2_length {G : fz_G} (len wd ln co fp : Int32) : fz_T G mX2_length rX2_length [zR 8 0] [(8, eTx len wd ln co fp)] (fun r U => r = some (zI len) ∧ U = [(8, eTx len wd ln co fp)]) := by
  refine fz_T.of (by decide) (Nat.le_of_ble_eq_true rfl) (fun E0 => ?_)
  refine fz_aload_n dX2_length_0 rfl ?_
  refine fz_get dX2_length_1 fX2_15 rfl (Nat.one_pos) rfl ?_
  refine fz_iret dX2_length_4 rfl (Nat.zero_le _) (Nat.zero_le _) ⟨rfl, rfl⟩
theorem tX2_width {G : fz_G} (len wd ln co fp : Int32) : fz_T G mX2_width rX2_width [zR 8 0] [(8, eTx len wd ln co fp)] (fun r U => r = some (zI wd) ∧ U = [(8, eTx len wd ln co fp)]) := by
  refine fz_T.of (by decide) (Nat.le_of_ble_eq_true rfl) (fun E0 => ?_)
  refine fz_aload_n dX2_width_0 rfl ?_
  refine fz_get dX2_width_1 fX2_19 rfl (Nat.one_pos) rfl ?_
  refine fz_iret dX2_width_4 rfl (Nat.zero_le _) (Nat.zero_le _) ⟨rfl, rfl⟩
theorem tX2_faultPlace {G : fz_G} (len wd ln co fp : Int32) : fz_T G mX2_faultPlace rX2_faultPlace [zR 8 0] [(8, eTx len wd ln co fp)] (fun r U => r = some (zI fp) ∧ U = [(8, eTx len wd ln co fp)]) := by
  refine fz_T.of (by decide) (Nat.le_of_ble_eq_true rfl) (fun E0 => ?_)
  refine fz_aload_n dX2_faultPlace_0 rfl ?_
  refine fz_get dX2_faultPlace_1 fX2_22 rfl (Nat.one_pos) rfl ?_
  refine fz_iret dX2_faultPlace_4 rfl (Nat.zero_le _) (Nat.zero_le _) ⟨rfl, rfl⟩
theorem tX2_wipe {G : fz_G} (len wd ln co fp : Int32) : fz_T G mX2_wipe rX2_wipe [zR 8 0] [(8, eTx len wd ln co fp)] (fun r U => r = some (zI len) ∧ U = [(8, eTx 0 wd ln co fp)]) := by
  refine fz_T.of (by decide) (Nat.le_of_ble_eq_true rfl) (fun E0 => ?_)
  refine fz_aload_n dX2_wipe_0 rfl ?_
  refine fz_get dX2_wipe_1 fX2_15 rfl (Nat.one_pos) rfl ?_
  refine fz_istore_n dX2_wipe_4 (Nat.le_of_ble_eq_true rfl) ?_
  refine fz_aload_n dX2_wipe_5 rfl ?_
  refine fz_iconst (v := nI 0) dX2_wipe_6 (by decide) ?_
  refine fz_put1 dX2_wipe_7 fX2_15 rfl (Nat.le_of_ble_eq_true rfl) ⟨rfl, rfl⟩ ?_
  refine fz_iload_n dX2_wipe_10 rfl ?_
  refine fz_iret dX2_wipe_11 rfl (Nat.zero_le _) (Nat.zero_le _) ⟨rfl, rfl⟩
theorem tX2_byteOf {G : fz_G} (w : Int64) (k : Nat) (hk : k < 8) : fz_T G mX2_byteOf rX2_byteOf [zL w, zI (nI k)] [] (fun r U => r = some (zI (nI (bt w k))) ∧ U = []) := by
  refine fz_T.of (by decide) (Nat.le_of_ble_eq_true rfl) (fun E0 => ?_)
  refine fz_lload_n dX2_byteOf_0 rfl ?_
  refine fz_bipush (v := nI 8) dX2_byteOf_1 (by decide) ?_
  refine fz_iload_n dX2_byteOf_3 rfl ?_
  refine fz_imul dX2_byteOf_4 ?_
  refine fz_lushr dX2_byteOf_5 ?_
  refine fz_l2i dX2_byteOf_6 ?_
  refine fz_sipush (v := nI 255) dX2_byteOf_7 (by decide) ?_
  refine fz_iand dX2_byteOf_10 ?_
  refine fz_top (y := nI (bt w k)) ?_ ?_
  · rw [nI_mul]
    exact bt_u w hk
  · skip
    refine fz_iret dX2_byteOf_11 rfl (Nat.zero_le _) (Nat.zero_le _) ⟨rfl, rfl⟩
/-- how many bytes a call types: up to the first that is 0 -/
def nbx (w : Int64) : Nat → Nat → Nat
  | 0, k => k
  | f + 1, k => if bt w k = 0 then k else nbx w f (k + 1)
def nb (w : Int64) : Nat := nbx w 8 0
theorem nbx_le (w : Int64) : ∀ f k, nbx w f k ≤ k + f
  | 0, k => Nat.le_refl _
  | f + 1, k => by
    unfold nbx
    split
    · omega
    · have := nbx_le w f (k + 1)
      omega
theorem nb_le (w : Int64) : nb w ≤ 8 := nbx_le w 8 0
theorem lX2_append_2 {G : fz_G} {Z : List Frame → Array Value → State → State → Prop} {E0 : Nat → fz_E} {V : fz_W} (w : Int64) (kk : fz_J G mX2_append rX2_append Z E0 0 0 22 [(3, zI (nI (nb w))), (0, zR 8 0), (1, zL w)] [] V) : ∀ f k, k + f = 8 → nbx w f k = nb w → fz_J G mX2_append rX2_append Z E0 0 0 2 [(3, zI (nI k)), (0, zR 8 0), (1, zL w)] [] V := by
  intro f
  induction f with
  | zero =>
    intro k hk hn
    refine fz_iload_n dX2_append_2 rfl ?_
    refine fz_bipush (v := nI 8) dX2_append_3 (by decide) ?_
    refine fz_icmp_ge (tgt := 22) dX2_append_5 (by decide) (fun c5 => ?_) (fun c5 => ?_)
    · have e : k = nb w := hn
      rw [e]
      exact kk
    · exact absurd (nI_le (by omega) (by omega)) c5
  | succ f ih =>
    intro k hk hn
    refine fz_iload_n dX2_append_2 rfl ?_
    refine fz_bipush (v := nI 8) dX2_append_3 (by decide) ?_
    refine fz_icmp_ge (tgt := 22) dX2_append_5 (by decide) (fun c5 => ?_) (fun c5 => ?_)
    · exact absurd ((nI_leI (by omega) (by omega)).mp c5) (by omega)
    · skip
      refine fz_lload_n dX2_append_8 rfl ?_
      refine fz_iload_n dX2_append_9 rfl ?_
      refine fz_callS (tX2_byteOf w k (by omega)) dX2_append_10 kX2_25 trivial (Nat.le_of_ble_eq_true rfl) (Nat.le_of_ble_eq_true rfl) (Nat.le_of_ble_eq_true rfl) (Nat.le_of_ble_eq_true rfl) (Nat.le_of_ble_eq_true rfl) rfl (fun r U hq => ?_)
      obtain ⟨rfl, rfl⟩ := hq
      refine fz_if_eq (tgt := 22) dX2_append_13 (by decide) (fun c13 => ?_) (fun c13 => ?_)
      · have h0 : bt w k = 0 := (nI_eq (by have := bt_lt w k; omega) (by omega)).mp c13
        have e : k = nb w := by
          rw [← hn]
          unfold nbx
          rw [if_pos h0]
        rw [e]
        exact kk
      · have h0 : ¬ bt w k = 0 := fun z => c13 (by rw [z]; exact nI_0)
        refine fz_incN dX2_append_16 rfl (Nat.le_of_ble_eq_true rfl) ?_
        refine fz_goto (tgt := 2) dX2_append_19 (by decide) ?_
        refine ih (k + 1) (by omega) ?_
        rw [← hn, nbx, if_neg h0]
theorem lX2_append_39 {G : fz_G} {Z : List Frame → Array Value → State → State → Prop} {E0 : Nat → fz_E} (w : Int64) (n m : Nat) (hm : m ≤ 8) (hn : n + m ≤ 90) (wd ln co fp : Int32) (sg : Nat → Int32)
    (kk : ∀ sg' : Nat → Int32, (∀ j, sg' j = if n ≤ j ∧ j < n + m then nI (bt w (j - n)) else sg j) → fz_J G mX2_append rX2_append Z E0 0 0 69 [(4, zI (nI m)), (3, zI (nI m)), (0, zR 8 0), (1, zL w)] [] [(8, eTx (nI n) wd ln co fp), (9, eSg sg')]) :
    ∀ f i, i + f = m → ∀ sgi : Nat → Int32, (∀ j, sgi j = if n ≤ j ∧ j < n + i then nI (bt w (j - n)) else sg j) → fz_J G mX2_append rX2_append Z E0 0 0 39 [(4, zI (nI i)), (3, zI (nI m)), (0, zR 8 0), (1, zL w)] [] [(8, eTx (nI n) wd ln co fp), (9, eSg sgi)] := by
  intro f
  induction f with
  | zero =>
    intro i hi sgi hs
    have e : i = m := by omega
    subst e
    refine fz_iload dX2_append_39 rfl ?_
    refine fz_iload_n dX2_append_41 rfl ?_
    refine fz_icmp_ge (tgt := 69) dX2_append_42 (by decide) (fun c => ?_) (fun c => ?_)
    · exact kk sgi hs
    · exact absurd (nI_le (Nat.le_refl _) (by omega)) c
  | succ f ih =>
    intro i hi sgi hs
    refine fz_iload dX2_append_39 rfl ?_
    refine fz_iload_n dX2_append_41 rfl ?_
    refine fz_icmp_ge (tgt := 69) dX2_append_42 (by decide) (fun c => ?_) (fun c => ?_)
    · exact absurd ((nI_leI (by omega) (by omega)).mp c) (by omega)
    · skip
      refine fz_aload_n dX2_append_45 rfl ?_
      refine fz_get dX2_append_46 fX2_9 rfl (Nat.one_pos) rfl ?_
      refine fz_aload_n dX2_append_49 rfl ?_
      refine fz_get dX2_append_50 fX2_15 rfl (Nat.one_pos) rfl ?_
      refine fz_iload dX2_append_53 rfl ?_
      refine fz_iadd dX2_append_55 ?_
      refine fz_lload_n dX2_append_56 rfl ?_
      refine fz_iload dX2_append_57 rfl ?_
      refine fz_callS (tX2_byteOf w i (by omega)) dX2_append_59 kX2_25 trivial (Nat.le_of_ble_eq_true rfl) (Nat.le_of_ble_eq_true rfl) (Nat.le_of_ble_eq_true rfl) (Nat.le_of_ble_eq_true rfl) (Nat.le_of_ble_eq_true rfl) rfl (fun r U hq => ?_)
      obtain ⟨rfl, rfl⟩ := hq
      refine fz_iast1 dX2_append_62 rfl rfl (in_add (by omega) (by omega)) ?_
      refine fz_incN dX2_append_63 rfl (Nat.le_of_ble_eq_true rfl) ?_
      refine fz_goto (tgt := 39) dX2_append_66 (by decide) ?_
      refine ih (i + 1) (by omega) _ ?_
      intro j
      show upd sgi (nI n + nI i).toNatClampNeg (nI (bt w i)) j = _
      rw [cl_add (by omega)]
      by_cases hj : j = n + i
      · subst hj
        rw [pk_us, if_pos (by omega), Nat.add_sub_cancel_left]
      · rw [pk_un hj, hs j]
        by_cases h1 : n ≤ j ∧ j < n + i
        · rw [if_pos h1, if_pos (by omega)]
        · rw [if_neg h1, if_neg (by omega)]
/-- the text's signs are these numbers -/
def tq (sg : Nat → Int32) (tx : Nat → Nat) (n : Nat) : Prop := ∀ j, j < n → sg j = nI (tx j) ∧ tx j < 256
/-- the text with a call's bytes more -/
def apx (tx : Nat → Nat) (n : Nat) (w : Int64) : Nat → Nat := fun j => if j < n then tx j else bt w (j - n)
theorem tX2_append {G : fz_G} (w : Int64) (n : Nat) (hn : n ≤ 90) (wd ln co fp : Int32) (sg : Nat → Int32) (tx : Nat → Nat) (ht : tq sg tx n) : fz_T G mX2_append rX2_append [zR 8 0, zL w] [(8, eTx (nI n) wd ln co fp), (9, eSg sg)] (fun r U => if n + nb w ≤ 90 then r = some (zI (nI (n + nb w))) ∧ ∃ sg', tq sg' (apx tx n w) (n + nb w) ∧ U = [(8, eTx (nI (n + nb w)) wd ln co fp), (9, eSg sg')] else r = some (zI (-3)) ∧ U = [(8, eTx (nI n) wd ln co fp), (9, eSg sg)]) := by
  refine fz_T.of (by decide) (Nat.le_of_ble_eq_true rfl) (fun E0 => ?_)
  have hb := nb_le w
  refine fz_iconst (v := nI 0) dX2_append_0 (by decide) ?_
  refine fz_istore_n dX2_append_1 (Nat.le_of_ble_eq_true rfl) ?_
  refine lX2_append_2 w ?_ 8 0 rfl rfl
  refine fz_aload_n dX2_append_22 rfl ?_
  refine fz_get dX2_append_23 fX2_15 rfl (Nat.one_pos) rfl ?_
  refine fz_iload_n dX2_append_26 rfl ?_
  refine fz_iadd dX2_append_27 ?_
  refine fz_bipush (v := nI 90) dX2_append_28 (by decide) ?_
  refine fz_icmp_le (tgt := 36) dX2_append_30 (by decide) (fun c => ?_) (fun c => ?_)
  · rw [nI_add] at c
    have h1 : n + nb w ≤ 90 := (nI_leI (by omega) (by omega)).mp c
    refine fz_iconst (v := nI 0) dX2_append_36 (by decide) ?_
    refine fz_istore dX2_append_37 (Nat.le_of_ble_eq_true rfl) ?_
    refine lX2_append_39 w n (nb w) hb h1 wd ln co fp sg (fun sg' hs => ?_) (nb w) 0 (by omega) sg (fun j => ?_)
    · skip
      refine fz_aload_n dX2_append_69 rfl ?_
      refine fz_dup dX2_append_70 rfl ?_
      refine fz_get dX2_append_71 fX2_15 rfl (Nat.one_pos) rfl ?_
      refine fz_iload_n dX2_append_74 rfl ?_
      refine fz_iadd dX2_append_75 ?_
      refine fz_put1 dX2_append_76 fX2_15 rfl (Nat.le_of_ble_eq_true rfl) ⟨rfl, rfl⟩ ?_
      refine fz_aload_n dX2_append_79 rfl ?_
      refine fz_get dX2_append_80 fX2_15 rfl (Nat.one_pos) rfl ?_
      refine fz_iret dX2_append_83 rfl (Nat.zero_le _) (Nat.zero_le _) ?_
      rw [if_pos h1]
      refine ⟨by rw [← nI_add], sg', fun j hj => ?_, by rw [← nI_add]; rfl⟩
      rw [hs j]
      unfold apx
      by_cases h2 : j < n
      · rw [if_neg (by omega), if_pos h2]
        exact ht j h2
      · rw [if_pos (by omega), if_neg h2]
        exact ⟨rfl, bt_lt _ _⟩
    · rw [if_neg (by omega)]
  · rw [nI_add] at c
    have h1 : ¬ n + nb w ≤ 90 := fun z => c (nI_le z (by omega))
    refine fz_bipush (v := -3) dX2_append_33 (by decide) ?_
    refine fz_iret dX2_append_35 rfl (Nat.zero_le _) (Nat.zero_le _) ?_
    rw [if_neg h1]
    exact ⟨rfl, rfl⟩
end
section
/-! THE TEXT'S SHAPE: kindOf, widenLine, endLine, findFault -/
/-- what a sign is: 0 wall .. 4 parking, 5 the end of a line, 9 none of these -/
def kd (b : Nat) : Nat := if b = 35 then 0 else if b = 46 then 1 else if b = 115 then 2 else if b = 116 then 3 else if b = 112 then 4 else if b = 47 then 5 else 9
def kI (b : Nat) : Int32 := if kd b = 9 then -1 else nI (kd b)
theorem kd_cases (b : Nat) : kd b = 0 ∨ kd b = 1 ∨ kd b = 2 ∨ kd b = 3 ∨ kd b = 4 ∨ kd b = 5 ∨ kd b = 9 := by
  unfold kd
  repeat' split
  all_goals simp
theorem kd_off : ∀ b, b < 256 → Op.lookupswitch.offset [(35, 58), (46, 60), (47, 68), (112, 66), (115, 62), (116, 64)] 70 (nI b).toInt = 58 + 2 * ((min (kd b) 6 : Nat) : Int) := by decide +kernel
theorem tX2_kindOf {G : fz_G} (len wd ln co fp : Int32) (sg : Nat → Int32) (k b : Nat) (hk : k < 90) (hs : sg k = nI b) (hb : b < 256) : fz_T G mX2_kindOf rX2_kindOf [zR 8 0, zI (nI k)] [(8, eTx len wd ln co fp), (9, eSg sg)] (fun r U => r = some (zI (kI b)) ∧ U = [(8, eTx len wd ln co fp), (9, eSg sg)]) := by
  refine fz_T.of (by decide) (Nat.le_of_ble_eq_true rfl) (fun E0 => ?_)
  refine fz_aload_n dX2_kindOf_0 rfl ?_
  refine fz_get dX2_kindOf_1 fX2_9 rfl (Nat.one_pos) rfl ?_
  refine fz_iload_n dX2_kindOf_4 rfl ?_
  refine fz_iald dX2_kindOf_5 rfl rfl (Nat.one_pos) (vp_in_nI hk (by omega)) ?_
  refine fz_top (y := nI b) (by rw [nI_clamp (by omega)]; exact hs) ?_
  rcases kd_cases b with h | h | h | h | h | h | h
  · refine fz_lookup (off := 58) (tgt := 64) dX2_kindOf_6 (by decide) (by rw [kd_off b hb, h]; rfl) (by decide) ?_
    refine fz_iconst (v := nI 0) dX2_kindOf_64 (by decide) ?_
    refine fz_iret dX2_kindOf_65 rfl (Nat.zero_le _) (Nat.zero_le _) ⟨by unfold kI; rw [h]; rfl, rfl⟩
  · refine fz_lookup (off := 60) (tgt := 66) dX2_kindOf_6 (by decide) (by rw [kd_off b hb, h]; rfl) (by decide) ?_
    refine fz_iconst (v := nI 1) dX2_kindOf_66 (by decide) ?_
    refine fz_iret dX2_kindOf_67 rfl (Nat.zero_le _) (Nat.zero_le _) ⟨by unfold kI; rw [h]; rfl, rfl⟩
  · refine fz_lookup (off := 62) (tgt := 68) dX2_kindOf_6 (by decide) (by rw [kd_off b hb, h]; rfl) (by decide) ?_
    refine fz_iconst (v := nI 2) dX2_kindOf_68 (by decide) ?_
    refine fz_iret dX2_kindOf_69 rfl (Nat.zero_le _) (Nat.zero_le _) ⟨by unfold kI; rw [h]; rfl, rfl⟩
  · refine fz_lookup (off := 64) (tgt := 70) dX2_kindOf_6 (by decide) (by rw [kd_off b hb, h]; rfl) (by decide) ?_
    refine fz_iconst (v := nI 3) dX2_kindOf_70 (by decide) ?_
    refine fz_iret dX2_kindOf_71 rfl (Nat.zero_le _) (Nat.zero_le _) ⟨by unfold kI; rw [h]; rfl, rfl⟩
  · refine fz_lookup (off := 66) (tgt := 72) dX2_kindOf_6 (by decide) (by rw [kd_off b hb, h]; rfl) (by decide) ?_
    refine fz_iconst (v := nI 4) dX2_kindOf_72 (by decide) ?_
    refine fz_iret dX2_kindOf_73 rfl (Nat.zero_le _) (Nat.zero_le _) ⟨by unfold kI; rw [h]; rfl, rfl⟩
  · refine fz_lookup (off := 68) (tgt := 74) dX2_kindOf_6 (by decide) (by rw [kd_off b hb, h]; rfl) (by decide) ?_
    refine fz_iconst (v := nI 5) dX2_kindOf_74 (by decide) ?_
    refine fz_iret dX2_kindOf_75 rfl (Nat.zero_le _) (Nat.zero_le _) ⟨by unfold kI; rw [h]; rfl, rfl⟩
  · refine fz_lookup (off := 70) (tgt := 76) dX2_kindOf_6 (by decide) (by rw [kd_off b hb, h]; rfl) (by decide) ?_
    refine fz_iconst (v := -1) dX2_kindOf_76 (by decide) ?_
    refine fz_iret dX2_kindOf_77 rfl (Nat.zero_le _) (Nat.zero_le _) ⟨by unfold kI; rw [h]; rfl, rfl⟩
theorem tX2_widenLine {G : fz_G} (len fp : Int32) (w l c : Nat) (hw : w ≤ 10) (hl : l ≤ 8) (hc : c ≤ 90) : fz_T G mX2_widenLine rX2_widenLine [zR 8 0] [(8, eTx len (nI w) (nI l) (nI c) fp)] (fun r U => r = some (zI (if c + 1 ≤ (if l = 0 then 10 else w) then 1 else 0)) ∧ U = [(8, eTx len (nI w) (nI l) (nI (c + 1)) fp)]) := by
  refine fz_T.of (by decide) (Nat.le_of_ble_eq_true rfl) (fun E0 => ?_)
  refine fz_aload_n dX2_widenLine_0 rfl ?_
  refine fz_dup dX2_widenLine_1 rfl ?_
  refine fz_get dX2_widenLine_2 fX2_32 rfl (Nat.one_pos) rfl ?_
  refine fz_iconst (v := nI 1) dX2_widenLine_5 (by decide) ?_
  refine fz_iadd dX2_widenLine_6 ?_
  refine fz_put1 dX2_widenLine_7 fX2_32 rfl (Nat.le_of_ble_eq_true rfl) ⟨rfl, rfl⟩ ?_
  refine fz_aload_n dX2_widenLine_10 rfl ?_
  refine fz_get dX2_widenLine_11 fX2_32 rfl (Nat.one_pos) rfl ?_
  refine fz_aload_n dX2_widenLine_14 rfl ?_
  refine fz_get dX2_widenLine_15 fX2_29 rfl (Nat.one_pos) rfl ?_
  rw [nI_add]
  refine fz_if_ne (tgt := 26) dX2_widenLine_18 (by decide) (fun c18 => ?_) (fun c18 => ?_)
  · have h0 : ¬ l = 0 := fun z => c18 (by rw [z]; exact nI_0)
    refine fz_aload_n dX2_widenLine_26 rfl ?_
    refine fz_get dX2_widenLine_27 fX2_19 rfl (Nat.one_pos) rfl ?_
    refine fz_icmp_gt (tgt := 37) dX2_widenLine_30 (by decide) (fun c30 => ?_) (fun c30 => ?_)
    · have h1 : ¬ c + 1 ≤ w := by have := (nI_ltI (by omega) (by omega)).mp c30; omega
      refine fz_iconst (v := nI 0) dX2_widenLine_37 (by decide) ?_
      refine fz_zret dX2_widenLine_38 rfl (by decide) (Nat.zero_le _) (Nat.zero_le _) ⟨by rw [if_neg h0, if_neg h1]; rfl, rfl⟩
    · have h1 : c + 1 ≤ w := by
        rcases Nat.lt_or_ge w (c + 1) with z | z
        · exact absurd (nI_lt z (by omega)) c30
        · exact z
      refine fz_iconst (v := nI 1) dX2_widenLine_33 (by decide) ?_
      refine fz_goto (tgt := 38) dX2_widenLine_34 (by decide) ?_
      refine fz_zret dX2_widenLine_38 rfl (by decide) (Nat.zero_le _) (Nat.zero_le _) ⟨by rw [if_neg h0, if_pos h1]; rfl, rfl⟩
  · have h0 : l = 0 := (nI_eq (by omega) (by omega)).mp c18
    refine fz_bipush (v := nI 10) dX2_widenLine_21 (by decide) ?_
    refine fz_goto (tgt := 30) dX2_widenLine_23 (by decide) ?_
    refine fz_icmp_gt (tgt := 37) dX2_widenLine_30 (by decide) (fun c30 => ?_) (fun c30 => ?_)
    · have h1 : ¬ c + 1 ≤ 10 := by have := (nI_ltI (by omega) (by omega)).mp c30; omega
      refine fz_iconst (v := nI 0) dX2_widenLine_37 (by decide) ?_
      refine fz_zret dX2_widenLine_38 rfl (by decide) (Nat.zero_le _) (Nat.zero_le _) ⟨by rw [if_pos h0, if_neg h1]; rfl, rfl⟩
    · have h1 : c + 1 ≤ 10 := by
        rcases Nat.lt_or_ge 10 (c + 1) with z | z
        · exact absurd (nI_lt z (by omega)) c30
        · exact z
      refine fz_iconst (v := nI 1) dX2_widenLine_33 (by decide) ?_
      refine fz_goto (tgt := 38) dX2_widenLine_34 (by decide) ?_
      refine fz_zret dX2_widenLine_38 rfl (by decide) (Nat.zero_le _) (Nat.zero_le _) ⟨by rw [if_pos h0, if_pos h1]; rfl, rfl⟩
theorem tX2_endLine {G : fz_G} (len fp : Int32) (w l c : Nat) (hw : w ≤ 10) (hl : l ≤ 8) (hc : c ≤ 90) : fz_T G mX2_endLine rX2_endLine [zR 8 0] [(8, eTx len (nI w) (nI l) (nI c) fp)] (fun r U => if c = 0 ∨ (0 < l ∧ c < w) then r = some (zI 0) ∧ U = [(8, eTx len (nI w) (nI l) (nI c) fp)] else r = some (zI 1) ∧ U = [(8, eTx len (nI c) (nI (l + 1)) 0 fp)]) := by
  refine fz_T.of (by decide) (Nat.le_of_ble_eq_true rfl) (fun E0 => ?_)
  refine fz_aload_n dX2_endLine_0 rfl ?_
  refine fz_get dX2_endLine_1 fX2_32 rfl (Nat.one_pos) rfl ?_
  refine fz_if_eq (tgt := 25) dX2_endLine_4 (by decide) (fun c4 => ?_) (fun c4 => ?_)
  · have h0 : c = 0 := (nI_eq (by omega) (by omega)).mp c4
    refine fz_iconst (v := nI 0) dX2_endLine_25 (by decide) ?_
    refine fz_zret dX2_endLine_26 rfl (by decide) (Nat.zero_le _) (Nat.zero_le _) (by rw [if_pos (Or.inl h0)]; exact ⟨rfl, rfl⟩)
  · have h0 : ¬ c = 0 := fun z => c4 (by rw [z]; exact nI_0)
    refine fz_aload_n dX2_endLine_7 rfl ?_
    refine fz_get dX2_endLine_8 fX2_29 rfl (Nat.one_pos) rfl ?_
    refine fz_if_le (tgt := 27) dX2_endLine_11 (by decide) (fun c11 => ?_) (fun c11 => ?_)
    · have h1 : l = 0 := by
        rcases Nat.eq_zero_or_pos l with z | z
        · exact z
        · exact absurd c11 (nI_nle z (by omega))
      refine fz_aload_n dX2_endLine_27 rfl ?_
      refine fz_aload_n dX2_endLine_28 rfl ?_
      refine fz_get dX2_endLine_29 fX2_32 rfl (Nat.one_pos) rfl ?_
      refine fz_put1 dX2_endLine_32 fX2_19 rfl (Nat.le_of_ble_eq_true rfl) ⟨rfl, rfl⟩ ?_
      refine fz_aload_n dX2_endLine_35 rfl ?_
      refine fz_iconst (v := nI 0) dX2_endLine_36 (by decide) ?_
      refine fz_put1 dX2_endLine_37 fX2_32 rfl (Nat.le_of_ble_eq_true rfl) ⟨rfl, rfl⟩ ?_
      refine fz_aload_n dX2_endLine_40 rfl ?_
      refine fz_dup dX2_endLine_41 rfl ?_
      refine fz_get dX2_endLine_42 fX2_29 rfl (Nat.one_pos) rfl ?_
      refine fz_iconst (v := nI 1) dX2_endLine_45 (by decide) ?_
      refine fz_iadd dX2_endLine_46 ?_
      refine fz_put1 dX2_endLine_47 fX2_29 rfl (Nat.le_of_ble_eq_true rfl) ⟨rfl, rfl⟩ ?_
      refine fz_iconst (v := nI 1) dX2_endLine_50 (by decide) ?_
      rw [nI_add]
      refine fz_zret dX2_endLine_51 rfl (by decide) (Nat.zero_le _) (Nat.zero_le _) (by rw [if_neg (by omega)]; exact ⟨rfl, rfl⟩)
    · have h1 : 0 < l := by
        rcases Nat.eq_zero_or_pos l with z | z
        · exact absurd (by rw [z, nI_0]; decide) c11
        · exact z
      refine fz_aload_n dX2_endLine_14 rfl ?_
      refine fz_get dX2_endLine_15 fX2_32 rfl (Nat.one_pos) rfl ?_
      refine fz_aload_n dX2_endLine_18 rfl ?_
      refine fz_get dX2_endLine_19 fX2_19 rfl (Nat.one_pos) rfl ?_
      refine fz_icmp_ge (tgt := 27) dX2_endLine_22 (by decide) (fun c22 => ?_) (fun c22 => ?_)
      · have h2 : w ≤ c := (nI_leI (by omega) (by omega)).mp c22
        refine fz_aload_n dX2_endLine_27 rfl ?_
        refine fz_aload_n dX2_endLine_28 rfl ?_
        refine fz_get dX2_endLine_29 fX2_32 rfl (Nat.one_pos) rfl ?_
        refine fz_put1 dX2_endLine_32 fX2_19 rfl (Nat.le_of_ble_eq_true rfl) ⟨rfl, rfl⟩ ?_
        refine fz_aload_n dX2_endLine_35 rfl ?_
        refine fz_iconst (v := nI 0) dX2_endLine_36 (by decide) ?_
        refine fz_put1 dX2_endLine_37 fX2_32 rfl (Nat.le_of_ble_eq_true rfl) ⟨rfl, rfl⟩ ?_
        refine fz_aload_n dX2_endLine_40 rfl ?_
        refine fz_dup dX2_endLine_41 rfl ?_
        refine fz_get dX2_endLine_42 fX2_29 rfl (Nat.one_pos) rfl ?_
        refine fz_iconst (v := nI 1) dX2_endLine_45 (by decide) ?_
        refine fz_iadd dX2_endLine_46 ?_
        refine fz_put1 dX2_endLine_47 fX2_29 rfl (Nat.le_of_ble_eq_true rfl) ⟨rfl, rfl⟩ ?_
        refine fz_iconst (v := nI 1) dX2_endLine_50 (by decide) ?_
        rw [nI_add]
        refine fz_zret dX2_endLine_51 rfl (by decide) (Nat.zero_le _) (Nat.zero_le _) (by rw [if_neg (by omega)]; exact ⟨rfl, rfl⟩)
      · have h2 : c < w := by
          rcases Nat.lt_or_ge c w with z | z
          · exact z
          · exact absurd (nI_le z (by omega)) c22
        refine fz_iconst (v := nI 0) dX2_endLine_25 (by decide) ?_
        refine fz_zret dX2_endLine_26 rfl (by decide) (Nat.zero_le _) (Nat.zero_le _) (by rw [if_pos (Or.inr ⟨h1, h2⟩)]; exact ⟨rfl, rfl⟩)
/-- the text's lines looked at from sign k on, in line l with c signs so far, the first line's length w: fault, place, length -/
def scn (tx : Nat → Nat) : Nat → Nat → Nat → Nat → Nat → Int32 × Nat × Nat
  | 0, k, l, c, w => if c = 0 ∨ (0 < l ∧ c < w) then (-12, k, 0) else (0, k, c)
  | f + 1, k, l, c, w =>
    if kd (tx k) = 9 then (-11, k, 0)
    else if kd (tx k) = 5 then
      (if c = 0 ∨ (0 < l ∧ c < w) then (-12, k, 0) else if l + 1 < 8 then scn tx f (k + 1) (l + 1) 0 c else (-12, k, 0))
    else if c + 1 ≤ (if l = 0 then 10 else w) then scn tx f (k + 1) l (c + 1) w else (-12, k, 0)
def qF (n : Nat) (sg : Nat → Int32) (S : Int32 × Nat × Nat) : Option fz_V → fz_W → Prop := fun r U => r = some (zI S.1) ∧ ∃ (w : Nat) (l c : Int32), w ≤ 10 ∧ (S.1 = 0 → w = S.2.2) ∧ U = [(8, eTx (nI n) (nI w) l c (nI S.2.1)), (9, eSg sg)]
theorem kI_ne {b : Nat} (h : ¬ kd b = 9) : kI b = nI (kd b) := by unfold kI; rw [if_neg h]
theorem kd_le (b : Nat) : kd b ≤ 9 := by rcases kd_cases b with h | h | h | h | h | h | h <;> omega
theorem lX2_findFault {G : fz_G} {E0 : Nat → fz_E} (n : Nat) (hn : n ≤ 90) (sg : Nat → Int32) (tx : Nat → Nat) (ht : tq sg tx n) (S : Int32 × Nat × Nat) :
    ∀ f k l c w (fp : Int32), k + f = n → l ≤ 7 → c ≤ 10 → w ≤ 10 → scn tx f k l c w = S → fz_J G mX2_findFault rX2_findFault (fz_Z G E0 rX2_findFault.cells rX2_findFault.slots (qF n sg S)) E0 0 0 12 [(1, zI (nI k)), (0, zR 8 0)] [] [(8, eTx (nI n) (nI w) (nI l) (nI c) fp), (9, eSg sg)] := by
  intro f
  induction f with
  | zero =>
    intro k l c w fp hk hl hc hw hS
    have e : k = n := by omega
    subst e
    refine fz_iload_n dX2_findFault_12 rfl ?_
    refine fz_aload_n dX2_findFault_13 rfl ?_
    refine fz_get dX2_findFault_14 fX2_15 rfl (Nat.one_pos) rfl ?_
    refine fz_icmp_ge (tgt := 91) dX2_findFault_17 (by decide) (fun c17 => ?_) (fun c17 => ?_)
    · skip
      refine fz_aload_n dX2_findFault_91 rfl ?_
      refine fz_aload_n dX2_findFault_92 rfl ?_
      refine fz_get dX2_findFault_93 fX2_15 rfl (Nat.one_pos) rfl ?_
      refine fz_put1 dX2_findFault_96 fX2_22 rfl (Nat.le_of_ble_eq_true rfl) ⟨rfl, rfl⟩ ?_
      refine fz_aload_n dX2_findFault_99 rfl ?_
      refine fz_wo (V' := [(8, eTx (nI k) (nI w) (nI l) (nI c) (nI k)), (9, eSg sg)]) rfl ?_
      refine fz_callV (tX2_endLine (nI k) (nI k) w l c hw (by omega) (by omega)) dX2_findFault_100 kX2_39 rfl (Nat.one_pos) ⟨rfl, trivial⟩ (Nat.le_of_ble_eq_true rfl) (Nat.le_of_ble_eq_true rfl) (Nat.le_of_ble_eq_true rfl) (Nat.le_of_ble_eq_true rfl) (Nat.le_of_ble_eq_true rfl) rfl (fun r U hq => ?_)
      unfold scn at hS
      split at hq
      · rename_i h0
        rw [if_pos h0] at hS
        subst hS
        obtain ⟨rfl, rfl⟩ := hq
        refine fz_back rfl ?_
        refine fz_if_eq (tgt := 110) dX2_findFault_103 (by decide) (fun c103 => ?_) (fun c103 => ?_)
        · skip
          refine fz_bipush (v := -12) dX2_findFault_110 (by decide) ?_
          refine fz_iret dX2_findFault_112 rfl (Nat.zero_le _) (Nat.zero_le _) ⟨rfl, w, _, _, hw, fun z => absurd (show (-12 : Int32) = 0 from z) (by decide), rfl⟩
        · exact absurd rfl c103
      · rename_i h0
        rw [if_neg h0] at hS
        subst hS
        obtain ⟨rfl, rfl⟩ := hq
        refine fz_back rfl ?_
        refine fz_if_eq (tgt := 110) dX2_findFault_103 (by decide) (fun c103 => ?_) (fun c103 => ?_)
        · exact absurd c103 (by decide)
        · skip
          refine fz_iconst (v := nI 0) dX2_findFault_106 (by decide) ?_
          refine fz_goto (tgt := 112) dX2_findFault_107 (by decide) ?_
          refine fz_iret dX2_findFault_112 rfl (Nat.zero_le _) (Nat.zero_le _) ⟨rfl, c, _, _, hc, fun _ => rfl, rfl⟩
    · exact absurd (nI_le (Nat.le_refl _) (by omega)) c17
  | succ f ih =>
    intro k l c w fp hk hl hc hw hS
    have hkn : k < n := by omega
    obtain ⟨hs, hb⟩ := ht k hkn
    refine fz_iload_n dX2_findFault_12 rfl ?_
    refine fz_aload_n dX2_findFault_13 rfl ?_
    refine fz_get dX2_findFault_14 fX2_15 rfl (Nat.one_pos) rfl ?_
    refine fz_icmp_ge (tgt := 91) dX2_findFault_17 (by decide) (fun c17 => ?_) (fun c17 => ?_)
    · exact absurd ((nI_leI (by omega) (by omega)).mp c17) (by omega)
    · skip
      refine fz_aload_n dX2_findFault_20 rfl ?_
      refine fz_iload_n dX2_findFault_21 rfl ?_
      refine fz_callV (tX2_kindOf (nI n) (nI w) (nI l) (nI c) fp sg k (tx k) (by omega) hs hb) dX2_findFault_22 kX2_35 rfl (Nat.one_pos) ⟨rfl, rfl, trivial⟩ (Nat.le_of_ble_eq_true rfl) (Nat.le_of_ble_eq_true rfl) (Nat.le_of_ble_eq_true rfl) (Nat.le_of_ble_eq_true rfl) (Nat.le_of_ble_eq_true rfl) rfl (fun r U hq => ?_)
      obtain ⟨rfl, rfl⟩ := hq
      refine fz_back rfl ?_
      refine fz_wo (V' := [(8, eTx (nI n) (nI w) (nI l) (nI c) fp), (9, eSg sg)]) rfl ?_
      unfold scn at hS
      refine fz_istore_n dX2_findFault_25 (Nat.le_of_ble_eq_true rfl) ?_
      refine fz_iload_n dX2_findFault_26 rfl ?_
      refine fz_iconst (v := -1) dX2_findFault_27 (by decide) ?_
      refine fz_icmp_ne (tgt := 39) dX2_findFault_28 (by decide) (fun c28 => ?_) (fun c28 => ?_)
      · have h9 : ¬ kd (tx k) = 9 := fun z => c28 (by unfold kI; rw [if_pos z])
        rw [if_neg h9] at hS
        refine fz_iload_n dX2_findFault_39 rfl ?_
        refine fz_iconst (v := nI 5) dX2_findFault_40 (by decide) ?_
        refine fz_icmp_ne (tgt := 68) dX2_findFault_41 (by decide) (fun c41 => ?_) (fun c41 => ?_)
        · have h5 : ¬ kd (tx k) = 5 := fun z => c41 (by rw [kI_ne h9, z])
          rw [if_neg h5] at hS
          refine fz_aload_n dX2_findFault_68 rfl ?_
          refine fz_callV (tX2_widenLine (nI n) fp w l c hw (by omega) (by omega)) dX2_findFault_69 kX2_43 rfl (Nat.one_pos) ⟨rfl, trivial⟩ (Nat.le_of_ble_eq_true rfl) (Nat.le_of_ble_eq_true rfl) (Nat.le_of_ble_eq_true rfl) (Nat.le_of_ble_eq_true rfl) (Nat.le_of_ble_eq_true rfl) rfl (fun r U hq => ?_)
          obtain ⟨rfl, rfl⟩ := hq
          refine fz_back rfl ?_
          refine fz_wo (V' := [(8, eTx (nI n) (nI w) (nI l) (nI (c + 1)) fp), (9, eSg sg)]) rfl ?_
          refine fz_istore_n dX2_findFault_72 (Nat.le_of_ble_eq_true rfl) ?_
          refine fz_iload_n dX2_findFault_73 rfl ?_
          by_cases hfit : c + 1 ≤ (if l = 0 then 10 else w)
          · rw [if_pos hfit] at hS ⊢
            refine fz_if_ne (tgt := 85) dX2_findFault_74 (by decide) (fun c74 => ?_) (fun c74 => ?_)
            · skip
              refine fz_incN dX2_findFault_85 rfl (Nat.le_of_ble_eq_true rfl) ?_
              refine fz_goto (tgt := 12) dX2_findFault_88 (by decide) ?_
              exact fz_pk [0, 3] rfl (ih (k + 1) l (c + 1) w fp (by omega) hl (by split at hfit <;> omega) hw hS)
            · exact absurd c74 (by decide)
          · rw [if_neg hfit] at hS ⊢
            subst hS
            refine fz_if_ne (tgt := 85) dX2_findFault_74 (by decide) (fun c74 => ?_) (fun c74 => ?_)
            · exact absurd rfl c74
            · skip
              refine fz_aload_n dX2_findFault_77 rfl ?_
              refine fz_iload_n dX2_findFault_78 rfl ?_
              refine fz_put1 dX2_findFault_79 fX2_22 rfl (Nat.le_of_ble_eq_true rfl) ⟨rfl, rfl⟩ ?_
              refine fz_bipush (v := -12) dX2_findFault_82 (by decide) ?_
              refine fz_iret dX2_findFault_84 rfl (Nat.zero_le _) (Nat.zero_le _) ⟨rfl, w, _, _, hw, fun z => absurd (show (-12 : Int32) = 0 from z) (by decide), rfl⟩
        · have h5 : kd (tx k) = 5 := by
            rw [kI_ne h9] at c41
            exact (nI_eq (by have := kd_le (tx k); omega) (by omega)).mp c41
          rw [if_pos h5] at hS
          refine fz_aload_n dX2_findFault_44 rfl ?_
          refine fz_callV (tX2_endLine (nI n) fp w l c hw (by omega) (by omega)) dX2_findFault_45 kX2_39 rfl (Nat.one_pos) ⟨rfl, trivial⟩ (Nat.le_of_ble_eq_true rfl) (Nat.le_of_ble_eq_true rfl) (Nat.le_of_ble_eq_true rfl) (Nat.le_of_ble_eq_true rfl) (Nat.le_of_ble_eq_true rfl) rfl (fun r U hq => ?_)
          by_cases h0 : c = 0 ∨ (0 < l ∧ c < w)
          · rw [if_pos h0] at hq hS
            subst hS
            obtain ⟨rfl, rfl⟩ := hq
            refine fz_back rfl ?_
            refine fz_wo (V' := [(8, eTx (nI n) (nI w) (nI l) (nI c) fp), (9, eSg sg)]) rfl ?_
            refine fz_if_eq (tgt := 64) dX2_findFault_48 (by decide) (fun c48 => ?_) (fun c48 => ?_)
            · skip
              refine fz_iconst (v := nI 0) dX2_findFault_64 (by decide) ?_
              refine fz_goto (tgt := 72) dX2_findFault_65 (by decide) ?_
              refine fz_istore_n dX2_findFault_72 (Nat.le_of_ble_eq_true rfl) ?_
              refine fz_iload_n dX2_findFault_73 rfl ?_
              refine fz_if_ne (tgt := 85) dX2_findFault_74 (by decide) (fun c74 => ?_) (fun c74 => ?_)
              · exact absurd nI_0 c74
              · skip
                refine fz_aload_n dX2_findFault_77 rfl ?_
                refine fz_iload_n dX2_findFault_78 rfl ?_
                refine fz_put1 dX2_findFault_79 fX2_22 rfl (Nat.le_of_ble_eq_true rfl) ⟨rfl, rfl⟩ ?_
                refine fz_bipush (v := -12) dX2_findFault_82 (by decide) ?_
                refine fz_iret dX2_findFault_84 rfl (Nat.zero_le _) (Nat.zero_le _) ⟨rfl, w, _, _, hw, fun z => absurd (show (-12 : Int32) = 0 from z) (by decide), rfl⟩
            · exact absurd rfl c48
          · rw [if_neg h0] at hq hS
            obtain ⟨rfl, rfl⟩ := hq
            refine fz_back rfl ?_
            refine fz_wo (V' := [(8, eTx (nI n) (nI c) (nI (l + 1)) 0 fp), (9, eSg sg)]) rfl ?_
            refine fz_if_eq (tgt := 64) dX2_findFault_48 (by decide) (fun c48 => ?_) (fun c48 => ?_)
            · exact absurd c48 (by decide)
            · skip
              refine fz_aload_n dX2_findFault_51 rfl ?_
              refine fz_get dX2_findFault_52 fX2_29 rfl (Nat.one_pos) rfl ?_
              refine fz_bipush (v := nI 8) dX2_findFault_55 (by decide) ?_
              refine fz_icmp_ge (tgt := 64) dX2_findFault_57 (by decide) (fun c57 => ?_) (fun c57 => ?_)
              · have h8 : ¬ l + 1 < 8 := by have := (nI_leI (by omega) (by omega)).mp c57; omega
                rw [if_neg h8] at hS
                subst hS
                refine fz_iconst (v := nI 0) dX2_findFault_64 (by decide) ?_
                refine fz_goto (tgt := 72) dX2_findFault_65 (by decide) ?_
                refine fz_istore_n dX2_findFault_72 (Nat.le_of_ble_eq_true rfl) ?_
                refine fz_iload_n dX2_findFault_73 rfl ?_
                refine fz_if_ne (tgt := 85) dX2_findFault_74 (by decide) (fun c74 => ?_) (fun c74 => ?_)
                · exact absurd nI_0 c74
                · skip
                  refine fz_aload_n dX2_findFault_77 rfl ?_
                  refine fz_iload_n dX2_findFault_78 rfl ?_
                  refine fz_put1 dX2_findFault_79 fX2_22 rfl (Nat.le_of_ble_eq_true rfl) ⟨rfl, rfl⟩ ?_
                  refine fz_bipush (v := -12) dX2_findFault_82 (by decide) ?_
                  refine fz_iret dX2_findFault_84 rfl (Nat.zero_le _) (Nat.zero_le _) ⟨rfl, c, _, _, hc, fun z => absurd (show (-12 : Int32) = 0 from z) (by decide), rfl⟩
              · have h8 : l + 1 < 8 := by
                  rcases Nat.lt_or_ge (l + 1) 8 with z | z
                  · exact z
                  · exact absurd (nI_le z (by omega)) c57
                rw [if_pos h8] at hS
                refine fz_iconst (v := nI 1) dX2_findFault_60 (by decide) ?_
                refine fz_goto (tgt := 72) dX2_findFault_61 (by decide) ?_
                refine fz_istore_n dX2_findFault_72 (Nat.le_of_ble_eq_true rfl) ?_
                refine fz_iload_n dX2_findFault_73 rfl ?_
                refine fz_if_ne (tgt := 85) dX2_findFault_74 (by decide) (fun c74 => ?_) (fun c74 => ?_)
                · skip
                  refine fz_incN dX2_findFault_85 rfl (Nat.le_of_ble_eq_true rfl) ?_
                  refine fz_goto (tgt := 12) dX2_findFault_88 (by decide) ?_
                  exact fz_pk [0, 3] rfl (ih (k + 1) (l + 1) 0 c fp (by omega) (by omega) (by omega) hc hS)
                · exact absurd c74 (by decide)
      · have h9 : kd (tx k) = 9 := by
          unfold kI at c28
          split at c28
          · assumption
          · exfalso
            have h2 := kd_le (tx k)
            have : (nI (kd (tx k))).toInt = (-1 : Int32).toInt := by rw [c28]
            rw [nI_toInt (by omega)] at this
            have e1 : (-1 : Int32).toInt = -1 := by decide
            omega
        rw [if_pos h9] at hS
        subst hS
        refine fz_aload_n dX2_findFault_31 rfl ?_
        refine fz_iload_n dX2_findFault_32 rfl ?_
        refine fz_put1 dX2_findFault_33 fX2_22 rfl (Nat.le_of_ble_eq_true rfl) ⟨rfl, rfl⟩ ?_
        refine fz_bipush (v := -11) dX2_findFault_36 (by decide) ?_
        refine fz_iret dX2_findFault_38 rfl (Nat.zero_le _) (Nat.zero_le _) ⟨rfl, w, _, _, hw, fun z => absurd (show (-11 : Int32) = 0 from z) (by decide), rfl⟩
theorem tX2_findFault {G : fz_G} (n w : Nat) (hn : n ≤ 90) (hw : w ≤ 10) (ln co fp : Int32) (sg : Nat → Int32) (tx : Nat → Nat) (ht : tq sg tx n) : fz_T G mX2_findFault rX2_findFault [zR 8 0] [(8, eTx (nI n) (nI w) ln co fp), (9, eSg sg)] (qF n sg (scn tx n 0 0 0 w)) := by
  refine fz_T.of (by decide) (Nat.le_of_ble_eq_true rfl) (fun E0 => ?_)
  refine fz_aload_n dX2_findFault_0 rfl ?_
  refine fz_iconst (v := nI 0) dX2_findFault_1 (by decide) ?_
  refine fz_put1 dX2_findFault_2 fX2_29 rfl (Nat.le_of_ble_eq_true rfl) ⟨rfl, rfl⟩ ?_
  refine fz_aload_n dX2_findFault_5 rfl ?_
  refine fz_iconst (v := nI 0) dX2_findFault_6 (by decide) ?_
  refine fz_put1 dX2_findFault_7 fX2_32 rfl (Nat.le_of_ble_eq_true rfl) ⟨rfl, rfl⟩ ?_
  refine fz_iconst (v := nI 0) dX2_findFault_10 (by decide) ?_
  refine fz_istore_n dX2_findFault_11 (Nat.le_of_ble_eq_true rfl) ?_
  exact lX2_findFault n hn sg tx ht _ n 0 0 0 w fp (by omega) (by omega) (by omega) hw rfl
end
section
/-! Arrays.fill, for each array that it fills -/
theorem lJ7_fill_6 {G : fz_G} {E0 : Nat → fz_E} (f : Nat → Nat → Int32) (g : Nat) (hg : g < 2) (x : Int32) : ∀ q i, i + q = 80 → ∀ a : Nat → Int32, (∀ j, j < i → a j = x) → fz_J G mJ7_fill_53178 rJ7_fill_53178 (fz_Z G E0 0 0 (fun r U => r = none ∧ ∃ a' : Nat → Int32, (∀ j, j < 80 → a' j = x) ∧ U = [(6, zi 0 2 80 (va_up f g a'))])) E0 0 0 5 [(2, zI (nI i)), (3, zI (nI 80)), (0, zR 6 g), (1, zI x)] [] [(6, zi 0 2 80 (va_up f g a))] := by
  intro q
  induction q with
  | zero =>
    intro i hi a ha
    have e : i = 80 := by omega
    subst e
    refine fz_iload_n dJ7_fill_53178_5 rfl ?_
    refine fz_iload_n dJ7_fill_53178_6 rfl ?_
    refine fz_icmp_ge (tgt := 20) dJ7_fill_53178_7 (by decide) (fun c => ?_) (fun c => ?_)
    · skip
      refine fz_vret dJ7_fill_53178_20 rfl (Nat.zero_le _) (Nat.zero_le _) ⟨rfl, a, ha, rfl⟩
    · exact absurd (nI_le (Nat.le_refl _) (by omega)) c
  | succ q ih =>
    intro i hi a ha
    refine fz_iload_n dJ7_fill_53178_5 rfl ?_
    refine fz_iload_n dJ7_fill_53178_6 rfl ?_
    refine fz_icmp_ge (tgt := 20) dJ7_fill_53178_7 (by decide) (fun c => ?_) (fun c => ?_)
    · exact absurd ((nI_leI (by omega) (by omega)).mp c) (by omega)
    · skip
      refine fz_aload_n dJ7_fill_53178_10 rfl ?_
      refine fz_iload_n dJ7_fill_53178_11 rfl ?_
      refine fz_iload_n dJ7_fill_53178_12 rfl ?_
      refine fz_iastu dJ7_fill_53178_13 rfl rfl (hg) (vp_in_nI (by omega) (by omega)) ?_
      refine fz_incN dJ7_fill_53178_14 rfl (Nat.le_of_ble_eq_true rfl) ?_
      refine fz_goto (tgt := 5) dJ7_fill_53178_17 (by decide) ?_
      refine ih (i + 1) (by omega) _ (fun j hj => ?_)
      rw [nI_clamp (by omega)]
      by_cases h : j = i
      · rw [h, pk_us]
      · rw [pk_un h]
        exact ha j (by omega)
theorem tJ7_fill_6 {G : fz_G} (f : Nat → Nat → Int32) (g : Nat) (hg : g < 2) (x : Int32) (a : Nat → Int32) : fz_T G mJ7_fill_53178 rJ7_fill_53178 [zR 6 g, zI x] [(6, zi 0 2 80 (va_up f g a))] (fun r U => r = none ∧ ∃ a' : Nat → Int32, (∀ j, j < 80 → a' j = x) ∧ U = [(6, zi 0 2 80 (va_up f g a'))]) := by
  refine fz_T.of (by decide) (Nat.le_of_ble_eq_true rfl) (fun E0 => ?_)
  refine fz_iconst (v := nI 0) dJ7_fill_53178_0 (by decide) ?_
  refine fz_istore_n dJ7_fill_53178_1 (Nat.le_of_ble_eq_true rfl) ?_
  refine fz_aload_n dJ7_fill_53178_2 rfl ?_
  refine fz_alen_zi dJ7_fill_53178_3 rfl rfl (hg) rfl ?_
  refine fz_istore_n dJ7_fill_53178_4 (Nat.le_of_ble_eq_true rfl) ?_
  refine fz_pk [1, 0, 2, 3] rfl ?_
  exact lJ7_fill_6 f g hg x 80 0 (by omega) a (fun j h => by omega)
theorem lJ7_fill_13 {G : fz_G} {E0 : Nat → fz_E}  (x : Int32) : ∀ q i, i + q = 80 → ∀ a : Nat → Int32, (∀ j, j < i → a j = x) → fz_J G mJ7_fill_53178 rJ7_fill_53178 (fz_Z G E0 0 0 (fun r U => r = none ∧ ∃ a' : Nat → Int32, (∀ j, j < 80 → a' j = x) ∧ U = [(13, zi 0 1 80 (fun _ => a'))])) E0 0 0 5 [(2, zI (nI i)), (3, zI (nI 80)), (0, zR 13 0), (1, zI x)] [] [(13, zi 0 1 80 (fun _ => a))] := by
  intro q
  induction q with
  | zero =>
    intro i hi a ha
    have e : i = 80 := by omega
    subst e
    refine fz_iload_n dJ7_fill_53178_5 rfl ?_
    refine fz_iload_n dJ7_fill_53178_6 rfl ?_
    refine fz_icmp_ge (tgt := 20) dJ7_fill_53178_7 (by decide) (fun c => ?_) (fun c => ?_)
    · skip
      refine fz_vret dJ7_fill_53178_20 rfl (Nat.zero_le _) (Nat.zero_le _) ⟨rfl, a, ha, rfl⟩
    · exact absurd (nI_le (Nat.le_refl _) (by omega)) c
  | succ q ih =>
    intro i hi a ha
    refine fz_iload_n dJ7_fill_53178_5 rfl ?_
    refine fz_iload_n dJ7_fill_53178_6 rfl ?_
    refine fz_icmp_ge (tgt := 20) dJ7_fill_53178_7 (by decide) (fun c => ?_) (fun c => ?_)
    · exact absurd ((nI_leI (by omega) (by omega)).mp c) (by omega)
    · skip
      refine fz_aload_n dJ7_fill_53178_10 rfl ?_
      refine fz_iload_n dJ7_fill_53178_11 rfl ?_
      refine fz_iload_n dJ7_fill_53178_12 rfl ?_
      refine fz_iast1 dJ7_fill_53178_13 rfl rfl (vp_in_nI (by omega) (by omega)) ?_
      refine fz_incN dJ7_fill_53178_14 rfl (Nat.le_of_ble_eq_true rfl) ?_
      refine fz_goto (tgt := 5) dJ7_fill_53178_17 (by decide) ?_
      refine ih (i + 1) (by omega) _ (fun j hj => ?_)
      rw [nI_clamp (by omega)]
      by_cases h : j = i
      · rw [h, pk_us]
      · rw [pk_un h]
        exact ha j (by omega)
theorem tJ7_fill_13 {G : fz_G}  (x : Int32) (a : Nat → Int32) : fz_T G mJ7_fill_53178 rJ7_fill_53178 [zR 13 0, zI x] [(13, zi 0 1 80 (fun _ => a))] (fun r U => r = none ∧ ∃ a' : Nat → Int32, (∀ j, j < 80 → a' j = x) ∧ U = [(13, zi 0 1 80 (fun _ => a'))]) := by
  refine fz_T.of (by decide) (Nat.le_of_ble_eq_true rfl) (fun E0 => ?_)
  refine fz_iconst (v := nI 0) dJ7_fill_53178_0 (by decide) ?_
  refine fz_istore_n dJ7_fill_53178_1 (Nat.le_of_ble_eq_true rfl) ?_
  refine fz_aload_n dJ7_fill_53178_2 rfl ?_
  refine fz_alen_zi dJ7_fill_53178_3 rfl rfl (Nat.one_pos) rfl ?_
  refine fz_istore_n dJ7_fill_53178_4 (Nat.le_of_ble_eq_true rfl) ?_
  refine fz_pk [1, 0, 2, 3] rfl ?_
  exact lJ7_fill_13  x 80 0 (by omega) a (fun j h => by omega)
theorem lJ7_fill_23 {G : fz_G} {E0 : Nat → fz_E}  (x : Int32) : ∀ q i, i + q = 80 → ∀ a : Nat → Int32, (∀ j, j < i → a j = x) → fz_J G mJ7_fill_53178 rJ7_fill_53178 (fz_Z G E0 0 0 (fun r U => r = none ∧ ∃ a' : Nat → Int32, (∀ j, j < 80 → a' j = x) ∧ U = [(23, zi 0 1 80 (fun _ => a'))])) E0 0 0 5 [(2, zI (nI i)), (3, zI (nI 80)), (0, zR 23 0), (1, zI x)] [] [(23, zi 0 1 80 (fun _ => a))] := by
  intro q
  induction q with
  | zero =>
    intro i hi a ha
    have e : i = 80 := by omega
    subst e
    refine fz_iload_n dJ7_fill_53178_5 rfl ?_
    refine fz_iload_n dJ7_fill_53178_6 rfl ?_
    refine fz_icmp_ge (tgt := 20) dJ7_fill_53178_7 (by decide) (fun c => ?_) (fun c => ?_)
    · skip
      refine fz_vret dJ7_fill_53178_20 rfl (Nat.zero_le _) (Nat.zero_le _) ⟨rfl, a, ha, rfl⟩
    · exact absurd (nI_le (Nat.le_refl _) (by omega)) c
  | succ q ih =>
    intro i hi a ha
    refine fz_iload_n dJ7_fill_53178_5 rfl ?_
    refine fz_iload_n dJ7_fill_53178_6 rfl ?_
    refine fz_icmp_ge (tgt := 20) dJ7_fill_53178_7 (by decide) (fun c => ?_) (fun c => ?_)
    · exact absurd ((nI_leI (by omega) (by omega)).mp c) (by omega)
    · skip
      refine fz_aload_n dJ7_fill_53178_10 rfl ?_
      refine fz_iload_n dJ7_fill_53178_11 rfl ?_
      refine fz_iload_n dJ7_fill_53178_12 rfl ?_
      refine fz_iast1 dJ7_fill_53178_13 rfl rfl (vp_in_nI (by omega) (by omega)) ?_
      refine fz_incN dJ7_fill_53178_14 rfl (Nat.le_of_ble_eq_true rfl) ?_
      refine fz_goto (tgt := 5) dJ7_fill_53178_17 (by decide) ?_
      refine ih (i + 1) (by omega) _ (fun j hj => ?_)
      rw [nI_clamp (by omega)]
      by_cases h : j = i
      · rw [h, pk_us]
      · rw [pk_un h]
        exact ha j (by omega)
theorem tJ7_fill_23 {G : fz_G}  (x : Int32) (a : Nat → Int32) : fz_T G mJ7_fill_53178 rJ7_fill_53178 [zR 23 0, zI x] [(23, zi 0 1 80 (fun _ => a))] (fun r U => r = none ∧ ∃ a' : Nat → Int32, (∀ j, j < 80 → a' j = x) ∧ U = [(23, zi 0 1 80 (fun _ => a'))]) := by
  refine fz_T.of (by decide) (Nat.le_of_ble_eq_true rfl) (fun E0 => ?_)
  refine fz_iconst (v := nI 0) dJ7_fill_53178_0 (by decide) ?_
  refine fz_istore_n dJ7_fill_53178_1 (Nat.le_of_ble_eq_true rfl) ?_
  refine fz_aload_n dJ7_fill_53178_2 rfl ?_
  refine fz_alen_zi dJ7_fill_53178_3 rfl rfl (Nat.one_pos) rfl ?_
  refine fz_istore_n dJ7_fill_53178_4 (Nat.le_of_ble_eq_true rfl) ?_
  refine fz_pk [1, 0, 2, 3] rfl ?_
  exact lJ7_fill_23  x 80 0 (by omega) a (fun j h => by omega)
theorem lJ7_fill_4 {G : fz_G} {E0 : Nat → fz_E} (f : Nat → Nat → Int64) (g : Nat) (hg : g < 2) (x : Int64) : ∀ q i, i + q = 10 → ∀ a : Nat → Int64, (∀ j, j < i → a j = x) → fz_J G mJ7_fill_d0a16 rJ7_fill_d0a16 (fz_Z G E0 0 0 (fun r U => r = none ∧ ∃ a' : Nat → Int64, (∀ j, j < 10 → a' j = x) ∧ U = [(4, zl 1 2 10 (va_up f g a'))])) E0 0 0 6 [(3, zI (nI i)), (4, zI (nI 10)), (0, zR 4 g), (1, zL x)] [] [(4, zl 1 2 10 (va_up f g a))] := by
  intro q
  induction q with
  | zero =>
    intro i hi a ha
    have e : i = 10 := by omega
    subst e
    refine fz_iload_n dJ7_fill_d0a16_6 rfl ?_
    refine fz_iload dJ7_fill_d0a16_7 rfl ?_
    refine fz_icmp_ge (tgt := 22) dJ7_fill_d0a16_9 (by decide) (fun c => ?_) (fun c => ?_)
    · skip
      refine fz_vret dJ7_fill_d0a16_22 rfl (Nat.zero_le _) (Nat.zero_le _) ⟨rfl, a, ha, rfl⟩
    · exact absurd (nI_le (Nat.le_refl _) (by omega)) c
  | succ q ih =>
    intro i hi a ha
    refine fz_iload_n dJ7_fill_d0a16_6 rfl ?_
    refine fz_iload dJ7_fill_d0a16_7 rfl ?_
    refine fz_icmp_ge (tgt := 22) dJ7_fill_d0a16_9 (by decide) (fun c => ?_) (fun c => ?_)
    · exact absurd ((nI_leI (by omega) (by omega)).mp c) (by omega)
    · skip
      refine fz_aload_n dJ7_fill_d0a16_12 rfl ?_
      refine fz_iload_n dJ7_fill_d0a16_13 rfl ?_
      refine fz_lload_n dJ7_fill_d0a16_14 rfl ?_
      refine fz_lastu dJ7_fill_d0a16_15 rfl rfl (hg) (vp_in_nI (by omega) (by omega)) ?_
      refine fz_incN dJ7_fill_d0a16_16 rfl (Nat.le_of_ble_eq_true rfl) ?_
      refine fz_goto (tgt := 6) dJ7_fill_d0a16_19 (by decide) ?_
      refine ih (i + 1) (by omega) _ (fun j hj => ?_)
      rw [nI_clamp (by omega)]
      by_cases h : j = i
      · rw [h, pk_uLs]
      · rw [pk_uLn h]
        exact ha j (by omega)
theorem tJ7_fill_4 {G : fz_G} (f : Nat → Nat → Int64) (g : Nat) (hg : g < 2) (x : Int64) (a : Nat → Int64) : fz_T G mJ7_fill_d0a16 rJ7_fill_d0a16 [zR 4 g, zL x] [(4, zl 1 2 10 (va_up f g a))] (fun r U => r = none ∧ ∃ a' : Nat → Int64, (∀ j, j < 10 → a' j = x) ∧ U = [(4, zl 1 2 10 (va_up f g a'))]) := by
  refine fz_T.of (by decide) (Nat.le_of_ble_eq_true rfl) (fun E0 => ?_)
  refine fz_iconst (v := nI 0) dJ7_fill_d0a16_0 (by decide) ?_
  refine fz_istore_n dJ7_fill_d0a16_1 (Nat.le_of_ble_eq_true rfl) ?_
  refine fz_aload_n dJ7_fill_d0a16_2 rfl ?_
  refine fz_alen_zl dJ7_fill_d0a16_3 rfl rfl (hg) rfl ?_
  refine fz_istore dJ7_fill_d0a16_4 (Nat.le_of_ble_eq_true rfl) ?_
  refine fz_pk [1, 0, 2, 3] rfl ?_
  exact lJ7_fill_4 f g hg x 10 0 (by omega) a (fun j h => by omega)
end
section
/-! THE MAP: its moves; FleetController$Grid's small methods -/
/-- the cell to which move m leads from cell c, in a map of cn cells in lines of w -/
def nx (cn w c m : Nat) : Option Nat := if m = 0 then some c else if m = 1 then (if w ≤ c then some (c - w) else none) else if m = 2 then (if c % w + 1 < w then some (c + 1) else none) else if m = 3 then (if c + w < cn then some (c + w) else none) else (if 0 < c % w then some (c - 1) else none)
/-- whether move m can be made from cell c: neither is a wall -/
def opb (cn w : Nat) (kn : Nat → Nat) (c m : Nat) : Bool := !(kn c == 0) && (match nx cn w c m with
  | none => false
  | some d => !(kn d == 0))
def stI (w m : Nat) : Int32 := if m = 0 then 0 else if m = 1 then -(nI w) else if m = 2 then 1 else if m = 3 then nI w else -1
abbrev eGr (sz wd : Nat → Int32) : fz_E := zo 1 2 (fun g => [zR 3 g, zR 4 g, zR 5 g, zR 6 g, zR 7 g, zI (sz g), zI (wd g)])
abbrev e5 (f : Nat → Nat → Int32) : fz_E := zi 0 2 5 f
abbrev e8 (f : Nat → Nat → Int32) : fz_E := zi 0 2 80 f
abbrev eL (f : Nat → Nat → Int64) : fz_E := zl 1 2 10 f
theorem tX1_size {G : fz_G} (g : Nat) (hg : g < 2) (sz wd : Nat → Int32) : fz_T G mX1_size rX1_size [zR 2 g] [(2, eGr sz wd)] (fun r U => r = some (zI (sz g)) ∧ U = [(2, eGr sz wd)]) := by
  refine fz_T.of (by decide) (Nat.le_of_ble_eq_true rfl) (fun E0 => ?_)
  refine fz_aload_n dX1_size_0 rfl ?_
  refine fz_get dX1_size_1 fX1_28 rfl (hg) rfl ?_
  refine fz_iret dX1_size_4 rfl (Nat.zero_le _) (Nat.zero_le _) ⟨rfl, rfl⟩
theorem tX1_has_in {G : fz_G} (g : Nat) (hg : g < 2) (sz wd : Nat → Int32) (cn : Nat) (hs : sz g = nI cn) (hc : cn ≤ 80) (j : Nat) (hj : j < cn) : fz_T G mX1_has rX1_has [zR 2 g, zI (nI j)] [(2, eGr sz wd)] (fun r U => r = some (zI 1) ∧ U = [(2, eGr sz wd)]) := by
  refine fz_T.of (by decide) (Nat.le_of_ble_eq_true rfl) (fun E0 => ?_)
  refine fz_iload_n dX1_has_0 rfl ?_
  refine fz_if_lt (tgt := 16) dX1_has_1 (by decide) (fun c => ?_) (fun c => ?_)
  · exact absurd c (nI_pos (by omega))
  · skip
    refine fz_iload_n dX1_has_4 rfl ?_
    refine fz_aload_n dX1_has_5 rfl ?_
    refine fz_get dX1_has_6 fX1_28 rfl (hg) rfl ?_
    rw [hs]
    refine fz_icmp_ge (tgt := 16) dX1_has_9 (by decide) (fun c9 => ?_) (fun c9 => ?_)
    · exact absurd ((nI_leI (by omega) (by omega)).mp c9) (by omega)
    · skip
      refine fz_iconst (v := nI 1) dX1_has_12 (by decide) ?_
      refine fz_goto (tgt := 17) dX1_has_13 (by decide) ?_
      refine fz_zret dX1_has_17 rfl (by decide) (Nat.zero_le _) (Nat.zero_le _) ⟨rfl, rfl⟩
theorem tX1_has_out {G : fz_G} (g : Nat) (hg : g < 2) (sz wd : Nat → Int32) (x : Int32) (hx : x < 0 ∨ sz g ≤ x) : fz_T G mX1_has rX1_has [zR 2 g, zI x] [(2, eGr sz wd)] (fun r U => r = some (zI 0) ∧ U = [(2, eGr sz wd)]) := by
  refine fz_T.of (by decide) (Nat.le_of_ble_eq_true rfl) (fun E0 => ?_)
  refine fz_iload_n dX1_has_0 rfl ?_
  refine fz_if_lt (tgt := 16) dX1_has_1 (by decide) (fun c => ?_) (fun c => ?_)
  · skip
    refine fz_iconst (v := nI 0) dX1_has_16 (by decide) ?_
    refine fz_zret dX1_has_17 rfl (by decide) (Nat.zero_le _) (Nat.zero_le _) ⟨rfl, rfl⟩
  · skip
    refine fz_iload_n dX1_has_4 rfl ?_
    refine fz_aload_n dX1_has_5 rfl ?_
    refine fz_get dX1_has_6 fX1_28 rfl (hg) rfl ?_
    refine fz_icmp_ge (tgt := 16) dX1_has_9 (by decide) (fun c9 => ?_) (fun c9 => ?_)
    · skip
      refine fz_iconst (v := nI 0) dX1_has_16 (by decide) ?_
      refine fz_zret dX1_has_17 rfl (by decide) (Nat.zero_le _) (Nat.zero_le _) ⟨rfl, rfl⟩
    · exact absurd (hx.resolve_left c) c9
theorem tX1_kindAt_in {G : fz_G} (g : Nat) (hg : g < 2) (sz wd : Nat → Int32) (ki : Nat → Nat → Int32) (cn : Nat) (hs : sz g = nI cn) (hc : cn ≤ 80) (j : Nat) (hj : j < cn) : fz_T G mX1_kindAt rX1_kindAt [zR 2 g, zI (nI j)] [(2, eGr sz wd), (5, e8 ki)] (fun r U => r = some (zI (ki g j)) ∧ U = [(2, eGr sz wd), (5, e8 ki)]) := by
  refine fz_T.of (by decide) (Nat.le_of_ble_eq_true rfl) (fun E0 => ?_)
  refine fz_aload_n dX1_kindAt_0 rfl ?_
  refine fz_iload_n dX1_kindAt_1 rfl ?_
  refine fz_callV (tX1_has_in g hg sz wd cn hs hc j hj) dX1_kindAt_2 kX1_32 rfl (hg) ⟨rfl, trivial⟩ (Nat.le_of_ble_eq_true rfl) (Nat.le_of_ble_eq_true rfl) (Nat.le_of_ble_eq_true rfl) (Nat.le_of_ble_eq_true rfl) (Nat.le_of_ble_eq_true rfl) rfl (fun r U hq => ?_)
  obtain ⟨rfl, rfl⟩ := hq
  refine fz_back rfl ?_
  refine fz_if_eq (tgt := 17) dX1_kindAt_5 (by decide) (fun c => ?_) (fun c => ?_)
  · exact absurd c (by decide)
  · skip
    refine fz_aload_n dX1_kindAt_8 rfl ?_
    refine fz_get dX1_kindAt_9 fX1_19 rfl (hg) rfl ?_
    refine fz_iload_n dX1_kindAt_12 rfl ?_
    refine fz_iald dX1_kindAt_13 rfl rfl (hg) (vp_in_nI (by omega) (by omega)) ?_
    refine fz_goto (tgt := 18) dX1_kindAt_14 (by decide) ?_
    rw [nI_clamp (by omega)]
    refine fz_iret dX1_kindAt_18 rfl (Nat.zero_le _) (Nat.zero_le _) ⟨rfl, rfl⟩
theorem tX1_kindAt_out {G : fz_G} (g : Nat) (hg : g < 2) (sz wd : Nat → Int32) (ki : Nat → Nat → Int32) (x : Int32) (hx : x < 0 ∨ sz g ≤ x) : fz_T G mX1_kindAt rX1_kindAt [zR 2 g, zI x] [(2, eGr sz wd), (5, e8 ki)] (fun r U => r = some (zI (-1)) ∧ U = [(2, eGr sz wd), (5, e8 ki)]) := by
  refine fz_T.of (by decide) (Nat.le_of_ble_eq_true rfl) (fun E0 => ?_)
  refine fz_aload_n dX1_kindAt_0 rfl ?_
  refine fz_iload_n dX1_kindAt_1 rfl ?_
  refine fz_callV (tX1_has_out g hg sz wd x hx) dX1_kindAt_2 kX1_32 rfl (hg) ⟨rfl, trivial⟩ (Nat.le_of_ble_eq_true rfl) (Nat.le_of_ble_eq_true rfl) (Nat.le_of_ble_eq_true rfl) (Nat.le_of_ble_eq_true rfl) (Nat.le_of_ble_eq_true rfl) rfl (fun r U hq => ?_)
  obtain ⟨rfl, rfl⟩ := hq
  refine fz_back rfl ?_
  refine fz_if_eq (tgt := 17) dX1_kindAt_5 (by decide) (fun c => ?_) (fun c => ?_)
  · skip
    refine fz_iconst (v := -1) dX1_kindAt_17 (by decide) ?_
    refine fz_iret dX1_kindAt_18 rfl (Nat.zero_le _) (Nat.zero_le _) ⟨rfl, rfl⟩
  · exact absurd rfl c
theorem tX1_isPlace {G : fz_G} (g : Nat) (hg : g < 2) (sz wd : Nat → Int32) (ki : Nat → Nat → Int32) (j b : Nat) (hj : j < 80) (hb : b < 2 ^ 31) (hk : ki g j = nI b) : fz_T G mX1_isPlace rX1_isPlace [zR 2 g, zI (nI j)] [(2, eGr sz wd), (5, e8 ki)] (fun r U => r = some (zI (if 1 < b then 1 else 0)) ∧ U = [(2, eGr sz wd), (5, e8 ki)]) := by
  refine fz_T.of (by decide) (Nat.le_of_ble_eq_true rfl) (fun E0 => ?_)
  refine fz_aload_n dX1_isPlace_0 rfl ?_
  refine fz_get dX1_isPlace_1 fX1_19 rfl (hg) rfl ?_
  refine fz_iload_n dX1_isPlace_4 rfl ?_
  refine fz_iald dX1_isPlace_5 rfl rfl (hg) (vp_in_nI hj (by omega)) ?_
  refine fz_iconst (v := nI 1) dX1_isPlace_6 (by decide) ?_
  rw [nI_clamp (by omega), hk]
  refine fz_icmp_le (tgt := 14) dX1_isPlace_7 (by decide) (fun c => ?_) (fun c => ?_)
  · have h : ¬ 1 < b := by have := (nI_leI (by omega) (by omega)).mp c; omega
    refine fz_iconst (v := nI 0) dX1_isPlace_14 (by decide) ?_
    refine fz_zret dX1_isPlace_15 rfl (by decide) (Nat.zero_le _) (Nat.zero_le _) ⟨by rw [if_neg h]; rfl, rfl⟩
  · have h : 1 < b := by
      rcases Nat.lt_or_ge 1 b with z | z
      · exact z
      · exact absurd (nI_le z (by omega)) c
    refine fz_iconst (v := nI 1) dX1_isPlace_10 (by decide) ?_
    refine fz_goto (tgt := 15) dX1_isPlace_11 (by decide) ?_
    refine fz_zret dX1_isPlace_15 rfl (by decide) (Nat.zero_le _) (Nat.zero_le _) ⟨by rw [if_pos h]; rfl, rfl⟩
theorem tX1_measured {G : fz_G} (g : Nat) (hg : g < 2) (sz wd : Nat → Int32) (fa : Nat → Nat → Int32) (j : Nat) (hj : j < 80) : fz_T G mX1_measured rX1_measured [zR 2 g, zI (nI j)] [(2, eGr sz wd), (6, e8 fa)] (fun r U => r = some (zI (fa g j)) ∧ U = [(2, eGr sz wd), (6, e8 fa)]) := by
  refine fz_T.of (by decide) (Nat.le_of_ble_eq_true rfl) (fun E0 => ?_)
  refine fz_aload_n dX1_measured_0 rfl ?_
  refine fz_get dX1_measured_1 fX1_22 rfl (hg) rfl ?_
  refine fz_iload_n dX1_measured_4 rfl ?_
  refine fz_iald dX1_measured_5 rfl rfl (hg) (vp_in_nI hj (by omega)) ?_
  rw [nI_clamp (by omega)]
  refine fz_iret dX1_measured_6 rfl (Nat.zero_le _) (Nat.zero_le _) ⟨rfl, rfl⟩
theorem max_w {w : Nat} (h0 : 0 < w) (hw : w ≤ 10) : (if nI w < nI 1 then nI 1 else nI w) = nI w := by
  rw [if_neg]
  intro z
  have := (nI_ltI (by omega) (by omega)).mp z
  omega
theorem tX1_placeInText {G : fz_G} (g : Nat) (hg : g < 2) (sz wd : Nat → Int32) (w j : Nat) (h0 : 0 < w) (hw : w ≤ 10) (hd : wd g = nI w) (hj : j < 80) : fz_T G mX1_placeInText rX1_placeInText [zR 2 g, zI (nI j)] [(2, eGr sz wd)] (fun r U => r = some (zI (nI (j + j / w))) ∧ U = [(2, eGr sz wd)]) := by
  refine fz_T.of (by decide) (Nat.le_of_ble_eq_true rfl) (fun E0 => ?_)
  refine fz_iload_n dX1_placeInText_0 rfl ?_
  refine fz_iload_n dX1_placeInText_1 rfl ?_
  refine fz_aload_n dX1_placeInText_2 rfl ?_
  refine fz_get dX1_placeInText_3 fX1_36 rfl (hg) rfl ?_
  refine fz_iconst (v := nI 1) dX1_placeInText_6 (by decide) ?_
  refine fz_max dX1_placeInText_7 oX1_39 (Nat.le_of_ble_eq_true rfl) (Nat.le_of_ble_eq_true rfl) (Nat.zero_le _) (Nat.zero_le _) ?_
  rw [hd]
  refine fz_top (max_w h0 hw) ?_
  refine fz_idiv dX1_placeInText_10 (nI_ne0 h0 (by omega)) ?_
  refine fz_top (pk_div (by omega) h0 (by omega)) ?_
  refine fz_iadd dX1_placeInText_11 ?_
  rw [nI_add]
  refine fz_iret dX1_placeInText_12 rfl (Nat.zero_le _) (Nat.zero_le _) ⟨rfl, rfl⟩
theorem shr6 {j : Nat} (hj : j < 80) : nI j >>> (nI 6 &&& 31) = nI (j / 64) := by
  have h : (((nI 6 &&& 31 : Int32)).toBitVec.smod 32).toNat = 6 := by decide
  exact pk_shrN (by omega) _ 6 h
theorem ix_om {m j : Nat} (hm : m < 5) (hj : j < 80) : nI 2 * nI m + nI (j / 64) = nI (2 * m + j / 64) := by rw [nI_mul, nI_add]
theorem tX1_isOpen {G : fz_G} (g : Nat) (hg : g < 2) (sz wd : Nat → Int32) (op : Nat → Nat → Int64) (j m : Nat) (hj : j < 80) (hm : m < 5) : fz_T G mX1_isOpen rX1_isOpen [zR 2 g, zI (nI j), zI (nI m)] [(2, eGr sz wd), (4, eL op)] (fun r U => r = some (zI (if bl (op g (2 * m + j / 64)) (j % 64) then 1 else 0)) ∧ U = [(2, eGr sz wd), (4, eL op)]) := by
  refine fz_T.of (by decide) (Nat.le_of_ble_eq_true rfl) (fun E0 => ?_)
  refine fz_aload_n dX1_isOpen_0 rfl ?_
  refine fz_get dX1_isOpen_1 fX1_15 rfl (hg) rfl ?_
  refine fz_iconst (v := nI 2) dX1_isOpen_4 (by decide) ?_
  refine fz_iload_n dX1_isOpen_5 rfl ?_
  refine fz_imul dX1_isOpen_6 ?_
  refine fz_iload_n dX1_isOpen_7 rfl ?_
  refine fz_bipush (v := nI 6) dX1_isOpen_8 (by decide) ?_
  refine fz_ishr dX1_isOpen_10 ?_
  rw [shr6 hj]
  refine fz_iadd dX1_isOpen_11 ?_
  rw [ix_om hm hj]
  refine fz_lald dX1_isOpen_12 rfl rfl (hg) (vp_in_nI (by omega) (by omega)) ?_
  refine fz_iload_n dX1_isOpen_13 rfl ?_
  refine fz_lushr dX1_isOpen_14 ?_
  refine fz_lconst (v := 1) dX1_isOpen_15 (by decide) ?_
  refine fz_land dX1_isOpen_16 ?_
  rw [nI_clamp (by omega)]
  refine fz_topL (bl_test _ (by omega)) ?_
  refine fz_lconst (v := 0) dX1_isOpen_17 (by decide) ?_
  refine fz_lcmp dX1_isOpen_18 ?_
  refine fz_if_eq (tgt := 26) dX1_isOpen_19 (by decide) (fun c => ?_) (fun c => ?_)
  · have c := (lg_cmp_eq _ _).mp c
    refine fz_iconst (v := nI 0) dX1_isOpen_26 (by decide) ?_
    refine fz_zret dX1_isOpen_27 rfl (by decide) (Nat.zero_le _) (Nat.zero_le _) ⟨?_, rfl⟩
    split at c
    · exact absurd c (by decide)
    · rename_i h
      rw [if_neg h]; rfl
  · have c := fun z => c ((lg_cmp_eq _ _).mpr z)
    refine fz_iconst (v := nI 1) dX1_isOpen_22 (by decide) ?_
    refine fz_goto (tgt := 27) dX1_isOpen_23 (by decide) ?_
    refine fz_zret dX1_isOpen_27 rfl (by decide) (Nat.zero_le _) (Nat.zero_le _) ⟨?_, rfl⟩
    split at c
    · rename_i h
      rw [if_pos h]; rfl
    · exact absurd rfl c
end
section
/-! THE MAP'S MOVES: leadsOn, findOpenMoves, isMove -/
/-- the grid's numbers are the map's: cells, line length, kinds -/
def gK (cn w : Nat) (kn : Nat → Nat) (sz wd : Int32) (ki : Nat → Int32) : Prop := 0 < w ∧ w ≤ 10 ∧ cn ≤ 80 ∧ (∃ h, cn = w * h) ∧ sz = nI cn ∧ wd = nI w ∧ ∀ c, c < cn → ki c = nI (kn c) ∧ kn c ≤ 4
def gS (w : Nat) (st : Nat → Int32) : Prop := ∀ m, m < 5 → st m = stI w m
def gO (cn w : Nat) (kn : Nat → Nat) (op : Nat → Int64) : Prop := ∀ m j i, m < 5 → j < 2 → i < 64 → bl (op (2 * m + j)) i = (decide (64 * j + i < cn) && opb cn w kn (64 * j + i) m)
theorem nx_lt {cn w c m d : Nat} (h0 : 0 < w) (hh : ∃ h, cn = w * h) (hc : c < cn) (h : nx cn w c m = some d) : d < cn := by
  unfold nx at h
  split at h
  · cases h; exact hc
  · split at h
    · split at h
      · cases h; omega
      · cases h
    · split at h
      · split at h
        · rename_i _ _ _ h3
          cases h
          obtain ⟨q, rfl⟩ := hh
          have h1 : c / w < q := Nat.div_lt_of_lt_mul hc
          have h2 : w * (c / w) + c % w = c := Nat.div_add_mod c w
          have h4 : w * (c / w + 1) ≤ w * q := Nat.mul_le_mul_left w h1
          rw [Nat.mul_add] at h4
          omega
        · cases h
      · split at h
        · split at h
          · cases h; assumption
          · cases h
        · split at h
          · cases h; omega
          · cases h
theorem nI_addneg {a b : Nat} (h : b ≤ a) : nI a + -(nI b) = nI (a - b) := by
  rw [← Int32.sub_eq_add_neg]
  exact pk_sub h
theorem nI_neg1 {a : Nat} (h : 0 < a) : nI a + -1 = nI (a - 1) := by
  have := nI_addneg (a := a) (b := 1) h
  exact this
/-- where a move leads, in the grid's own numbers -/
theorem nx_st {cn w c m d : Nat} (h : nx cn w c m = some d) (hm : m < 5) : nI c + stI w m = nI d := by
  unfold nx at h
  unfold stI
  split at h
  · rename_i h1
    cases h
    rw [if_pos h1]
    exact Int32.add_zero _
  · rename_i h1
    rw [if_neg h1]
    split at h
    · rename_i h2
      rw [if_pos h2]
      split at h
      · rename_i h3
        cases h
        exact nI_addneg h3
      · cases h
    · rename_i h2
      rw [if_neg h2]
      split at h
      · rename_i h3
        rw [if_pos h3]
        split at h
        · cases h
          exact nI_1 c
        · cases h
      · rename_i h3
        rw [if_neg h3]
        split at h
        · rename_i h4
          rw [if_pos h4]
          split at h
          · cases h
            exact nI_add c w
          · cases h
        · rename_i h4
          rw [if_neg h4]
          split at h
          · rename_i h5
            cases h
            have : 0 < c := by
              rcases Nat.eq_zero_or_pos c with z | z
              · rw [z, Nat.zero_mod] at h5; omega
              · exact z
            exact nI_neg1 this
          · cases h
theorem lX1_leadsOn {G : fz_G} {E0 : Nat → fz_E} {ls : List (Nat × fz_V)} (g : Nat) (hg : g < 2) (sz wd : Nat → Int32) (st ki : Nat → Nat → Int32) (cn w : Nat) (kn : Nat → Nat) (hK : gK cn w kn (sz g) (wd g) (ki g)) (hS : gS w (st g)) (j m : Nat) (hj : j < cn) (hm : m < 5) (h0 : ¬ kn j = 0) (x : Int32)
    (hl : fz_lo ls 0 = some (zR 2 g) ∧ fz_lo ls 1 = some (zI (nI j)) ∧ fz_lo ls 2 = some (zI (nI m)))
    (hcol : ¬ (m = 2 ∧ ¬ j % w + 1 < w) ∧ ¬ (m = 4 ∧ j % w = 0)) :
    fz_J G mX1_leadsOn rX1_leadsOn (fz_Z G E0 rX1_leadsOn.cells rX1_leadsOn.slots (fun r U => r = some (zI (if opb cn w kn j m then 1 else 0)) ∧ U = [(2, eGr sz wd), (3, e5 st), (5, e8 ki)])) E0 0 0 46 ls [] [(2, eGr sz wd), (3, e5 st), (5, e8 ki)] := by
  obtain ⟨k1, k2, k3, k4, k5, k6, k7⟩ := hK
  obtain ⟨l0, l1, l2⟩ := hl
  refine fz_aload_n dX1_leadsOn_46 l0 ?_
  refine fz_iload_n dX1_leadsOn_47 l1 ?_
  refine fz_aload_n dX1_leadsOn_48 l0 ?_
  refine fz_get dX1_leadsOn_49 fX1_9 rfl (hg) rfl ?_
  refine fz_iload_n dX1_leadsOn_52 l2 ?_
  refine fz_iald dX1_leadsOn_53 rfl rfl (hg) (vp_in_nI hm (by omega)) ?_
  refine fz_iadd dX1_leadsOn_54 ?_
  rw [nI_clamp (by omega), hS m hm]
  cases hn : nx cn w j m with
  | some d =>
    have hd := nx_lt k1 k4 hj hn
    rw [nx_st hn hm]
    refine fz_callV (tX1_kindAt_in g hg sz wd ki cn k5 k3 d hd) dX1_leadsOn_55 kX1_70 rfl (hg) ⟨rfl, rfl, trivial⟩ (Nat.le_of_ble_eq_true rfl) (Nat.le_of_ble_eq_true rfl) (Nat.le_of_ble_eq_true rfl) (Nat.le_of_ble_eq_true rfl) (Nat.le_of_ble_eq_true rfl) rfl (fun r U hq => ?_)
    obtain ⟨rfl, rfl⟩ := hq
    refine fz_back rfl ?_
    rw [(k7 d hd).1]
    have ho : opb cn w kn j m = !(kn d == 0) := by unfold opb; rw [hn]; simp [h0]
    have hle := (k7 d hd).2
    refine fz_if_le (tgt := 65) dX1_leadsOn_58 (by decide) (fun c => ?_) (fun c => ?_)
    · have hz : kn d = 0 := by
        rcases Nat.eq_zero_or_pos (kn d) with z | z
        · exact z
        · exact absurd c (nI_nle z (by omega))
      refine fz_iconst (v := nI 0) dX1_leadsOn_65 (by decide) ?_
      refine fz_zret dX1_leadsOn_66 rfl (by decide) (Nat.zero_le _) (Nat.zero_le _) ⟨by rw [ho, hz]; rfl, rfl⟩
    · have hz : ¬ kn d = 0 := fun z => c (by rw [z, nI_0]; decide)
      refine fz_iconst (v := nI 1) dX1_leadsOn_61 (by decide) ?_
      refine fz_goto (tgt := 66) dX1_leadsOn_62 (by decide) ?_
      refine fz_zret dX1_leadsOn_66 rfl (by decide) (Nat.zero_le _) (Nat.zero_le _) ⟨by rw [ho]; simp [hz]; rfl, rfl⟩
  | none =>
    have ho : opb cn w kn j m = false := by unfold opb; rw [hn]; simp
    have hout : nI j + stI w m < 0 ∨ sz g ≤ nI j + stI w m := by
      unfold nx at hn
      unfold stI
      split at hn
      · cases hn
      · rename_i h1
        rw [if_neg h1]
        split at hn
        · rename_i h2
          rw [if_pos h2]
          split at hn
          · cases hn
          · rename_i h3
            refine Or.inl ?_
            rw [← Int32.sub_eq_add_neg]
            exact pk_sneg (by omega) (by omega)
        · rename_i h2
          rw [if_neg h2]
          split at hn
          · rename_i h3
            split at hn
            · cases hn
            · rename_i h4
              exact absurd ⟨h3, h4⟩ hcol.1
          · rename_i h3
            rw [if_neg h3]
            split at hn
            · rename_i h4
              rw [if_pos h4]
              split at hn
              · cases hn
              · rename_i h5
                refine Or.inr ?_
                rw [k5, nI_add]
                exact nI_le (by omega) (by omega)
            · rename_i h4
              split at hn
              · cases hn
              · rename_i h5
                exact absurd ⟨by omega, by omega⟩ hcol.2
    refine fz_callV (tX1_kindAt_out g hg sz wd ki _ hout) dX1_leadsOn_55 kX1_70 rfl (hg) ⟨rfl, rfl, trivial⟩ (Nat.le_of_ble_eq_true rfl) (Nat.le_of_ble_eq_true rfl) (Nat.le_of_ble_eq_true rfl) (Nat.le_of_ble_eq_true rfl) (Nat.le_of_ble_eq_true rfl) rfl (fun r U hq => ?_)
    obtain ⟨rfl, rfl⟩ := hq
    refine fz_back rfl ?_
    refine fz_if_le (tgt := 65) dX1_leadsOn_58 (by decide) (fun c => ?_) (fun c => ?_)
    · skip
      refine fz_iconst (v := nI 0) dX1_leadsOn_65 (by decide) ?_
      refine fz_zret dX1_leadsOn_66 rfl (by decide) (Nat.zero_le _) (Nat.zero_le _) ⟨by rw [ho]; rfl, rfl⟩
    · exact absurd (by decide) c
theorem tX1_leadsOn {G : fz_G} (g : Nat) (hg : g < 2) (sz wd : Nat → Int32) (st ki : Nat → Nat → Int32) (cn w : Nat) (kn : Nat → Nat) (hK : gK cn w kn (sz g) (wd g) (ki g)) (hS : gS w (st g)) (j m : Nat) (hj : j < cn) (hm : m < 5) :
    fz_T G mX1_leadsOn rX1_leadsOn [zR 2 g, zI (nI j), zI (nI m)] [(2, eGr sz wd), (3, e5 st), (5, e8 ki)] (fun r U => r = some (zI (if opb cn w kn j m then 1 else 0)) ∧ U = [(2, eGr sz wd), (3, e5 st), (5, e8 ki)]) := by
  refine fz_T.of (by decide) (Nat.le_of_ble_eq_true rfl) (fun E0 => ?_)
  have hK' := hK
  obtain ⟨k1, k2, k3, k4, k5, k6, k7⟩ := hK
  have hml : j % w < w := Nat.mod_lt _ k1
  refine fz_iload_n dX1_leadsOn_0 rfl ?_
  refine fz_aload_n dX1_leadsOn_1 rfl ?_
  refine fz_get dX1_leadsOn_2 fX1_36 rfl (hg) rfl ?_
  refine fz_iconst (v := nI 1) dX1_leadsOn_5 (by decide) ?_
  refine fz_max dX1_leadsOn_6 oX1_39 (Nat.le_of_ble_eq_true rfl) (Nat.le_of_ble_eq_true rfl) (Nat.zero_le _) (Nat.zero_le _) ?_
  rw [k6]
  refine fz_top (max_w k1 k2) ?_
  refine fz_irem dX1_leadsOn_9 (nI_ne0 k1 (by omega)) ?_
  refine fz_top (pk_rem (by omega) k1 (by omega)) ?_
  refine fz_istore_n dX1_leadsOn_10 (Nat.le_of_ble_eq_true rfl) ?_
  refine fz_aload_n dX1_leadsOn_11 rfl ?_
  refine fz_get dX1_leadsOn_12 fX1_19 rfl (hg) rfl ?_
  refine fz_iload_n dX1_leadsOn_15 rfl ?_
  refine fz_iald dX1_leadsOn_16 rfl rfl (hg) (vp_in_nI (by omega) (by omega)) ?_
  rw [nI_clamp (by omega), (k7 j hj).1]
  have hle := (k7 j hj).2
  refine fz_if_eq (tgt := 44) dX1_leadsOn_17 (by decide) (fun c17 => ?_) (fun c17 => ?_)
  · have hz : kn j = 0 := (nI_eq (by omega) (by omega)).mp c17
    refine fz_iconst (v := nI 0) dX1_leadsOn_44 (by decide) ?_
    refine fz_zret dX1_leadsOn_45 rfl (by decide) (Nat.zero_le _) (Nat.zero_le _) ⟨by unfold opb; rw [hz]; rfl, rfl⟩
  · have hz : ¬ kn j = 0 := fun z => c17 (by rw [z]; exact nI_0)
    refine fz_iload_n dX1_leadsOn_20 rfl ?_
    refine fz_iconst (v := nI 2) dX1_leadsOn_21 (by decide) ?_
    refine fz_icmp_ne (tgt := 35) dX1_leadsOn_22 (by decide) (fun c22 => ?_) (fun c22 => ?_)
    · have h2 : ¬ m = 2 := fun z => c22 (by rw [z])
      refine fz_iload_n dX1_leadsOn_35 rfl ?_
      refine fz_iconst (v := nI 4) dX1_leadsOn_36 (by decide) ?_
      refine fz_icmp_ne (tgt := 46) dX1_leadsOn_37 (by decide) (fun c37 => ?_) (fun c37 => ?_)
      · have h4 : ¬ m = 4 := fun z => c37 (by rw [z])
        exact lX1_leadsOn g hg sz wd st ki cn w kn hK' hS j m hj hm hz 0 ⟨rfl, rfl, rfl⟩ ⟨by omega, by omega⟩
      · have h4 : m = 4 := (nI_eq (by omega) (by omega)).mp c37
        refine fz_iload_n dX1_leadsOn_40 rfl ?_
        refine fz_if_ne (tgt := 46) dX1_leadsOn_41 (by decide) (fun c41 => ?_) (fun c41 => ?_)
        · have h5 : ¬ j % w = 0 := fun z => c41 (by rw [z]; exact nI_0)
          exact lX1_leadsOn g hg sz wd st ki cn w kn hK' hS j m hj hm hz 0 ⟨rfl, rfl, rfl⟩ ⟨by omega, by omega⟩
        · have h5 : j % w = 0 := (nI_eq (by omega) (by omega)).mp c41
          refine fz_iconst (v := nI 0) dX1_leadsOn_44 (by decide) ?_
          refine fz_zret dX1_leadsOn_45 rfl (by decide) (Nat.zero_le _) (Nat.zero_le _) ⟨by unfold opb nx; subst h4; simp [h5]; rfl, rfl⟩
    · have h2 : m = 2 := (nI_eq (by omega) (by omega)).mp c22
      refine fz_iload_n dX1_leadsOn_25 rfl ?_
      refine fz_aload_n dX1_leadsOn_26 rfl ?_
      refine fz_get dX1_leadsOn_27 fX1_36 rfl (hg) rfl ?_
      refine fz_iconst (v := nI 1) dX1_leadsOn_30 (by decide) ?_
      rw [k6]
      refine fz_isub dX1_leadsOn_31 ?_
      rw [pk_sub (by omega)]
      refine fz_icmp_eq (tgt := 44) dX1_leadsOn_32 (by decide) (fun c32 => ?_) (fun c32 => ?_)
      · have h5 : j % w = w - 1 := (nI_eq (by omega) (by omega)).mp c32
        refine fz_iconst (v := nI 0) dX1_leadsOn_44 (by decide) ?_
        have h6 : ¬ j % w + 1 < w := by omega
        refine fz_zret dX1_leadsOn_45 rfl (by decide) (Nat.zero_le _) (Nat.zero_le _) ⟨by unfold opb nx; subst h2; simp [h6]; rfl, rfl⟩
      · have h5 : ¬ j % w = w - 1 := fun z => c32 (by rw [z])
        refine fz_iload_n dX1_leadsOn_35 rfl ?_
        refine fz_iconst (v := nI 4) dX1_leadsOn_36 (by decide) ?_
        refine fz_icmp_ne (tgt := 46) dX1_leadsOn_37 (by decide) (fun c37 => ?_) (fun c37 => ?_)
        · exact lX1_leadsOn g hg sz wd st ki cn w kn hK' hS j m hj hm hz 0 ⟨rfl, rfl, rfl⟩ ⟨by omega, by omega⟩
        · have h4 : m = 4 := (nI_eq (by omega) (by omega)).mp c37
          omega
end
section
/-! THE MAP'S MOVES AS BITS: findOpenMoves, isMove -/
/-- the bits of all moves from cells before c, and of those before m from c -/
def gOi (cn w : Nat) (kn : Nat → Nat) (c0 m0 : Nat) (o : Nat → Int64) : Prop := ∀ m j i, m < 5 → j < 2 → i < 64 → bl (o (2 * m + j)) i = (decide (64 * j + i < c0 ∨ (64 * j + i = c0 ∧ m < m0)) && opb cn w kn (64 * j + i) m)
theorem lX1_fom_20 {G : fz_G} {E0 : Nat → fz_E} {Z : List Frame → Array Value → State → State → Prop} (g : Nat) (hg : g < 2) (sz wd : Nat → Int32) (st ki : Nat → Nat → Int32) (op : Nat → Nat → Int64) (cn w : Nat) (kn : Nat → Nat) (hK : gK cn w kn (sz g) (wd g) (ki g)) (hS : gS w (st g)) (c : Nat) (hc : c < cn)
    (kk : ∀ o, gOi cn w kn c 5 o → fz_J G mX1_findOpenMoves rX1_findOpenMoves Z E0 0 0 59 [(2, zI (nI 5)), (1, zI (nI c)), (0, zR 2 g)] [] [(2, eGr sz wd), (3, e5 st), (4, eL (va_up op g o)), (5, e8 ki)]) :
    ∀ q m, m + q = 5 → ∀ o, gOi cn w kn c m o → fz_J G mX1_findOpenMoves rX1_findOpenMoves Z E0 0 0 20 [(2, zI (nI m)), (1, zI (nI c)), (0, zR 2 g)] [] [(2, eGr sz wd), (3, e5 st), (4, eL (va_up op g o)), (5, e8 ki)] := by
  intro q
  have hc80 : c < 80 := by have := hK.2.2.1; omega
  induction q with
  | zero =>
    intro m hm o ho
    have e : m = 5 := by omega
    subst e
    refine fz_iload_n dX1_findOpenMoves_20 rfl ?_
    refine fz_iconst (v := nI 5) dX1_findOpenMoves_21 (by decide) ?_
    refine fz_icmp_ge (tgt := 59) dX1_findOpenMoves_22 (by decide) (fun c22 => ?_) (fun c22 => ?_)
    · exact kk o ho
    · exact absurd (nI_le (Nat.le_refl _) (by omega)) c22
  | succ q ih =>
    intro m hm o ho
    refine fz_iload_n dX1_findOpenMoves_20 rfl ?_
    refine fz_iconst (v := nI 5) dX1_findOpenMoves_21 (by decide) ?_
    refine fz_icmp_ge (tgt := 59) dX1_findOpenMoves_22 (by decide) (fun c22 => ?_) (fun c22 => ?_)
    · exact absurd ((nI_leI (by omega) (by omega)).mp c22) (by omega)
    · skip
      refine fz_aload_n dX1_findOpenMoves_25 rfl ?_
      refine fz_iload_n dX1_findOpenMoves_26 rfl ?_
      refine fz_iload_n dX1_findOpenMoves_27 rfl ?_
      refine fz_callV (tX1_leadsOn g hg sz wd st ki cn w kn hK hS c m hc (by omega)) dX1_findOpenMoves_28 kX1_66 rfl (hg) ⟨rfl, rfl, rfl, trivial⟩ (Nat.le_of_ble_eq_true rfl) (Nat.le_of_ble_eq_true rfl) (Nat.le_of_ble_eq_true rfl) (Nat.le_of_ble_eq_true rfl) (Nat.le_of_ble_eq_true rfl) rfl (fun r U hq => ?_)
      obtain ⟨rfl, rfl⟩ := hq
      refine fz_back rfl ?_
      refine fz_wo (V' := [(2, eGr sz wd), (3, e5 st), (4, eL (va_up op g o)), (5, e8 ki)]) rfl ?_
      cases hb : opb cn w kn c m with
      | false =>
        refine fz_if_eq (tgt := 53) dX1_findOpenMoves_31 (by decide) (fun c31 => ?_) (fun c31 => ?_)
        · skip
          refine fz_incN dX1_findOpenMoves_53 rfl (Nat.le_of_ble_eq_true rfl) ?_
          refine fz_goto (tgt := 20) dX1_findOpenMoves_56 (by decide) ?_
          refine ih (m + 1) (by omega) o (fun m' j i h1 h2 h3 => ?_)
          rw [ho m' j i h1 h2 h3]
          by_cases hx : 64 * j + i = c ∧ m' = m
          · obtain ⟨hx1, hx2⟩ := hx
            subst hx2
            rw [hx1, hb]; simp
          · congr 1
            simp only [decide_eq_decide]
            omega
        · exact absurd rfl c31
      | true =>
        refine fz_if_eq (tgt := 53) dX1_findOpenMoves_31 (by decide) (fun c31 => ?_) (fun c31 => ?_)
        · exact absurd c31 (by decide)
        · skip
          refine fz_aload_n dX1_findOpenMoves_34 rfl ?_
          refine fz_get dX1_findOpenMoves_35 fX1_15 rfl (hg) rfl ?_
          refine fz_iconst (v := nI 2) dX1_findOpenMoves_38 (by decide) ?_
          refine fz_iload_n dX1_findOpenMoves_39 rfl ?_
          refine fz_imul dX1_findOpenMoves_40 ?_
          refine fz_iload_n dX1_findOpenMoves_41 rfl ?_
          refine fz_bipush (v := nI 6) dX1_findOpenMoves_42 (by decide) ?_
          refine fz_ishr dX1_findOpenMoves_44 ?_
          rw [shr6 hc80]
          refine fz_iadd dX1_findOpenMoves_45 ?_
          rw [ix_om (by omega) hc80]
          refine fz_dup2_11 dX1_findOpenMoves_46 rfl rfl ?_
          refine fz_laldu dX1_findOpenMoves_47 rfl rfl (hg) (vp_in_nI (by omega) (by omega)) ?_
          refine fz_lconst (v := 1) dX1_findOpenMoves_48 (by decide) ?_
          refine fz_iload_n dX1_findOpenMoves_49 rfl ?_
          refine fz_lshl dX1_findOpenMoves_50 ?_
          refine fz_lor dX1_findOpenMoves_51 ?_
          refine fz_lastu dX1_findOpenMoves_52 rfl rfl (hg) (vp_in_nI (by omega) (by omega)) ?_
          refine fz_incN dX1_findOpenMoves_53 rfl (Nat.le_of_ble_eq_true rfl) ?_
          refine fz_goto (tgt := 20) dX1_findOpenMoves_56 (by decide) ?_
          refine ih (m + 1) (by omega) _ (fun m' j i h1 h2 h3 => ?_)
          rw [nI_clamp (by omega)]
          by_cases hx : 2 * m' + j = 2 * m + c / 64
          · rw [hx, pk_uLs, bl_or, bl_1shl (by omega) h3, ← hx, ho m' j i h1 h2 h3]
            by_cases hi : i = c % 64
            · have e1 : 64 * j + i = c := by omega
              have e2 : m' = m := by omega
              rw [e1, e2, hb]
              simp [hi]
            · have e1 : ¬ 64 * j + i = c := by omega
              simp only [hi, decide_false, Bool.or_false, e1, false_and]
          · rw [pk_uLn hx, ho m' j i h1 h2 h3]
            congr 1
            simp only [decide_eq_decide]
            omega
theorem lX1_fom_10 {G : fz_G} {E0 : Nat → fz_E} (g : Nat) (hg : g < 2) (sz wd : Nat → Int32) (st ki : Nat → Nat → Int32) (op : Nat → Nat → Int64) (cn w : Nat) (kn : Nat → Nat) (hK : gK cn w kn (sz g) (wd g) (ki g)) (hS : gS w (st g)) :
    ∀ q c, c + q = cn → ∀ o, gOi cn w kn c 0 o → ∀ ls, fz_lo ls 1 = some (zI (nI c)) → fz_lo ls 0 = some (zR 2 g) → (∃ ps : List Nat, ∀ v, ps.filterMap (fun i => (fz_s1 ls 2 v)[i]?) = [(2, v), (1, zI (nI c)), (0, zR 2 g)]) → fz_J G mX1_findOpenMoves rX1_findOpenMoves (fz_Z G E0 0 0 (fun r U => r = none ∧ ∃ o', gO cn w kn o' ∧ U = [(2, eGr sz wd), (3, e5 st), (4, eL (va_up op g o')), (5, e8 ki)])) E0 0 0 10 ls [] [(2, eGr sz wd), (3, e5 st), (4, eL (va_up op g o)), (5, e8 ki)] := by
  intro q
  have hK' := hK
  obtain ⟨k1, k2, k3, k4, k5, k6, k7⟩ := hK
  induction q with
  | zero =>
    intro c hc o ho ls l1 l0 hps
    have e : c = cn := by omega
    subst e
    refine fz_iload_n dX1_findOpenMoves_10 l1 ?_
    refine fz_aload_n dX1_findOpenMoves_11 l0 ?_
    refine fz_get dX1_findOpenMoves_12 fX1_28 rfl (hg) rfl ?_
    rw [k5]
    refine fz_icmp_ge (tgt := 65) dX1_findOpenMoves_15 (by decide) (fun c15 => ?_) (fun c15 => ?_)
    · skip
      refine fz_vret dX1_findOpenMoves_65 rfl (Nat.zero_le _) (Nat.zero_le _) ⟨rfl, o, fun m j i h1 h2 h3 => by rw [ho m j i h1 h2 h3]; simp, rfl⟩
    · exact absurd (nI_le (Nat.le_refl _) (by omega)) c15
  | succ q ih =>
    intro c hc o ho ls l1 l0 hps
    obtain ⟨ps, hps⟩ := hps
    refine fz_iload_n dX1_findOpenMoves_10 l1 ?_
    refine fz_aload_n dX1_findOpenMoves_11 l0 ?_
    refine fz_get dX1_findOpenMoves_12 fX1_28 rfl (hg) rfl ?_
    rw [k5]
    refine fz_icmp_ge (tgt := 65) dX1_findOpenMoves_15 (by decide) (fun c15 => ?_) (fun c15 => ?_)
    · exact absurd ((nI_leI (by omega) (by omega)).mp c15) (by omega)
    · skip
      refine fz_iconst (v := nI 0) dX1_findOpenMoves_18 (by decide) ?_
      refine fz_istore_n dX1_findOpenMoves_19 (Nat.le_of_ble_eq_true rfl) ?_
      refine fz_pk ps (hps _) ?_
      refine lX1_fom_20 g hg sz wd st ki op cn w kn hK' hS c (by omega) (fun o2 ho2 => ?_) 5 0 rfl o ho
      refine fz_incN dX1_findOpenMoves_59 rfl (Nat.le_of_ble_eq_true rfl) ?_
      refine fz_goto (tgt := 10) dX1_findOpenMoves_62 (by decide) ?_
      refine ih (c + 1) (by omega) o2 (fun m j i h1 h2 h3 => ?_) _ rfl rfl ⟨[0, 1, 2], fun v => rfl⟩
      rw [ho2 m j i h1 h2 h3]
      congr 1
      simp only [decide_eq_decide]
      omega
theorem tX1_findOpenMoves {G : fz_G} (g : Nat) (hg : g < 2) (sz wd : Nat → Int32) (st ki : Nat → Nat → Int32) (op : Nat → Nat → Int64) (o : Nat → Int64) (cn w : Nat) (kn : Nat → Nat) (hK : gK cn w kn (sz g) (wd g) (ki g)) (hS : gS w (st g)) :
    fz_T G mX1_findOpenMoves rX1_findOpenMoves [zR 2 g] [(2, eGr sz wd), (3, e5 st), (4, eL (va_up op g o)), (5, e8 ki)] (fun r U => r = none ∧ ∃ o', gO cn w kn o' ∧ U = [(2, eGr sz wd), (3, e5 st), (4, eL (va_up op g o')), (5, e8 ki)]) := by
  refine fz_T.of (by decide) (Nat.le_of_ble_eq_true rfl) (fun E0 => ?_)
  refine fz_aload_n dX1_findOpenMoves_0 rfl ?_
  refine fz_get dX1_findOpenMoves_1 fX1_15 rfl (hg) rfl ?_
  refine fz_lconst (v := 0) dX1_findOpenMoves_4 (by decide) ?_
  refine fz_callS (tJ7_fill_4 op g hg 0 o) dX1_findOpenMoves_5 kX1_60 ⟨rfl, trivial⟩ (Nat.le_of_ble_eq_true rfl) (Nat.le_of_ble_eq_true rfl) (Nat.le_of_ble_eq_true rfl) (Nat.le_of_ble_eq_true rfl) (Nat.le_of_ble_eq_true rfl) rfl (fun r U hq => ?_)
  obtain ⟨rfl, o1, ho1, rfl⟩ := hq
  refine fz_back rfl ?_
  refine fz_wo (V' := [(2, eGr sz wd), (3, e5 st), (4, eL (va_up op g o1)), (5, e8 ki)]) rfl ?_
  refine fz_iconst (v := nI 0) dX1_findOpenMoves_8 (by decide) ?_
  refine fz_istore_n dX1_findOpenMoves_9 (Nat.le_of_ble_eq_true rfl) ?_
  refine lX1_fom_10 g hg sz wd st ki op cn w kn hK hS cn 0 (by omega) o1 (fun m j i h1 h2 h3 => ?_) _ rfl rfl ⟨[0, 1, 2], fun v => rfl⟩
  rw [ho1 _ (by omega), bl_0]
  simp
end
section
/-! THE MAP OUT OF THE TEXT: load; isMove; hasAllKinds -/
/-- how many cells the first k signs are -/
def ldc (tx : Nat → Nat) : Nat → Nat
  | 0 => 0
  | k + 1 => ldc tx k + if kd (tx k) = 5 then 0 else 1
/-- and what they are -/
def ldk (tx : Nat → Nat) : Nat → Nat → Nat
  | 0 => fun _ => 0
  | k + 1 => fun c => if ¬ kd (tx k) = 5 ∧ c = ldc tx k then kd (tx k) else ldk tx k c
theorem ldc_mono (tx : Nat → Nat) (k : Nat) : ∀ d, ldc tx k ≤ ldc tx (k + d)
  | 0 => Nat.le_refl _
  | d + 1 => by
    have := ldc_mono tx k d
    show ldc tx k ≤ ldc tx (k + d) + _
    omega
theorem ldk_same (tx : Nat → Nat) (k : Nat) : ∀ d, ldc tx (k + d) = ldc tx k → ∀ c, ldk tx (k + d) c = ldk tx k c
  | 0, _, _ => rfl
  | d + 1, h, c => by
    have h1 := ldc_mono tx k d
    have h2 : ldc tx (k + d) + (if kd (tx (k + d)) = 5 then 0 else 1) = ldc tx k := h
    by_cases h5 : kd (tx (k + d)) = 5
    · rw [if_pos h5] at h2
      show (if ¬ kd (tx (k + d)) = 5 ∧ c = ldc tx (k + d) then kd (tx (k + d)) else ldk tx (k + d) c) = _
      rw [if_neg (fun z => z.1 h5)]
      exact ldk_same tx k d (by omega) c
    · rw [if_neg h5] at h2
      omega
theorem ldk_le (tx : Nat → Nat) : ∀ k, (∀ j, j < k → ¬ kd (tx j) = 9) → ∀ c, ldk tx k c ≤ 4
  | 0, _, _ => Nat.zero_le _
  | k + 1, h, c => by
    show (if ¬ kd (tx k) = 5 ∧ c = ldc tx k then kd (tx k) else ldk tx k c) ≤ 4
    split
    · rename_i h1
      have h2 := h k (by omega)
      have h3 := h1.1
      rcases kd_cases (tx k) with z | z | z | z | z | z | z <;> omega
    · exact ldk_le tx k (fun j hj => h j (by omega)) c
section FZG
variable {G : fz_G} {M : fz_M} {R : Room} {Z : List Frame → Array Value → State → State → Prop} {E0 : Nat → fz_E} {cs sl pc : Nat} {ls : List (Nat × fz_V)} {st : List fz_V} {V : fz_W}
theorem fz_putSz {idx g : Nat} {sz wd : Nat → Int32} {a x : Int32} (hd : decode M.2.1 pc = .ok (.putfield idx, 3)) (hF : fz_F M.1.cls idx 1 5 .int false) (hV : fz_lk V 2 = some (eGr (va_up sz g a) wd)) (hg : g < 2) (k : fz_J G M R Z E0 cs sl (pc + 3) ls st (fz_st V 2 (eGr (va_up sz g x) wd))) : fz_J G M R Z E0 cs sl pc ls (zI x :: zR 2 g :: st) V :=
  fz_put _ hd hF hV hg (Nat.le_of_ble_eq_true rfl) ⟨rfl, rfl⟩ (by simp [va_up_self]) (fun i' _ h2 => by simp only [va_up_ne _ _ h2]) k
theorem fz_putWd {idx g : Nat} {sz wd : Nat → Int32} {a x : Int32} (hd : decode M.2.1 pc = .ok (.putfield idx, 3)) (hF : fz_F M.1.cls idx 1 6 .int false) (hV : fz_lk V 2 = some (eGr sz (va_up wd g a))) (hg : g < 2) (k : fz_J G M R Z E0 cs sl (pc + 3) ls st (fz_st V 2 (eGr sz (va_up wd g x)))) : fz_J G M R Z E0 cs sl pc ls (zI x :: zR 2 g :: st) V :=
  fz_put _ hd hF hV hg (Nat.le_of_ble_eq_true rfl) ⟨rfl, rfl⟩ (by simp [va_up_self]) (fun i' _ h2 => by simp only [va_up_ne _ _ h2]) k
end FZG
abbrev wLd (sz wd : Nat → Int32) (g : Nat) (a b : Int32) (st : Nat → Nat → Int32) (s : Nat → Int32) (ki : Nat → Nat → Int32) (k : Nat → Int32) (op : Nat → Nat → Int64) (o : Nat → Int64) (tx sg : fz_E) : fz_W := [(2, eGr (va_up sz g a) (va_up wd g b)), (3, e5 (va_up st g s)), (4, eL (va_up op g o)), (5, e8 (va_up ki g k)), (8, tx), (9, sg)]
theorem lX1_load_15 {G : fz_G} {E0 : Nat → fz_E} {Z : List Frame → Array Value → State → State → Prop} (g : Nat) (hg : g < 2) (sz wd : Nat → Int32) (b : Int32) (st ki : Nat → Nat → Int32) (s : Nat → Int32) (op : Nat → Nat → Int64) (o : Nat → Int64) (n : Nat) (hn : n ≤ 90) (tw tl tc tf : Int32) (sg : Nat → Int32) (tx : Nat → Nat) (ht : tq sg tx n) (h9 : ∀ j, j < n → ¬ kd (tx j) = 9) (h80 : ldc tx n ≤ 80)
    (kk : ∀ (k : Nat → Int32) (ls : List (Nat × fz_V)), (∀ c, c < ldc tx n → k c = nI (ldk tx n c)) → fz_lo ls 0 = some (zR 2 g) → fz_J G mX1_load rX1_load Z E0 0 0 69 ls [] (wLd sz wd g (nI (ldc tx n)) b st s ki k op o (eTx (nI n) tw tl tc tf) (eSg sg))) :
    ∀ q i, i + q = n → ∀ k : Nat → Int32, (∀ c, c < ldc tx i → k c = nI (ldk tx i c)) → fz_J G mX1_load rX1_load Z E0 0 0 15 [(2, zI (nI i)), (0, zR 2 g), (1, zR 8 0)] [] (wLd sz wd g (nI (ldc tx i)) b st s ki k op o (eTx (nI n) tw tl tc tf) (eSg sg)) := by
  intro q
  induction q with
  | zero =>
    intro i hi k hk
    have e : i = n := by omega
    subst e
    refine fz_iload_n dX1_load_15 rfl ?_
    refine fz_aload_n dX1_load_16 rfl ?_
    refine fz_callV (tX2_length (nI i) tw tl tc tf) dX1_load_17 kX1_50 rfl (Nat.one_pos) ⟨rfl, trivial⟩ (Nat.le_of_ble_eq_true rfl) (Nat.le_of_ble_eq_true rfl) (Nat.le_of_ble_eq_true rfl) (Nat.le_of_ble_eq_true rfl) (Nat.le_of_ble_eq_true rfl) rfl (fun r U hq => ?_)
    obtain ⟨rfl, rfl⟩ := hq
    refine fz_back rfl ?_
    refine fz_wo (V' := wLd sz wd g (nI (ldc tx i)) b st s ki k op o (eTx (nI i) tw tl tc tf) (eSg sg)) rfl ?_
    refine fz_icmp_ge (tgt := 69) dX1_load_20 (by decide) (fun c20 => ?_) (fun c20 => ?_)
    · exact kk k _ hk rfl
    · exact absurd (nI_le (Nat.le_refl _) (by omega)) c20
  | succ q ih =>
    intro i hi k hk
    obtain ⟨hs, hb⟩ := ht i (by omega)
    refine fz_iload_n dX1_load_15 rfl ?_
    refine fz_aload_n dX1_load_16 rfl ?_
    refine fz_callV (tX2_length (nI n) tw tl tc tf) dX1_load_17 kX1_50 rfl (Nat.one_pos) ⟨rfl, trivial⟩ (Nat.le_of_ble_eq_true rfl) (Nat.le_of_ble_eq_true rfl) (Nat.le_of_ble_eq_true rfl) (Nat.le_of_ble_eq_true rfl) (Nat.le_of_ble_eq_true rfl) rfl (fun r U hq => ?_)
    obtain ⟨rfl, rfl⟩ := hq
    refine fz_back rfl ?_
    refine fz_wo (V' := wLd sz wd g (nI (ldc tx i)) b st s ki k op o (eTx (nI n) tw tl tc tf) (eSg sg)) rfl ?_
    have hmo : ldc tx i ≤ ldc tx n := by
      have := ldc_mono tx i (q + 1)
      rw [hi] at this
      exact this
    refine fz_icmp_ge (tgt := 69) dX1_load_20 (by decide) (fun c20 => ?_) (fun c20 => ?_)
    · exact absurd ((nI_leI (by omega) (by omega)).mp c20) (by omega)
    · skip
      refine fz_aload_n dX1_load_23 rfl ?_
      refine fz_get dX1_load_24 fX1_28 rfl (hg) rfl ?_
      refine fz_bipush (v := nI 80) dX1_load_27 (by decide) ?_
      rw [va_up_self]
      refine fz_icmp_ge (tgt := 69) dX1_load_29 (by decide) (fun c29 => ?_) (fun c29 => ?_)
      · have h8 : 80 ≤ ldc tx i := (nI_leI (by omega) (by omega)).mp c29
        have he : ldc tx n = ldc tx i := by omega
        have hk2 := ldk_same tx i (q + 1) (by rw [hi]; exact he)
        rw [hi] at hk2
        rw [← he]
        exact kk k _ (fun c hc => by rw [hk2 c]; exact hk c (by omega)) rfl
      · have h8 : ldc tx i < 80 := by
          rcases Nat.lt_or_ge (ldc tx i) 80 with z | z
          · exact z
          · exact absurd (nI_le z (by omega)) c29
        refine fz_aload_n dX1_load_32 rfl ?_
        refine fz_iload_n dX1_load_33 rfl ?_
        refine fz_callV (tX2_kindOf (nI n) tw tl tc tf sg i (tx i) (by omega) hs hb) dX1_load_34 kX1_53 rfl (Nat.one_pos) ⟨rfl, rfl, trivial⟩ (Nat.le_of_ble_eq_true rfl) (Nat.le_of_ble_eq_true rfl) (Nat.le_of_ble_eq_true rfl) (Nat.le_of_ble_eq_true rfl) (Nat.le_of_ble_eq_true rfl) rfl (fun r U hq => ?_)
        obtain ⟨rfl, rfl⟩ := hq
        refine fz_back rfl ?_
        refine fz_wo (V' := wLd sz wd g (nI (ldc tx i)) b st s ki k op o (eTx (nI n) tw tl tc tf) (eSg sg)) rfl ?_
        rw [kI_ne (h9 i (by omega))]
        refine fz_istore_n dX1_load_37 (Nat.le_of_ble_eq_true rfl) ?_
        refine fz_iload_n dX1_load_38 rfl ?_
        refine fz_iconst (v := nI 5) dX1_load_39 (by decide) ?_
        refine fz_icmp_eq (tgt := 63) dX1_load_40 (by decide) (fun c40 => ?_) (fun c40 => ?_)
        · have h5 : kd (tx i) = 5 := (nI_eq (by have := kd_le (tx i); omega) (by omega)).mp c40
          refine fz_incN dX1_load_63 rfl (Nat.le_of_ble_eq_true rfl) ?_
          refine fz_goto (tgt := 15) dX1_load_66 (by decide) ?_
          refine fz_pk [0, 2, 3] rfl ?_
          have e1 : ldc tx (i + 1) = ldc tx i := by show ldc tx i + _ = _; rw [if_pos h5]; rfl
          rw [← e1]
          refine ih (i + 1) (by omega) k (fun c hc => ?_)
          show k c = nI (if ¬ kd (tx i) = 5 ∧ c = ldc tx i then kd (tx i) else ldk tx i c)
          rw [if_neg (fun z => z.1 h5)]
          exact hk c (by omega)
        · have h5 : ¬ kd (tx i) = 5 := fun z => c40 (by rw [z])
          refine fz_aload_n dX1_load_43 rfl ?_
          refine fz_get dX1_load_44 fX1_19 rfl (hg) rfl ?_
          refine fz_aload_n dX1_load_47 rfl ?_
          refine fz_get dX1_load_48 fX1_28 rfl (hg) rfl ?_
          rw [va_up_self]
          refine fz_iload_n dX1_load_51 rfl ?_
          refine fz_iastu dX1_load_52 rfl rfl (hg) (vp_in_nI h8 (by omega)) ?_
          refine fz_aload_n dX1_load_53 rfl ?_
          refine fz_dup dX1_load_54 rfl ?_
          refine fz_get dX1_load_55 fX1_28 rfl (hg) rfl ?_
          rw [va_up_self, nI_clamp (by omega)]
          refine fz_iconst (v := nI 1) dX1_load_58 (by decide) ?_
          refine fz_iadd dX1_load_59 ?_
          rw [nI_add]
          refine fz_putSz dX1_load_60 fX1_28 rfl hg ?_
          refine fz_incN dX1_load_63 rfl (Nat.le_of_ble_eq_true rfl) ?_
          refine fz_goto (tgt := 15) dX1_load_66 (by decide) ?_
          refine fz_pk [0, 2, 3] rfl ?_
          have e1 : ldc tx (i + 1) = ldc tx i + 1 := by show ldc tx i + _ = _; rw [if_neg h5]
          rw [← e1]
          refine ih (i + 1) (by omega) (upd k (ldc tx i) (nI (kd (tx i)))) (fun c hc => ?_)
          show _ = nI (if ¬ kd (tx i) = 5 ∧ c = ldc tx i then kd (tx i) else ldk tx i c)
          by_cases h : c = ldc tx i
          · rw [if_pos ⟨h5, h⟩, h, pk_us]
          · rw [if_neg (fun z => h z.2), pk_un h]
            exact hk c (by omega)
theorem stI_of (w : Nat) (s : Nat → Int32) : gS w (upd (upd (upd (upd (upd s 0 (nI 0)) 1 (-(nI w))) 2 (nI 1)) 3 (nI w)) 4 (-1)) := by
  intro m hm
  have h5 : m = 0 ∨ m = 1 ∨ m = 2 ∨ m = 3 ∨ m = 4 := by omega
  rcases h5 with rfl | rfl | rfl | rfl | rfl
  · rw [pk_un (by decide), pk_un (by decide), pk_un (by decide), pk_un (by decide), pk_us]; rfl
  · rw [pk_un (by decide), pk_un (by decide), pk_un (by decide), pk_us]; rfl
  · rw [pk_un (by decide), pk_un (by decide), pk_us]; rfl
  · rw [pk_un (by decide), pk_us]; rfl
  · rw [pk_us]; rfl
theorem tX1_load {G : fz_G} (g : Nat) (hg : g < 2) (sz wd : Nat → Int32) (a b : Int32) (st ki : Nat → Nat → Int32) (s k : Nat → Int32) (op : Nat → Nat → Int64) (o : Nat → Int64) (n w : Nat) (hn : n ≤ 90) (h0 : 0 < w) (hw : w ≤ 10) (tl tc tf : Int32) (sg : Nat → Int32) (tx : Nat → Nat) (ht : tq sg tx n) (h9 : ∀ j, j < n → ¬ kd (tx j) = 9) (h80 : ldc tx n ≤ 80) (hh : ∃ h, ldc tx n = w * h) :
    fz_T G mX1_load rX1_load [zR 2 g, zR 8 0] (wLd sz wd g a b st s ki k op o (eTx (nI n) (nI w) tl tc tf) (eSg sg)) (fun r U => r = none ∧ ∃ (s' k' : Nat → Int32) (o' : Nat → Int64), gK (ldc tx n) w (ldk tx n) (nI (ldc tx n)) (nI w) k' ∧ gS w s' ∧ gO (ldc tx n) w (ldk tx n) o' ∧ U = wLd sz wd g (nI (ldc tx n)) (nI w) st s' ki k' op o' (eTx (nI n) (nI w) tl tc tf) (eSg sg)) := by
  refine fz_T.of (by decide) (Nat.le_of_ble_eq_true rfl) (fun E0 => ?_)
  refine fz_aload_n dX1_load_0 rfl ?_
  refine fz_iconst (v := nI 0) dX1_load_1 (by decide) ?_
  refine fz_putSz dX1_load_2 fX1_28 rfl hg ?_
  refine fz_aload_n dX1_load_5 rfl ?_
  refine fz_aload_n dX1_load_6 rfl ?_
  refine fz_callV (tX2_width (nI n) (nI w) tl tc tf) dX1_load_7 kX1_45 rfl (Nat.one_pos) ⟨rfl, trivial⟩ (Nat.le_of_ble_eq_true rfl) (Nat.le_of_ble_eq_true rfl) (Nat.le_of_ble_eq_true rfl) (Nat.le_of_ble_eq_true rfl) (Nat.le_of_ble_eq_true rfl) rfl (fun r U hq => ?_)
  obtain ⟨rfl, rfl⟩ := hq
  refine fz_back rfl ?_
  refine fz_wo (V' := wLd sz wd g (nI 0) b st s ki k op o (eTx (nI n) (nI w) tl tc tf) (eSg sg)) rfl ?_
  refine fz_putWd dX1_load_10 fX1_36 rfl hg ?_
  refine fz_iconst (v := nI 0) dX1_load_13 (by decide) ?_
  refine fz_istore_n dX1_load_14 (Nat.le_of_ble_eq_true rfl) ?_
  refine lX1_load_15 g hg sz wd (nI w) st ki s op o n hn (nI w) tl tc tf sg tx ht h9 h80 (fun k2 ls hk2 l0 => ?_) n 0 (by omega) k (fun c hc => absurd hc (Nat.not_lt_zero _))
  refine fz_aload_n dX1_load_69 l0 ?_
  refine fz_get dX1_load_70 fX1_9 rfl (hg) rfl ?_
  refine fz_iconst (v := nI 0) dX1_load_73 (by decide) ?_
  refine fz_iconst (v := nI 0) dX1_load_74 (by decide) ?_
  refine fz_iastu dX1_load_75 rfl rfl (hg) (vp_in_nI (by omega) (by omega)) ?_
  refine fz_aload_n dX1_load_76 l0 ?_
  refine fz_get dX1_load_77 fX1_9 rfl (hg) rfl ?_
  refine fz_iconst (v := nI 1) dX1_load_80 (by decide) ?_
  refine fz_aload_n dX1_load_81 l0 ?_
  refine fz_get dX1_load_82 fX1_36 rfl (hg) rfl ?_
  rw [va_up_self]
  refine fz_ineg dX1_load_85 ?_
  refine fz_iastu dX1_load_86 rfl rfl (hg) (vp_in_nI (by omega) (by omega)) ?_
  refine fz_aload_n dX1_load_87 l0 ?_
  refine fz_get dX1_load_88 fX1_9 rfl (hg) rfl ?_
  refine fz_iconst (v := nI 2) dX1_load_91 (by decide) ?_
  refine fz_iconst (v := nI 1) dX1_load_92 (by decide) ?_
  refine fz_iastu dX1_load_93 rfl rfl (hg) (vp_in_nI (by omega) (by omega)) ?_
  refine fz_aload_n dX1_load_94 l0 ?_
  refine fz_get dX1_load_95 fX1_9 rfl (hg) rfl ?_
  refine fz_iconst (v := nI 3) dX1_load_98 (by decide) ?_
  refine fz_aload_n dX1_load_99 l0 ?_
  refine fz_get dX1_load_100 fX1_36 rfl (hg) rfl ?_
  rw [va_up_self]
  refine fz_iastu dX1_load_103 rfl rfl (hg) (vp_in_nI (by omega) (by omega)) ?_
  refine fz_aload_n dX1_load_104 l0 ?_
  refine fz_get dX1_load_105 fX1_9 rfl (hg) rfl ?_
  refine fz_iconst (v := nI 4) dX1_load_108 (by decide) ?_
  refine fz_iconst (v := -1) dX1_load_109 (by decide) ?_
  refine fz_iastu dX1_load_110 rfl rfl (hg) (vp_in_nI (by omega) (by omega)) ?_
  refine fz_aload_n dX1_load_111 l0 ?_
  have hK : gK (ldc tx n) w (ldk tx n) (nI (ldc tx n)) (nI w) k2 := ⟨h0, hw, h80, hh, rfl, rfl, fun c hc => ⟨hk2 c hc, ldk_le tx n h9 c⟩⟩
  have hS := stI_of w s
  refine fz_wo (V' := wLd sz wd g (nI (ldc tx n)) (nI w) st (upd (upd (upd (upd (upd s 0 (nI 0)) 1 (-(nI w))) 2 (nI 1)) 3 (nI w)) 4 (-1)) ki k2 op o (eTx (nI n) (nI w) tl tc tf) (eSg sg)) rfl ?_
  refine fz_callV (tX1_findOpenMoves g hg (va_up sz g (nI (ldc tx n))) (va_up wd g (nI w)) (va_up st g (upd (upd (upd (upd (upd s 0 (nI 0)) 1 (-(nI w))) 2 (nI 1)) 3 (nI w)) 4 (-1))) (va_up ki g k2) op o (ldc tx n) w (ldk tx n) (by rw [va_up_self, va_up_self, va_up_self]; exact hK) (by rw [va_up_self]; exact hS)) dX1_load_112 kX1_57 rfl (hg) ⟨rfl, rfl, rfl, rfl, trivial⟩ (Nat.le_of_ble_eq_true rfl) (Nat.le_of_ble_eq_true rfl) (Nat.le_of_ble_eq_true rfl) (Nat.le_of_ble_eq_true rfl) (Nat.le_of_ble_eq_true rfl) rfl (fun r U hq => ?_)
  obtain ⟨rfl, o2, ho2, rfl⟩ := hq
  refine fz_back rfl ?_
  refine fz_vret dX1_load_115 rfl (Nat.zero_le _) (Nat.zero_le _) ⟨rfl, _, k2, o2, hK, hS, ho2, rfl⟩
end
section
/-! hasAllKinds, isMove -/
def hkd (kn : Nat → Nat) (v : Nat) : Nat → Bool
  | 0 => false
  | c + 1 => hkd kn v c || (kn c == v)
theorem msk_or : ∀ s, s < 32 → ∀ k, k < 5 → nI s ||| (nI 1 <<< (nI k &&& 31)) = nI (s ||| 2 ^ k) ∧ (s ||| 2 ^ k) < 32 ∧ ∀ v, v < 5 → (s ||| 2 ^ k).testBit v = (s.testBit v || (k == v)) := by decide +kernel
theorem msk_28 : ∀ s, s < 32 → ((nI s &&& nI 28) = nI 28 ↔ (s.testBit 2 && (s.testBit 3 && s.testBit 4)) = true) := by decide +kernel
theorem lX1_hasAllKinds {G : fz_G} {E0 : Nat → fz_E} (g : Nat) (hg : g < 2) (sz wd : Nat → Int32) (ki : Nat → Nat → Int32) (cn w : Nat) (kn : Nat → Nat) (hK : gK cn w kn (sz g) (wd g) (ki g)) :
    ∀ q c s, c + q = cn → s < 32 → (∀ v, v < 5 → s.testBit v = hkd kn v c) → fz_J G mX1_hasAllKinds rX1_hasAllKinds (fz_Z G E0 0 0 (fun r U => r = some (zI (if (hkd kn 2 cn && (hkd kn 3 cn && hkd kn 4 cn)) = true then 1 else 0)) ∧ U = [(2, eGr sz wd), (5, e8 ki)])) E0 0 0 4 [(2, zI (nI c)), (1, zI (nI s)), (0, zR 2 g)] [] [(2, eGr sz wd), (5, e8 ki)] := by
  intro q
  obtain ⟨k1, k2, k3, k4, k5, k6, k7⟩ := hK
  induction q with
  | zero =>
    intro c s hc hs hv
    have e : c = cn := by omega
    subst e
    refine fz_iload_n dX1_hasAllKinds_4 rfl ?_
    refine fz_aload_n dX1_hasAllKinds_5 rfl ?_
    refine fz_get dX1_hasAllKinds_6 fX1_28 rfl (hg) rfl ?_
    rw [k5]
    refine fz_icmp_ge (tgt := 29) dX1_hasAllKinds_9 (by decide) (fun c9 => ?_) (fun c9 => ?_)
    · skip
      refine fz_bipush (v := nI 28) dX1_hasAllKinds_29 (by decide) ?_
      refine fz_istore_n dX1_hasAllKinds_31 (Nat.le_of_ble_eq_true rfl) ?_
      refine fz_iload_n dX1_hasAllKinds_32 rfl ?_
      refine fz_iload_n dX1_hasAllKinds_33 rfl ?_
      refine fz_iand dX1_hasAllKinds_34 ?_
      refine fz_iload_n dX1_hasAllKinds_35 rfl ?_
      refine fz_icmp_ne (tgt := 43) dX1_hasAllKinds_36 (by decide) (fun c36 => ?_) (fun c36 => ?_)
      · skip
        refine fz_iconst (v := nI 0) dX1_hasAllKinds_43 (by decide) ?_
        refine fz_zret dX1_hasAllKinds_44 rfl (by decide) (Nat.zero_le _) (Nat.zero_le _) ⟨?_, rfl⟩
        have h := fun z => c36 ((msk_28 s hs).mpr z)
        rw [hv 2 (by omega), hv 3 (by omega), hv 4 (by omega)] at h
        rw [if_neg h]; rfl
      · skip
        refine fz_iconst (v := nI 1) dX1_hasAllKinds_39 (by decide) ?_
        refine fz_goto (tgt := 44) dX1_hasAllKinds_40 (by decide) ?_
        refine fz_zret dX1_hasAllKinds_44 rfl (by decide) (Nat.zero_le _) (Nat.zero_le _) ⟨?_, rfl⟩
        have h := (msk_28 s hs).mp c36
        rw [hv 2 (by omega), hv 3 (by omega), hv 4 (by omega)] at h
        rw [if_pos h]; rfl
    · exact absurd (nI_le (Nat.le_refl _) (by omega)) c9
  | succ q ih =>
    intro c s hc hs hv
    refine fz_iload_n dX1_hasAllKinds_4 rfl ?_
    refine fz_aload_n dX1_hasAllKinds_5 rfl ?_
    refine fz_get dX1_hasAllKinds_6 fX1_28 rfl (hg) rfl ?_
    rw [k5]
    refine fz_icmp_ge (tgt := 29) dX1_hasAllKinds_9 (by decide) (fun c9 => ?_) (fun c9 => ?_)
    · exact absurd ((nI_leI (by omega) (by omega)).mp c9) (by omega)
    · have hkc := k7 c (by omega)
      refine fz_iload_n dX1_hasAllKinds_12 rfl ?_
      refine fz_iconst (v := nI 1) dX1_hasAllKinds_13 (by decide) ?_
      refine fz_aload_n dX1_hasAllKinds_14 rfl ?_
      refine fz_get dX1_hasAllKinds_15 fX1_19 rfl (hg) rfl ?_
      refine fz_iload_n dX1_hasAllKinds_18 rfl ?_
      refine fz_iald dX1_hasAllKinds_19 rfl rfl (hg) (vp_in_nI (by omega) (by omega)) ?_
      rw [nI_clamp (by omega), hkc.1]
      obtain ⟨m1, m2, m3⟩ := msk_or s hs (kn c) (by omega)
      refine fz_ishl dX1_hasAllKinds_20 ?_
      refine fz_ior dX1_hasAllKinds_21 ?_
      rw [m1]
      refine fz_istore_n dX1_hasAllKinds_22 (Nat.le_of_ble_eq_true rfl) ?_
      refine fz_incN dX1_hasAllKinds_23 rfl (Nat.le_of_ble_eq_true rfl) ?_
      refine fz_goto (tgt := 4) dX1_hasAllKinds_26 (by decide) ?_
      refine ih (c + 1) (s ||| 2 ^ kn c) (by omega) m2 (fun v h => ?_)
      rw [m3 v h, hv v h]
      rfl
theorem tX1_hasAllKinds {G : fz_G} (g : Nat) (hg : g < 2) (sz wd : Nat → Int32) (ki : Nat → Nat → Int32) (cn w : Nat) (kn : Nat → Nat) (hK : gK cn w kn (sz g) (wd g) (ki g)) : fz_T G mX1_hasAllKinds rX1_hasAllKinds [zR 2 g] [(2, eGr sz wd), (5, e8 ki)] (fun r U => r = some (zI (if (hkd kn 2 cn && (hkd kn 3 cn && hkd kn 4 cn)) = true then 1 else 0)) ∧ U = [(2, eGr sz wd), (5, e8 ki)]) := by
  refine fz_T.of (by decide) (Nat.le_of_ble_eq_true rfl) (fun E0 => ?_)
  refine fz_iconst (v := nI 0) dX1_hasAllKinds_0 (by decide) ?_
  refine fz_istore_n dX1_hasAllKinds_1 (Nat.le_of_ble_eq_true rfl) ?_
  refine fz_iconst (v := nI 0) dX1_hasAllKinds_2 (by decide) ?_
  refine fz_istore_n dX1_hasAllKinds_3 (Nat.le_of_ble_eq_true rfl) ?_
  exact lX1_hasAllKinds g hg sz wd ki cn w kn hK cn 0 0 (by omega) (by omega) (fun v _ => by simp [hkd])
/-- whether some move from m on leads from a to b -/
def mvx (cn w : Nat) (kn : Nat → Nat) (a b : Nat) : Nat → Nat → Bool
  | 0, _ => false
  | q + 1, m => (opb cn w kn a m && decide (nx cn w a m = some b)) || mvx cn w kn a b q (m + 1)
theorem gO_at {cn w : Nat} {kn : Nat → Nat} {o : Nat → Int64} (h : gO cn w kn o) {c m : Nat} (hm : m < 5) (hc : c < cn) (h80 : cn ≤ 80) : bl (o (2 * m + c / 64)) (c % 64) = opb cn w kn c m := by
  rw [h m (c / 64) (c % 64) hm (by omega) (by omega), show 64 * (c / 64) + c % 64 = c by omega]
  simp [hc]
theorem opb_nx {cn w : Nat} {kn : Nat → Nat} {c m : Nat} (h : opb cn w kn c m = true) : ∃ d, nx cn w c m = some d := by
  unfold opb at h
  cases hn : nx cn w c m with
  | none => rw [hn] at h; simp at h
  | some d => exact ⟨d, rfl⟩
theorem lX1_isMove {G : fz_G} {E0 : Nat → fz_E} (g : Nat) (hg : g < 2) (sz wd : Nat → Int32) (st : Nat → Nat → Int32) (op : Nat → Nat → Int64) (cn w : Nat) (kn : Nat → Nat) (h0 : 0 < w) (h80 : cn ≤ 80) (hh : ∃ h, cn = w * h) (hS : gS w (st g)) (hO : gO cn w kn (op g)) (a b : Nat) (ha : a < cn) (hb : b < 2 ^ 31) :
    ∀ q m, m + q = 5 → fz_J G mX1_isMove rX1_isMove (fz_Z G E0 0 0 (fun r U => r = some (zI (if mvx cn w kn a b q m then 1 else 0)) ∧ U = [(2, eGr sz wd), (3, e5 st), (4, eL op)])) E0 0 0 2 [(3, zI (nI m)), (0, zR 2 g), (1, zI (nI a)), (2, zI (nI b))] [] [(2, eGr sz wd), (3, e5 st), (4, eL op)] := by
  intro q
  induction q with
  | zero =>
    intro m hm
    have e : m = 5 := by omega
    subst e
    refine fz_iload_n dX1_isMove_2 rfl ?_
    refine fz_iconst (v := nI 5) dX1_isMove_3 (by decide) ?_
    refine fz_icmp_ge (tgt := 36) dX1_isMove_4 (by decide) (fun c4 => ?_) (fun c4 => ?_)
    · skip
      refine fz_iconst (v := nI 0) dX1_isMove_36 (by decide) ?_
      refine fz_zret dX1_isMove_37 rfl (by decide) (Nat.zero_le _) (Nat.zero_le _) ⟨rfl, rfl⟩
    · exact absurd (nI_le (Nat.le_refl _) (by omega)) c4
  | succ q ih =>
    intro m hm
    have ih := ih (m + 1) (by omega)
    refine fz_iload_n dX1_isMove_2 rfl ?_
    refine fz_iconst (v := nI 5) dX1_isMove_3 (by decide) ?_
    refine fz_icmp_ge (tgt := 36) dX1_isMove_4 (by decide) (fun c4 => ?_) (fun c4 => ?_)
    · exact absurd ((nI_leI (by omega) (by omega)).mp c4) (by omega)
    · skip
      refine fz_aload_n dX1_isMove_7 rfl ?_
      refine fz_iload_n dX1_isMove_8 rfl ?_
      refine fz_iload_n dX1_isMove_9 rfl ?_
      refine fz_callV (tX1_isOpen g hg sz wd op a m (by omega) (by omega)) dX1_isMove_10 kX1_73 rfl (hg) ⟨rfl, rfl, trivial⟩ (Nat.le_of_ble_eq_true rfl) (Nat.le_of_ble_eq_true rfl) (Nat.le_of_ble_eq_true rfl) (Nat.le_of_ble_eq_true rfl) (Nat.le_of_ble_eq_true rfl) rfl (fun r U hq => ?_)
      obtain ⟨rfl, rfl⟩ := hq
      refine fz_back rfl ?_
      refine fz_wo (V' := [(2, eGr sz wd), (3, e5 st), (4, eL op)]) rfl ?_
      rw [gO_at hO (by omega) ha h80]
      cases ho : opb cn w kn a m with
      | false =>
        have e1 : mvx cn w kn a b (q + 1) m = mvx cn w kn a b q (m + 1) := by
          show ((opb cn w kn a m && _) || _) = _
          rw [ho]; simp
        rw [e1]
        refine fz_if_eq (tgt := 30) dX1_isMove_13 (by decide) (fun c13 => ?_) (fun c13 => ?_)
        · skip
          refine fz_incN dX1_isMove_30 rfl (Nat.le_of_ble_eq_true rfl) ?_
          refine fz_goto (tgt := 2) dX1_isMove_33 (by decide) ?_
          exact ih
        · exact absurd rfl c13
      | true =>
        obtain ⟨d, hd⟩ := opb_nx ho
        refine fz_if_eq (tgt := 30) dX1_isMove_13 (by decide) (fun c13 => ?_) (fun c13 => ?_)
        · exact absurd c13 (by decide)
        · skip
          refine fz_iload_n dX1_isMove_16 rfl ?_
          refine fz_aload_n dX1_isMove_17 rfl ?_
          refine fz_get dX1_isMove_18 fX1_9 rfl (hg) rfl ?_
          refine fz_iload_n dX1_isMove_21 rfl ?_
          refine fz_iald dX1_isMove_22 rfl rfl (hg) (vp_in_nI (by omega) (by omega)) ?_
          rw [nI_clamp (by omega), hS m (by omega)]
          refine fz_iadd dX1_isMove_23 ?_
          refine fz_iload_n dX1_isMove_24 rfl ?_
          rw [nx_st hd (by omega)]
          have hdl := nx_lt h0 hh ha hd
          refine fz_icmp_ne (tgt := 30) dX1_isMove_25 (by decide) (fun c25 => ?_) (fun c25 => ?_)
          · have hne : ¬ d = b := fun z => c25 (by rw [z])
            have e1 : mvx cn w kn a b (q + 1) m = mvx cn w kn a b q (m + 1) := by
              show ((opb cn w kn a m && decide (nx cn w a m = some b)) || _) = _
              rw [hd]; simp [hne]
            rw [e1]
            refine fz_incN dX1_isMove_30 rfl (Nat.le_of_ble_eq_true rfl) ?_
            refine fz_goto (tgt := 2) dX1_isMove_33 (by decide) ?_
            exact ih
          · have he : d = b := (nI_eq (by omega) hb).mp c25
            have e1 : mvx cn w kn a b (q + 1) m = true := by
              show ((opb cn w kn a m && decide (nx cn w a m = some b)) || _) = _
              rw [hd, ho]; simp [he]
            rw [e1]
            refine fz_iconst (v := nI 1) dX1_isMove_28 (by decide) ?_
            refine fz_zret dX1_isMove_29 rfl (by decide) (Nat.zero_le _) (Nat.zero_le _) ⟨rfl, rfl⟩
theorem tX1_isMove {G : fz_G} (g : Nat) (hg : g < 2) (sz wd : Nat → Int32) (st : Nat → Nat → Int32) (op : Nat → Nat → Int64) (cn w : Nat) (kn : Nat → Nat) (h0 : 0 < w) (h80 : cn ≤ 80) (hh : ∃ h, cn = w * h) (hS : gS w (st g)) (hO : gO cn w kn (op g)) (a b : Nat) (ha : a < cn) (hb : b < 2 ^ 31) :
    fz_T G mX1_isMove rX1_isMove [zR 2 g, zI (nI a), zI (nI b)] [(2, eGr sz wd), (3, e5 st), (4, eL op)] (fun r U => r = some (zI (if mvx cn w kn a b 5 0 then 1 else 0)) ∧ U = [(2, eGr sz wd), (3, e5 st), (4, eL op)]) := by
  refine fz_T.of (by decide) (Nat.le_of_ble_eq_true rfl) (fun E0 => ?_)
  refine fz_iconst (v := nI 0) dX1_isMove_0 (by decide) ?_
  refine fz_istore_n dX1_isMove_1 (Nat.le_of_ble_eq_true rfl) ?_
  exact lX1_isMove g hg sz wd st op cn w kn h0 h80 hh hS hO a b ha hb 5 0 rfl
end
section
/-! DISTANCES, and the search by a queue (pure) -/
def adj (cn w : Nat) (kn : Nat → Nat) (c d : Nat) : Prop := ∃ m, 1 ≤ m ∧ m < 5 ∧ opb cn w kn c m = true ∧ nx cn w c m = some d
/-- d can be reached from s in at most n moves, from cells that ex allows -/
def rch (cn w : Nat) (kn : Nat → Nat) (ex : Nat → Bool) (s : Nat) : Nat → Nat → Prop
  | 0, d => d = s
  | n + 1, d => rch cn w kn ex s n d ∨ ∃ c, rch cn w kn ex s n c ∧ ex c = true ∧ adj cn w kn c d
def isD (cn w : Nat) (kn : Nat → Nat) (ex : Nat → Bool) (s d k : Nat) : Prop := rch cn w kn ex s k d ∧ ∀ j, j < k → ¬ rch cn w kn ex s j d
theorem rch_mono {cn w : Nat} {kn : Nat → Nat} {ex : Nat → Bool} {s n d : Nat} (h : rch cn w kn ex s n d) : ∀ q, rch cn w kn ex s (n + q) d
  | 0 => h
  | q + 1 => Or.inl (rch_mono h q)
theorem rch_le {cn w : Nat} {kn : Nat → Nat} {ex : Nat → Bool} {s n n' d : Nat} (h : rch cn w kn ex s n d) (hl : n ≤ n') : rch cn w kn ex s n' d := by
  have := rch_mono h (n' - n)
  rwa [Nat.add_sub_cancel' hl] at this
theorem isD_uni {cn w : Nat} {kn : Nat → Nat} {ex : Nat → Bool} {s d k k' : Nat} (h : isD cn w kn ex s d k) (h' : isD cn w kn ex s d k') : k = k' := by
  rcases Nat.lt_trichotomy k k' with z | z | z
  · exact absurd h.1 (h'.2 k z)
  · exact z
  · exact absurd h'.1 (h.2 k' z)
/-- how many of the cells before n have p -/
def cnt (p : Nat → Bool) : Nat → Nat
  | 0 => 0
  | n + 1 => cnt p n + if p n then 1 else 0
theorem cnt_le (p : Nat → Bool) : ∀ n, cnt p n ≤ n
  | 0 => Nat.le_refl _
  | n + 1 => by
    have := cnt_le p n
    show cnt p n + _ ≤ n + 1
    split <;> omega
theorem cnt_congr {p p' : Nat → Bool} : ∀ {n}, (∀ d, d < n → p d = p' d) → cnt p n = cnt p' n
  | 0, _ => rfl
  | n + 1, h => by
    show cnt p n + _ = cnt p' n + _
    rw [cnt_congr (fun d hd => h d (by omega)), h n (by omega)]
/-- one cell fewer -/
theorem cnt_one {p p' : Nat → Bool} {a : Nat} : ∀ {n}, a < n → p a = true → p' a = false → (∀ d, d < n → d ≠ a → p' d = p d) → cnt p n = cnt p' n + 1
  | 0, h, _, _, _ => by omega
  | n + 1, h, h1, h2, h3 => by
    show cnt p n + _ = cnt p' n + _ + 1
    by_cases e : n = a
    · subst e
      rw [cnt_congr (p := p) (p' := p') (fun d hd => (h3 d (by omega) (by omega)).symm), h1, h2]
      simp
    · rw [cnt_one (a := a) (by omega) h1 h2 (fun d hd hne => h3 d (by omega) hne), h3 n (by omega) e]
      omega
theorem cnt_pos {p : Nat → Bool} {a : Nat} : ∀ {n}, a < n → p a = true → 0 < cnt p n
  | 0, h, _ => by omega
  | n + 1, h, h1 => by
    show 0 < cnt p n + _
    by_cases e : n = a
    · subst e; rw [h1]; simp
    · have := cnt_pos (n := n) (a := a) (by omega) h1
      omega
/-- the search's state: fn the distances found, qn the queue of f cells; those before i have been looked around, and of the i-th the moves before m -/
def BI (cn w : Nat) (kn : Nat → Nat) (ex : Nat → Bool) (s i m : Nat) (fn : Nat → Option Nat) (qn : Nat → Nat) (f : Nat) : Prop :=
  f + cnt (fun d => (fn d).isNone) cn = cn ∧
  (∀ p, p < f → qn p < cn ∧ ∃ k, fn (qn p) = some k ∧ k ≤ p ∧ isD cn w kn ex s (qn p) k) ∧
  (∀ d, d < cn → (fn d).isSome → ∃ p, p < f ∧ qn p = d) ∧
  (∀ p p' k k', p ≤ p' → p' < f → fn (qn p) = some k → fn (qn p') = some k' → k ≤ k') ∧
  (∀ p a b, i < f → p < f → fn (qn i) = some a → fn (qn p) = some b → b ≤ a + 1) ∧
  (∀ p m' d, p < f → (p < i ∨ (p = i ∧ m' < m)) → ex (qn p) = true → 1 ≤ m' → m' < 5 → opb cn w kn (qn p) m' = true → nx cn w (qn p) m' = some d → (fn d).isSome) ∧
  (∃ p, p < f ∧ qn p = s)
/-- all cells as near as the i-th are in the queue -/
theorem BI.near {cn w : Nat} {kn : Nat → Nat} {ex : Nat → Bool} {s i m : Nat} {fn : Nat → Option Nat} {qn : Nat → Nat} {f a : Nat} (h0 : 0 < w) (hh : ∃ h, cn = w * h) (h : BI cn w kn ex s i m fn qn f) (hi : i < f) (ha : fn (qn i) = some a) : ∀ j e, j ≤ a → rch cn w kn ex s j e → e < cn ∧ ∃ p, p < f ∧ qn p = e
  | 0, e, _, hr => by
    obtain ⟨p, hp, hq⟩ := h.2.2.2.2.2.2
    have e1 : e = s := hr
    rw [e1, ← hq]
    exact ⟨(h.2.1 p hp).1, p, hp, rfl⟩
  | j + 1, e, hj, hr => by
    rcases hr with hr | ⟨c, hc, hx, m', h1, h2, h3, h4⟩
    · exact BI.near h0 hh h hi ha j e (by omega) hr
    · obtain ⟨hcn, p, hp, hpc⟩ := BI.near h0 hh h hi ha j c (by omega) hc
      obtain ⟨-, k, hk, -, hD⟩ := h.2.1 p hp
      have hkj : k ≤ j := by
        rcases Nat.lt_or_ge j k with z | z
        · rw [hpc] at hD
          exact absurd hc (hD.2 j z)
        · exact z
      have hpi : p < i := by
        rcases Nat.lt_or_ge p i with z | z
        · exact z
        · have := h.2.2.2.1 i p a k z hp ha hk
          omega
      have he : e < cn := nx_lt h0 hh hcn h4
      have hs := h.2.2.2.2.2.1 p m' e hp (Or.inl hpi) (by rw [hpc]; exact hx) h1 h2 (by rw [hpc]; exact h3) (by rw [hpc]; exact h4)
      exact ⟨he, h.2.2.1 e he hs⟩
theorem BI.f_le {cn w : Nat} {kn : Nat → Nat} {ex : Nat → Bool} {s i m : Nat} {fn : Nat → Option Nat} {qn : Nat → Nat} {f : Nat} (h : BI cn w kn ex s i m fn qn f) : f ≤ cn := by
  have := h.1
  omega
/-- a move that leads nowhere new -/
theorem BI.skip {cn w : Nat} {kn : Nat → Nat} {ex : Nat → Bool} {s i m : Nat} {fn : Nat → Option Nat} {qn : Nat → Nat} {f : Nat} (h : BI cn w kn ex s i m fn qn f) (hn : ∀ d, opb cn w kn (qn i) m = true → nx cn w (qn i) m = some d → (fn d).isSome) : BI cn w kn ex s i (m + 1) fn qn f := by
  obtain ⟨a1, a2, a3, a4, a5, a6, a7⟩ := h
  refine ⟨a1, a2, a3, a4, a5, fun p m' d hp hc hx h1 h2 h3 h4 => ?_, a7⟩
  by_cases e : p = i ∧ m' = m
  · obtain ⟨rfl, rfl⟩ := e
    exact hn d h3 h4
  · exact a6 p m' d hp (by omega) hx h1 h2 h3 h4
/-- a move to a cell that is new -/
theorem BI.add {cn w : Nat} {kn : Nat → Nat} {ex : Nat → Bool} {s i m : Nat} {fn : Nat → Option Nat} {qn : Nat → Nat} {f k d : Nat} (h0 : 0 < w) (hh : ∃ h, cn = w * h) (h : BI cn w kn ex s i m fn qn f) (hi : i < f) (hx : ex (qn i) = true) (hk : fn (qn i) = some k) (h1 : 1 ≤ m) (h5 : m < 5) (ho : opb cn w kn (qn i) m = true) (hd : nx cn w (qn i) m = some d) (hn : fn d = none) : f < cn ∧ BI cn w kn ex s i (m + 1) (va_up fn d (some (k + 1))) (va_up qn f d) (f + 1) := by
  have hnear := BI.near h0 hh h hi hk
  obtain ⟨a1, a2, a3, a4, a5, a6, a7⟩ := h
  have hqi := (a2 i hi).1
  have hdc : d < cn := nx_lt h0 hh hqi hd
  obtain ⟨ki, hki, hkle, hDi⟩ := (a2 i hi).2
  have eki : ki = k := Option.some.inj (hki.symm.trans hk)
  subst eki
  have hcp : 0 < cnt (fun d => (fn d).isNone) cn := cnt_pos hdc (by simp [hn])
  have hfl : f < cn := by omega
  have hqd : ∀ p, p < f → qn p ≠ d := by
    intro p hp z
    obtain ⟨-, k', hk', -⟩ := a2 p hp
    rw [z, hn] at hk'
    cases hk'
  have hq : ∀ p, p < f → va_up qn f d p = qn p := fun p hp => va_up_ne _ _ (by omega)
  have hfq : ∀ p, p < f → va_up fn d (some (ki + 1)) (va_up qn f d p) = fn (qn p) := fun p hp => by rw [hq p hp, va_up_ne _ _ (hqd p hp)]
  have hff : va_up fn d (some (ki + 1)) (va_up qn f d f) = some (ki + 1) := by rw [va_up_self, va_up_self]
  have hDd : isD cn w kn ex s d (ki + 1) := by
    refine ⟨Or.inr ⟨qn i, hDi.1, hx, m, h1, h5, ho, hd⟩, fun j hj hr => ?_⟩
    obtain ⟨-, p, hp, hpd⟩ := hnear j d (by omega) hr
    exact hqd p hp hpd
  refine ⟨hfl, ?_, fun p hp => ?_, fun e he hs => ?_, fun p p' k1 k2 hpp hp' e1 e2 => ?_, fun p a b _ hp e1 e2 => ?_, fun p m' e hp hc hx' g1 g2 g3 g4 => ?_, ?_⟩
  · have := cnt_one (p := fun d => (fn d).isNone) (p' := fun e => (va_up fn d (some (ki + 1)) e).isNone) (a := d) (n := cn) hdc (by simp [hn]) (by simp [va_up_self]) (fun e _ hne => by simp [va_up_ne _ _ hne])
    omega
  · by_cases e : p = f
    · subst e
      rw [va_up_self]
      exact ⟨hdc, ki + 1, va_up_self _ _ _, by omega, hDd⟩
    · have hp' : p < f := by omega
      rw [hfq p hp', hq p hp']
      exact a2 p hp'
  · by_cases e1 : e = d
    · exact ⟨f, by omega, by rw [va_up_self, e1]⟩
    · rw [va_up_ne _ _ e1] at hs
      obtain ⟨p, hp, hpe⟩ := a3 e he hs
      exact ⟨p, by omega, by rw [hq p hp]; exact hpe⟩
  · by_cases e : p' = f
    · subst e
      rw [hff] at e2
      cases e2
      by_cases e3 : p = p'
      · subst e3
        rw [hff] at e1
        cases e1
        exact Nat.le_refl _
      · rw [hfq p (by omega)] at e1
        exact a5 p ki k1 hi (by omega) hk e1
    · rw [hfq p' (by omega)] at e2
      rw [hfq p (by omega)] at e1
      exact a4 p p' k1 k2 hpp (by omega) e1 e2
  · rw [hfq i hi] at e1
    by_cases e : p = f
    · subst e
      rw [hff] at e2
      cases e2
      rw [hk] at e1
      cases e1
      exact Nat.le_refl _
    · rw [hfq p (by omega)] at e2
      exact a5 p a b hi (by omega) e1 e2
  · by_cases e2 : e = d
    · rw [e2, va_up_self]; rfl
    · rw [va_up_ne _ _ e2]
      have hpf : p < f := by omega
      rw [hq p hpf] at hx' g3 g4
      by_cases e3 : p = i ∧ m' = m
      · obtain ⟨rfl, rfl⟩ := e3
        rw [hd] at g4
        cases g4
        exact absurd rfl e2
      · exact a6 p m' e hpf (by omega) hx' g1 g2 g3 g4
  · obtain ⟨p, hp, hps⟩ := a7
    exact ⟨p, by omega, by rw [hq p hp]; exact hps⟩
/-- the i-th is through -/
theorem BI.next {cn w : Nat} {kn : Nat → Nat} {ex : Nat → Bool} {s i m : Nat} {fn : Nat → Option Nat} {qn : Nat → Nat} {f : Nat} (h : BI cn w kn ex s i m fn qn f) (hi : i < f) (hm : 5 ≤ m ∨ ¬ ex (qn i) = true) : BI cn w kn ex s (i + 1) 1 fn qn f := by
  obtain ⟨a1, a2, a3, a4, a5, a6, a7⟩ := h
  refine ⟨a1, a2, a3, a4, fun p a b hi' hp e1 e2 => ?_, fun p m' d hp hc hx h1 h2 h3 h4 => ?_, a7⟩
  · obtain ⟨-, k, hk, -⟩ := a2 i hi
    have h1 := a5 p k b hi hp hk e2
    have h2 := a4 i (i + 1) k a (by omega) hi' hk e1
    omega
  · by_cases e : p = i
    · subst e
      rcases hm with hm | hm
      · exact a6 p m' d hp (Or.inr ⟨rfl, by omega⟩) hx h1 h2 h3 h4
      · exact absurd hx hm
    · exact a6 p m' d hp (Or.inl (by omega)) hx h1 h2 h3 h4
/-- a number with p, if there is one -/
noncomputable def pick (p : Nat → Prop) : Option Nat := @dite _ (Nonempty { k : Nat // p k }) (Classical.propDecidable _) (fun h => some (Classical.choice h).1) (fun _ => none)
theorem pick_some {p : Nat → Prop} {k : Nat} (hk : p k) (hu : ∀ j, p j → j = k) : pick p = some k := by
  have h : Nonempty { k : Nat // p k } := ⟨⟨k, hk⟩⟩
  unfold pick
  rw [dif_pos h]
  exact congrArg some (hu _ (Classical.choice h).2)
theorem pick_none {p : Nat → Prop} (h : ∀ k, ¬ p k) : pick p = none := by
  unfold pick
  rw [dif_neg]
  rintro ⟨k, hk⟩
  exact h k hk
/-- the distance, or none -/
noncomputable def dsp (cn w : Nat) (kn : Nat → Nat) (ex : Nat → Bool) (s d : Nat) : Option Nat := pick (fun k => isD cn w kn ex s d k)
theorem rch_has {cn w : Nat} {kn : Nat → Nat} {ex : Nat → Bool} {s d : Nat} : ∀ n, rch cn w kn ex s n d → ∃ k, k ≤ n ∧ isD cn w kn ex s d k
  | 0, h => ⟨0, Nat.le_refl _, h, fun j hj => by omega⟩
  | n + 1, h => by
    by_cases h1 : rch cn w kn ex s n d
    · obtain ⟨k, hk, hD⟩ := rch_has n h1
      exact ⟨k, by omega, hD⟩
    · exact ⟨n + 1, Nat.le_refl _, h, fun j hj hr => h1 (rch_le hr (by omega))⟩
/-- the search's end -/
theorem BI.end {cn w : Nat} {kn : Nat → Nat} {ex : Nat → Bool} {s i m : Nat} {fn : Nat → Option Nat} {qn : Nat → Nat} {f : Nat} (h0 : 0 < w) (hh : ∃ h, cn = w * h) (h : BI cn w kn ex s i m fn qn f) (hi : f ≤ i) : ∀ d, d < cn → fn d = dsp cn w kn ex s d ∧ ∀ k, fn d = some k → k < cn := by
  obtain ⟨a1, a2, a3, a4, a5, a6, a7⟩ := h
  have hall : ∀ n e, rch cn w kn ex s n e → e < cn ∧ ∃ p, p < f ∧ qn p = e := by
    intro n
    induction n with
    | zero =>
      intro e hr
      obtain ⟨p, hp, hq⟩ := a7
      have e1 : e = s := hr
      rw [e1, ← hq]
      exact ⟨(a2 p hp).1, p, hp, rfl⟩
    | succ n ih =>
      intro e hr
      rcases hr with hr | ⟨c, hc, hx, m', h1, h2, h3, h4⟩
      · exact ih e hr
      · obtain ⟨hcn, p, hp, hpc⟩ := ih c hc
        have he : e < cn := nx_lt h0 hh hcn h4
        have hs := a6 p m' e hp (Or.inl (by omega)) (by rw [hpc]; exact hx) h1 h2 (by rw [hpc]; exact h3) (by rw [hpc]; exact h4)
        exact ⟨he, a3 e he hs⟩
  intro d hd
  cases hf : fn d with
  | some k =>
    obtain ⟨p, hp, hpd⟩ := a3 d hd (by rw [hf]; rfl)
    obtain ⟨-, k', hk', hkp, hD⟩ := a2 p hp
    rw [hpd] at hk' hD
    have e : k' = k := Option.some.inj (hk'.symm.trans hf)
    subst e
    refine ⟨(pick_some hD (fun j hj => isD_uni hj hD)).symm, fun k2 h2 => ?_⟩
    cases h2
    omega
  | none =>
    refine ⟨(pick_none (fun k hk => ?_)).symm, fun k2 h2 => by cases h2⟩
    obtain ⟨-, p, hp, hpd⟩ := hall k d hk.1
    obtain ⟨-, k', hk', -⟩ := a2 p hp
    rw [hpd, hf] at hk'
    cases hk'
/-- the search's start -/
theorem BI.start {cn w : Nat} {kn : Nat → Nat} {ex : Nat → Bool} {s : Nat} {qn : Nat → Nat} (hs : s < cn) (hq : qn 0 = s) : BI cn w kn ex s 0 1 (va_up (fun _ => none) s (some 0)) qn 1 := by
  have hD : isD cn w kn ex s s 0 := ⟨rfl, fun j hj => by omega⟩
  have hz : ∀ p, p < 1 → p = 0 := fun p hp => by omega
  have hc0 : ∀ n, cnt (fun d => ((fun _ => none : Nat → Option Nat) d).isNone) n = n := by
    intro n
    induction n with
    | zero => rfl
    | succ n ih =>
      show cnt _ n + _ = _
      rw [ih]; rfl
  refine ⟨?_, fun p hp => ?_, fun d hd hds => ?_, fun p p' k k' hpp hp' e1 e2 => ?_, fun p a b _ hp e1 e2 => ?_, fun p m' d hp hc => by omega, 0, by omega, hq⟩
  · have := cnt_one (p := fun d => ((fun _ => none : Nat → Option Nat) d).isNone) (p' := fun e => (va_up (fun _ => none) s (some 0) e : Option Nat).isNone) (a := s) (n := cn) hs rfl (by simp [va_up_self]) (fun e _ hne => by simp [va_up_ne _ _ hne])
    rw [hc0] at this
    omega
  · rw [hz p hp, hq]
    exact ⟨hs, 0, va_up_self _ _ _, Nat.le_refl _, hD⟩
  · by_cases e : d = s
    · exact ⟨0, by omega, by rw [hq, e]⟩
    · rw [va_up_ne _ _ e] at hds
      cases hds
  · rw [hz p (by omega)] at e1
    rw [hz p' hp'] at e2
    rw [e1] at e2
    cases e2
    exact Nat.le_refl _
  · rw [hz p hp] at e2
    rw [e1] at e2
    cases e2
    omega
end
section
/-! measureAround, measureFrom -/
def oI : Option Nat → Int32
  | none => -1
  | some k => nI k
theorem oI_ne {k : Nat} (h : k < 2 ^ 31) : ¬ nI k = -1 := by
  intro z
  have h1 : (nI k).toInt = (-1 : Int32).toInt := by rw [z]
  rw [nI_toInt h] at h1
  have e1 : (-1 : Int32).toInt = -1 := by decide
  omega
def fR (cn : Nat) (F : Nat → Int32) (fn : Nat → Option Nat) : Prop := ∀ d, d < cn → F d = oI (fn d)
def qR (Q : Nat → Int32) (qn : Nat → Nat) (f : Nat) : Prop := ∀ p, p < f → Q p = nI (qn p)
abbrev wMe (sz wd : Nat → Int32) (st : Nat → Nat → Int32) (op : Nat → Nat → Int64) (ki fa qu : Nat → Nat → Int32) (g : Nat) (F Q : Nat → Int32) : fz_W := [(2, eGr sz wd), (3, e5 st), (4, eL op), (5, e8 ki), (6, e8 (va_up fa g F)), (7, e8 (va_up qu g Q))]
theorem fR_add {cn d k : Nat} {F : Nat → Int32} {fn : Nat → Option Nat} (h : fR cn F fn) : fR cn (upd F d (nI k)) (va_up fn d (some k)) := by
  intro e he
  by_cases z : e = d
  · rw [z, pk_us, va_up_self]; rfl
  · rw [pk_un z, va_up_ne _ _ z]; exact h e he
theorem qR_add {f d : Nat} {Q : Nat → Int32} {qn : Nat → Nat} (h : qR Q qn f) : qR (upd Q f (nI d)) (va_up qn f d) (f + 1) := by
  intro p hp
  by_cases z : p = f
  · rw [z, pk_us, va_up_self]
  · rw [pk_un z, va_up_ne _ _ z]; exact h p (by omega)
theorem lX1_measureAround {G : fz_G} {E0 : Nat → fz_E} (g : Nat) (hg : g < 2) (sz wd : Nat → Int32) (st : Nat → Nat → Int32) (op : Nat → Nat → Int64) (ki fa qu : Nat → Nat → Int32) (cn w : Nat) (kn : Nat → Nat) (ex : Nat → Bool) (s i c k f0 : Nat) (h0 : 0 < w) (h80 : cn ≤ 80) (hh : ∃ h, cn = w * h) (hS : gS w (st g)) (hO : gO cn w kn (op g)) (hx : ex c = true) (hk : k < 80) (hc : c < cn) :
    ∀ q m, 1 ≤ m → m + q = 5 → ∀ (fn : Nat → Option Nat) (qn : Nat → Nat) (f : Nat) (F Q : Nat → Int32), BI cn w kn ex s i m fn qn f → fR cn F fn → qR Q qn f → i < f → qn i = c → fn c = some k → f0 ≤ f → fz_J G mX1_measureAround rX1_measureAround (fz_Z G E0 0 0 (fun r U => ∃ (fn' : Nat → Option Nat) (qn' : Nat → Nat) (f' : Nat) (F' Q' : Nat → Int32), r = some (zI (nI f')) ∧ BI cn w kn ex s i 5 fn' qn' f' ∧ fR cn F' fn' ∧ qR Q' qn' f' ∧ f0 ≤ f' ∧ U = wMe sz wd st op ki fa qu g F' Q')) E0 0 0 5 [(4, zI (nI m)), (3, zI (nI f)), (0, zR 2 g), (1, zI (nI c)), (2, zI (nI f0))] [] (wMe sz wd st op ki fa qu g F Q) := by
  intro q
  induction q with
  | zero =>
    intro m hm1 hm fn qn f F Q hB hF hQ hi hci hfc hf0
    have e : m = 5 := by omega
    subst e
    refine fz_iload dX1_measureAround_5 rfl ?_
    refine fz_iconst (v := nI 5) dX1_measureAround_7 (by decide) ?_
    refine fz_icmp_ge (tgt := 85) dX1_measureAround_8 (by decide) (fun c8 => ?_) (fun c8 => ?_)
    · skip
      refine fz_iload_n dX1_measureAround_85 rfl ?_
      refine fz_iret dX1_measureAround_86 rfl (Nat.zero_le _) (Nat.zero_le _) ⟨fn, qn, f, F, Q, rfl, hB, hF, hQ, hf0, rfl⟩
    · exact absurd (nI_le (Nat.le_refl _) (by omega)) c8
  | succ q ih =>
    intro m hm1 hm fn qn f F Q hB hF hQ hi hci hfc hf0
    have hfl := hB.f_le
    refine fz_iload dX1_measureAround_5 rfl ?_
    refine fz_iconst (v := nI 5) dX1_measureAround_7 (by decide) ?_
    refine fz_icmp_ge (tgt := 85) dX1_measureAround_8 (by decide) (fun c8 => ?_) (fun c8 => ?_)
    · exact absurd ((nI_leI (by omega) (by omega)).mp c8) (by omega)
    · skip
      refine fz_aload_n dX1_measureAround_11 rfl ?_
      refine fz_iload_n dX1_measureAround_12 rfl ?_
      refine fz_iload dX1_measureAround_13 rfl ?_
      refine fz_callV (tX1_isOpen g hg sz wd op c m (by omega) (by omega)) dX1_measureAround_15 kX1_73 rfl (hg) ⟨rfl, rfl, trivial⟩ (Nat.le_of_ble_eq_true rfl) (Nat.le_of_ble_eq_true rfl) (Nat.le_of_ble_eq_true rfl) (Nat.le_of_ble_eq_true rfl) (Nat.le_of_ble_eq_true rfl) rfl (fun r U hq => ?_)
      obtain ⟨rfl, rfl⟩ := hq
      refine fz_back rfl ?_
      refine fz_wo (V' := wMe sz wd st op ki fa qu g F Q) rfl ?_
      rw [gO_at hO (by omega) hc h80]
      cases ho : opb cn w kn c m with
      | false =>
        refine fz_if_eq (tgt := 79) dX1_measureAround_18 (by decide) (fun c18 => ?_) (fun c18 => ?_)
        · skip
          refine fz_incN dX1_measureAround_79 rfl (Nat.le_of_ble_eq_true rfl) ?_
          refine fz_goto (tgt := 5) dX1_measureAround_82 (by decide) ?_
          refine ih (m + 1) (by omega) (by omega) fn qn f F Q (hB.skip (fun d h1 _ => ?_)) hF hQ hi hci hfc hf0
          rw [hci, ho] at h1
          cases h1
        · exact absurd rfl c18
      | true =>
        obtain ⟨d, hd⟩ := opb_nx ho
        have hdc := nx_lt h0 hh hc hd
        refine fz_if_eq (tgt := 79) dX1_measureAround_18 (by decide) (fun c18 => ?_) (fun c18 => ?_)
        · exact absurd c18 (by decide)
        · skip
          refine fz_aload_n dX1_measureAround_21 rfl ?_
          refine fz_get dX1_measureAround_22 fX1_22 rfl (hg) rfl ?_
          refine fz_iload_n dX1_measureAround_25 rfl ?_
          refine fz_aload_n dX1_measureAround_26 rfl ?_
          refine fz_get dX1_measureAround_27 fX1_9 rfl (hg) rfl ?_
          refine fz_iload dX1_measureAround_30 rfl ?_
          refine fz_iald dX1_measureAround_32 rfl rfl (hg) (vp_in_nI (by omega) (by omega)) ?_
          rw [nI_clamp (by omega), hS m (by omega)]
          refine fz_iadd dX1_measureAround_33 ?_
          rw [nx_st hd (by omega)]
          refine fz_ialdu dX1_measureAround_34 rfl rfl (hg) (vp_in_nI (by omega) (by omega)) ?_
          refine fz_iconst (v := -1) dX1_measureAround_35 (by decide) ?_
          rw [nI_clamp (by omega), hF d hdc]
          cases hfd : fn d with
          | some kd' =>
            refine fz_icmp_ne (tgt := 79) dX1_measureAround_36 (by decide) (fun c36 => ?_) (fun c36 => ?_)
            · skip
              refine fz_incN dX1_measureAround_79 rfl (Nat.le_of_ble_eq_true rfl) ?_
              refine fz_goto (tgt := 5) dX1_measureAround_82 (by decide) ?_
              refine ih (m + 1) (by omega) (by omega) fn qn f F Q (hB.skip (fun d' h1 h2 => ?_)) hF hQ hi hci hfc hf0
              rw [hci, hd] at h2
              cases h2
              rw [hfd]; rfl
            · obtain ⟨p, hp, hpd⟩ := hB.2.2.1 d hdc (by rw [hfd]; rfl)
              obtain ⟨-, k2, hk2, hk2p, -⟩ := hB.2.1 p hp
              rw [hpd, hfd] at hk2
              cases hk2
              exact absurd c36 (oI_ne (by omega))
          | none =>
            refine fz_icmp_ne (tgt := 79) dX1_measureAround_36 (by decide) (fun c36 => ?_) (fun c36 => ?_)
            · exact absurd rfl c36
            · obtain ⟨hfcn, hB2⟩ := BI.add h0 hh hB hi (by rw [hci]; exact hx) (by rw [hci]; exact hfc) hm1 (by omega) (by rw [hci]; exact ho) (by rw [hci]; exact hd) hfd
              refine fz_aload_n dX1_measureAround_39 rfl ?_
              refine fz_get dX1_measureAround_40 fX1_22 rfl (hg) rfl ?_
              refine fz_iload_n dX1_measureAround_43 rfl ?_
              refine fz_aload_n dX1_measureAround_44 rfl ?_
              refine fz_get dX1_measureAround_45 fX1_9 rfl (hg) rfl ?_
              refine fz_iload dX1_measureAround_48 rfl ?_
              refine fz_iald dX1_measureAround_50 rfl rfl (hg) (vp_in_nI (by omega) (by omega)) ?_
              rw [nI_clamp (by omega), hS m (by omega)]
              refine fz_iadd dX1_measureAround_51 ?_
              rw [nx_st hd (by omega)]
              refine fz_aload_n dX1_measureAround_52 rfl ?_
              refine fz_get dX1_measureAround_53 fX1_22 rfl (hg) rfl ?_
              refine fz_iload_n dX1_measureAround_56 rfl ?_
              refine fz_ialdu dX1_measureAround_57 rfl rfl (hg) (vp_in_nI (by omega) (by omega)) ?_
              rw [nI_clamp (by omega), hF c hc, hfc]
              refine fz_iconst (v := nI 1) dX1_measureAround_58 (by decide) ?_
              refine fz_iadd dX1_measureAround_59 ?_
              refine fz_top (y := nI (k + 1)) (nI_add k 1) ?_
              refine fz_iastu dX1_measureAround_60 rfl rfl (hg) (vp_in_nI (by omega) (by omega)) ?_
              rw [nI_clamp (by omega)]
              refine fz_aload_n dX1_measureAround_61 rfl ?_
              refine fz_get dX1_measureAround_62 fX1_25 rfl (hg) rfl ?_
              refine fz_iload_n dX1_measureAround_65 rfl ?_
              refine fz_iload_n dX1_measureAround_66 rfl ?_
              refine fz_aload_n dX1_measureAround_67 rfl ?_
              refine fz_get dX1_measureAround_68 fX1_9 rfl (hg) rfl ?_
              refine fz_iload dX1_measureAround_71 rfl ?_
              refine fz_iald dX1_measureAround_73 rfl rfl (hg) (vp_in_nI (by omega) (by omega)) ?_
              rw [nI_clamp (by omega), hS m (by omega)]
              refine fz_iadd dX1_measureAround_74 ?_
              rw [nx_st hd (by omega)]
              refine fz_iastu dX1_measureAround_75 rfl rfl (hg) (vp_in_nI (by omega) (by omega)) ?_
              refine fz_incN dX1_measureAround_76 rfl (Nat.le_of_ble_eq_true rfl) ?_
              refine fz_incN dX1_measureAround_79 rfl (Nat.le_of_ble_eq_true rfl) ?_
              refine fz_goto (tgt := 5) dX1_measureAround_82 (by decide) ?_
              rw [nI_clamp (by omega)]
              refine fz_pk [0, 1, 2, 3, 4] rfl ?_
              have hcd : c ≠ d := fun z => by rw [z, hfd] at hfc; cases hfc
              exact ih (m + 1) (by omega) (by omega) _ _ (f + 1) _ _ hB2 (fR_add hF) (qR_add hQ) (by omega) (by rw [va_up_ne _ _ (by omega)]; exact hci) (by rw [va_up_ne _ _ hcd]; exact hfc) (by omega)
theorem tX1_measureAround {G : fz_G} (g : Nat) (hg : g < 2) (sz wd : Nat → Int32) (st : Nat → Nat → Int32) (op : Nat → Nat → Int64) (ki fa qu : Nat → Nat → Int32) (F Q : Nat → Int32) (cn w : Nat) (kn : Nat → Nat) (ex : Nat → Bool) (s i f : Nat) (fn : Nat → Option Nat) (qn : Nat → Nat) (h0 : 0 < w) (h80 : cn ≤ 80) (hh : ∃ h, cn = w * h) (hS : gS w (st g)) (hO : gO cn w kn (op g)) (hB : BI cn w kn ex s i 1 fn qn f) (hF : fR cn F fn) (hQ : qR Q qn f) (hi : i < f) (hx : ex (qn i) = true) :
    fz_T G mX1_measureAround rX1_measureAround [zR 2 g, zI (nI (qn i)), zI (nI f)] (wMe sz wd st op ki fa qu g F Q) (fun r U => ∃ (fn' : Nat → Option Nat) (qn' : Nat → Nat) (f' : Nat) (F' Q' : Nat → Int32), r = some (zI (nI f')) ∧ BI cn w kn ex s i 5 fn' qn' f' ∧ fR cn F' fn' ∧ qR Q' qn' f' ∧ f ≤ f' ∧ U = wMe sz wd st op ki fa qu g F' Q') := by
  refine fz_T.of (by decide) (Nat.le_of_ble_eq_true rfl) (fun E0 => ?_)
  obtain ⟨hc, k, hk, hki, -⟩ := hB.2.1 i hi
  have hfl := hB.f_le
  refine fz_iload_n dX1_measureAround_0 rfl ?_
  refine fz_istore_n dX1_measureAround_1 (Nat.le_of_ble_eq_true rfl) ?_
  refine fz_iconst (v := nI 1) dX1_measureAround_2 (by decide) ?_
  refine fz_istore dX1_measureAround_3 (Nat.le_of_ble_eq_true rfl) ?_
  exact lX1_measureAround g hg sz wd st op ki fa qu cn w kn ex s i (qn i) k f h0 h80 hh hS hO hx (by omega) hc 4 1 (by omega) (by omega) fn qn f F Q hB hF hQ hi rfl hk (Nat.le_refl _)
end
section
/-! measureFrom, isJoinedToAll, firstPlaceApart -/
def exT (thr : Bool) (kn : Nat → Nat) (s : Nat) : Nat → Bool := fun c => thr || (c == s || decide (¬ 1 < kn c))
noncomputable def dsw (cn w : Nat) (kn : Nat → Nat) (ex : Nat → Bool) (s d : Nat) : Option Nat := if kn s = 0 then none else dsp cn w kn ex s d
def bI (b : Bool) : Int32 := if b then 1 else 0
/-- what a search leaves in far -/
def FD (cn w : Nat) (kn : Nat → Nat) (ex : Nat → Bool) (s : Nat) (F : Nat → Int32) : Prop := ∀ d, d < cn → F d = oI (dsw cn w kn ex s d) ∧ ∀ k, dsw cn w kn ex s d = some k → k < cn
theorem lX1_measureFrom {G : fz_G} {E0 : Nat → fz_E} (g : Nat) (hg : g < 2) (sz wd : Nat → Int32) (st : Nat → Nat → Int32) (op : Nat → Nat → Int64) (ki fa qu : Nat → Nat → Int32) (cn w : Nat) (kn : Nat → Nat) (thr : Bool) (s : Nat) (hK : gK cn w kn (sz g) (wd g) (ki g)) (hS : gS w (st g)) (hO : gO cn w kn (op g)) (hs : s < cn) (hsw : ¬ kn s = 0) :
    ∀ q i, i + q = cn → ∀ (fn : Nat → Option Nat) (qn : Nat → Nat) (f : Nat) (F Q : Nat → Int32), BI cn w kn (exT thr kn s) s i 1 fn qn f → fR cn F fn → qR Q qn f → fz_J G mX1_measureFrom rX1_measureFrom (fz_Z G E0 0 0 (fun r U => r = none ∧ ∃ F' Q', FD cn w kn (exT thr kn s) s F' ∧ U = wMe sz wd st op ki fa qu g F' Q')) E0 0 0 37 [(4, zI (nI i)), (3, zI (nI f)), (0, zR 2 g), (1, zI (nI s)), (2, zI (bI thr))] [] (wMe sz wd st op ki fa qu g F Q) := by
  obtain ⟨k1, k2, k3, k4, k5, k6, k7⟩ := hK
  intro q
  have fin : ∀ i (fn : Nat → Option Nat) (qn : Nat → Nat) (f : Nat) (F : Nat → Int32), BI cn w kn (exT thr kn s) s i 1 fn qn f → fR cn F fn → f ≤ i → FD cn w kn (exT thr kn s) s F := by
    intro i fn qn f F hB hF hfi d hd
    obtain ⟨e1, e2⟩ := BI.end k1 k4 hB hfi d hd
    have e3 : dsw cn w kn (exT thr kn s) s d = fn d := by unfold dsw; rw [if_neg hsw, e1]
    rw [e3]
    exact ⟨hF d hd, e2⟩
  induction q with
  | zero =>
    intro i hi fn qn f F Q hB hF hQ
    have hfl := hB.f_le
    refine fz_iload dX1_measureFrom_37 rfl ?_
    refine fz_iload_n dX1_measureFrom_39 rfl ?_
    refine fz_icmp_ge (tgt := 94) dX1_measureFrom_40 (by decide) (fun c40 => ?_) (fun c40 => ?_)
    · skip
      refine fz_vret dX1_measureFrom_94 rfl (Nat.zero_le _) (Nat.zero_le _) ⟨rfl, F, Q, fin i fn qn f F hB hF (by omega), rfl⟩
    · exact absurd (nI_le (by omega) (by omega)) c40
  | succ q ih =>
    intro i hi fn qn f F Q hB hF hQ
    have hfl := hB.f_le
    refine fz_iload dX1_measureFrom_37 rfl ?_
    refine fz_iload_n dX1_measureFrom_39 rfl ?_
    refine fz_icmp_ge (tgt := 94) dX1_measureFrom_40 (by decide) (fun c40 => ?_) (fun c40 => ?_)
    · have hfi : f ≤ i := (nI_leI (by omega) (by omega)).mp c40
      refine fz_vret dX1_measureFrom_94 rfl (Nat.zero_le _) (Nat.zero_le _) ⟨rfl, F, Q, fin i fn qn f F hB hF hfi, rfl⟩
    · have hif : i < f := by
        rcases Nat.lt_or_ge i f with z | z
        · exact z
        · exact absurd (nI_le z (by omega)) c40
      refine fz_iload dX1_measureFrom_43 rfl ?_
      refine fz_aload_n dX1_measureFrom_45 rfl ?_
      refine fz_get dX1_measureFrom_46 fX1_28 rfl (hg) rfl ?_
      rw [k5]
      refine fz_icmp_ge (tgt := 94) dX1_measureFrom_49 (by decide) (fun c49 => ?_) (fun c49 => ?_)
      · exact absurd ((nI_leI (by omega) (by omega)).mp c49) (by omega)
      · have hqi := (hB.2.1 i hif).1
        refine fz_aload_n dX1_measureFrom_52 rfl ?_
        refine fz_get dX1_measureFrom_53 fX1_25 rfl (hg) rfl ?_
        refine fz_iload dX1_measureFrom_56 rfl ?_
        refine fz_ialdu dX1_measureFrom_58 rfl rfl (hg) (vp_in_nI (by omega) (by omega)) ?_
        rw [nI_clamp (by omega), hQ i hif]
        have go : exT thr kn s (qn i) = true → fz_J G mX1_measureFrom rX1_measureFrom (fz_Z G E0 0 0 (fun r U => r = none ∧ ∃ F' Q', FD cn w kn (exT thr kn s) s F' ∧ U = wMe sz wd st op ki fa qu g F' Q')) E0 0 0 80 [(5, zI (nI (qn i))), (4, zI (nI i)), (3, zI (nI f)), (0, zR 2 g), (1, zI (nI s)), (2, zI (bI thr))] [] (wMe sz wd st op ki fa qu g F Q) := by
          intro hx
          refine fz_aload_n dX1_measureFrom_80 rfl ?_
          refine fz_iload dX1_measureFrom_81 rfl ?_
          refine fz_iload_n dX1_measureFrom_83 rfl ?_
          refine fz_callV (tX1_measureAround g hg sz wd st op ki fa qu F Q cn w kn (exT thr kn s) s i f fn qn k1 k3 k4 hS hO hB hF hQ hif hx) dX1_measureFrom_84 kX1_89 rfl (hg) ⟨rfl, rfl, rfl, rfl, rfl, rfl, trivial⟩ (Nat.le_of_ble_eq_true rfl) (Nat.le_of_ble_eq_true rfl) (Nat.le_of_ble_eq_true rfl) (Nat.le_of_ble_eq_true rfl) (Nat.le_of_ble_eq_true rfl) rfl (fun r U hq => ?_)
          obtain ⟨fn', qn', f', F', Q', rfl, hB', hF', hQ', hff, rfl⟩ := hq
          refine fz_back rfl ?_
          refine fz_wo (V' := wMe sz wd st op ki fa qu g F' Q') rfl ?_
          refine fz_istore_n dX1_measureFrom_87 (Nat.le_of_ble_eq_true rfl) ?_
          refine fz_incN dX1_measureFrom_88 rfl (Nat.le_of_ble_eq_true rfl) ?_
          refine fz_goto (tgt := 37) dX1_measureFrom_91 (by decide) ?_
          refine fz_pk [0, 1, 3, 4, 5] rfl ?_
          exact ih (i + 1) (by omega) fn' qn' f' F' Q' (hB'.next (by omega) (Or.inl (Nat.le_refl _))) hF' hQ'
        refine fz_istore dX1_measureFrom_59 (Nat.le_of_ble_eq_true rfl) ?_
        refine fz_iload_n dX1_measureFrom_61 rfl ?_
        cases thr with
        | true =>
          refine fz_if_ne (tgt := 80) dX1_measureFrom_62 (by decide) (fun c62 => ?_) (fun c62 => ?_)
          · exact go rfl
          · exact absurd c62 (by decide)
        | false =>
          refine fz_if_ne (tgt := 80) dX1_measureFrom_62 (by decide) (fun c62 => ?_) (fun c62 => ?_)
          · exact absurd rfl c62
          · skip
            refine fz_iload dX1_measureFrom_65 rfl ?_
            refine fz_iload_n dX1_measureFrom_67 rfl ?_
            refine fz_icmp_eq (tgt := 80) dX1_measureFrom_68 (by decide) (fun c68 => ?_) (fun c68 => ?_)
            · have e : qn i = s := (nI_eq (by omega) (by omega)).mp c68
              exact go (by unfold exT; simp [e])
            · have e : ¬ qn i = s := fun z => c68 (by rw [z])
              have hk7 := k7 (qn i) hqi
              refine fz_aload_n dX1_measureFrom_71 rfl ?_
              refine fz_iload dX1_measureFrom_72 rfl ?_
              refine fz_callV (tX1_isPlace g hg sz wd ki (qn i) (kn (qn i)) (by omega) (by omega) hk7.1) dX1_measureFrom_74 kX1_76 rfl (hg) ⟨rfl, rfl, trivial⟩ (Nat.le_of_ble_eq_true rfl) (Nat.le_of_ble_eq_true rfl) (Nat.le_of_ble_eq_true rfl) (Nat.le_of_ble_eq_true rfl) (Nat.le_of_ble_eq_true rfl) rfl (fun r U hq => ?_)
              obtain ⟨rfl, rfl⟩ := hq
              refine fz_back rfl ?_
              refine fz_wo (V' := wMe sz wd st op ki fa qu g F Q) rfl ?_
              by_cases hp : 1 < kn (qn i)
              · rw [if_pos hp]
                refine fz_if_ne (tgt := 88) dX1_measureFrom_77 (by decide) (fun c77 => ?_) (fun c77 => ?_)
                · skip
                  refine fz_incN dX1_measureFrom_88 rfl (Nat.le_of_ble_eq_true rfl) ?_
                  refine fz_goto (tgt := 37) dX1_measureFrom_91 (by decide) ?_
                  refine fz_pk [0, 2, 3, 4, 5] rfl ?_
                  exact ih (i + 1) (by omega) fn qn f F Q (hB.next hif (Or.inr (by unfold exT; simp [e, hp]))) hF hQ
                · exact absurd c77 (by decide)
              · rw [if_neg hp]
                refine fz_if_ne (tgt := 88) dX1_measureFrom_77 (by decide) (fun c77 => ?_) (fun c77 => ?_)
                · exact absurd rfl c77
                · exact go (by unfold exT; simp [hp])
theorem tX1_measureFrom {G : fz_G} (g : Nat) (hg : g < 2) (sz wd : Nat → Int32) (st : Nat → Nat → Int32) (op : Nat → Nat → Int64) (ki fa qu : Nat → Nat → Int32) (F Q : Nat → Int32) (cn w : Nat) (kn : Nat → Nat) (thr : Bool) (s : Nat) (hK : gK cn w kn (sz g) (wd g) (ki g)) (hS : gS w (st g)) (hO : gO cn w kn (op g)) (hs : s < cn) :
    fz_T G mX1_measureFrom rX1_measureFrom [zR 2 g, zI (nI s), zI (bI thr)] (wMe sz wd st op ki fa qu g F Q) (fun r U => r = none ∧ ∃ F' Q', FD cn w kn (exT thr kn s) s F' ∧ U = wMe sz wd st op ki fa qu g F' Q') := by
  refine fz_T.of (by decide) (Nat.le_of_ble_eq_true rfl) (fun E0 => ?_)
  have hK' := hK
  obtain ⟨k1, k2, k3, k4, k5, k6, k7⟩ := hK
  have hks := k7 s hs
  refine fz_aload_n dX1_measureFrom_0 rfl ?_
  refine fz_get dX1_measureFrom_1 fX1_22 rfl (hg) rfl ?_
  refine fz_iconst (v := -1) dX1_measureFrom_4 (by decide) ?_
  refine fz_callS (tJ7_fill_6 fa g hg (-1) F) dX1_measureFrom_5 kX1_86 ⟨rfl, trivial⟩ (Nat.le_of_ble_eq_true rfl) (Nat.le_of_ble_eq_true rfl) (Nat.le_of_ble_eq_true rfl) (Nat.le_of_ble_eq_true rfl) (Nat.le_of_ble_eq_true rfl) rfl (fun r U hq => ?_)
  obtain ⟨rfl, F1, hF1, rfl⟩ := hq
  refine fz_back rfl ?_
  refine fz_wo (V' := wMe sz wd st op ki fa qu g F1 Q) rfl ?_
  refine fz_aload_n dX1_measureFrom_8 rfl ?_
  refine fz_get dX1_measureFrom_9 fX1_19 rfl (hg) rfl ?_
  refine fz_iload_n dX1_measureFrom_12 rfl ?_
  refine fz_iald dX1_measureFrom_13 rfl rfl (hg) (vp_in_nI (by omega) (by omega)) ?_
  rw [nI_clamp (by omega), hks.1]
  refine fz_if_ne (tgt := 18) dX1_measureFrom_14 (by decide) (fun c14 => ?_) (fun c14 => ?_)
  · have hsw : ¬ kn s = 0 := fun z => c14 (by rw [z]; exact nI_0)
    refine fz_aload_n dX1_measureFrom_18 rfl ?_
    refine fz_get dX1_measureFrom_19 fX1_22 rfl (hg) rfl ?_
    refine fz_iload_n dX1_measureFrom_22 rfl ?_
    refine fz_iconst (v := nI 0) dX1_measureFrom_23 (by decide) ?_
    refine fz_iastu dX1_measureFrom_24 rfl rfl (hg) (vp_in_nI (by omega) (by omega)) ?_
    rw [nI_clamp (by omega)]
    refine fz_aload_n dX1_measureFrom_25 rfl ?_
    refine fz_get dX1_measureFrom_26 fX1_25 rfl (hg) rfl ?_
    refine fz_iconst (v := nI 0) dX1_measureFrom_29 (by decide) ?_
    refine fz_iload_n dX1_measureFrom_30 rfl ?_
    refine fz_iastu dX1_measureFrom_31 rfl rfl (hg) (vp_in_nI (by omega) (by omega)) ?_
    rw [nI_clamp (by omega)]
    refine fz_iconst (v := nI 1) dX1_measureFrom_32 (by decide) ?_
    refine fz_istore_n dX1_measureFrom_33 (Nat.le_of_ble_eq_true rfl) ?_
    refine fz_iconst (v := nI 0) dX1_measureFrom_34 (by decide) ?_
    refine fz_istore dX1_measureFrom_35 (Nat.le_of_ble_eq_true rfl) ?_
    refine lX1_measureFrom g hg sz wd st op ki fa qu cn w kn thr s hK' hS hO hs hsw cn 0 (by omega) _ (fun _ => s) 1 _ _ (BI.start hs rfl) (fR_add (k := 0) (fn := fun _ => none) (fun d hd => ?_)) (fun p hp => ?_)
    · exact hF1 d (by omega)
    · rw [show p = 0 by omega, pk_us]
  · have hsw : kn s = 0 := (nI_eq (by omega) (by omega)).mp c14
    refine fz_vret dX1_measureFrom_17 rfl (Nat.zero_le _) (Nat.zero_le _) ⟨rfl, F1, Q, fun d hd => ?_, rfl⟩
    have e3 : dsw cn w kn (exT thr kn s) s d = none := by unfold dsw; rw [if_pos hsw]
    rw [e3]
    exact ⟨hF1 d (by omega), fun k hk => by cases hk⟩
end
section
/-! isJoinedToAll, firstPlaceApart -/
/-- a way from place c to every place, through no other place -/
def JA (cn w : Nat) (kn : Nat → Nat) (c : Nat) : Prop := ∀ d, d < cn → 1 < kn d → dsw cn w kn (exT false kn c) c d ≠ none
theorem lX1_isJoined {G : fz_G} {E0 : Nat → fz_E} (g : Nat) (hg : g < 2) (sz wd : Nat → Int32) (st : Nat → Nat → Int32) (op : Nat → Nat → Int64) (ki fa qu : Nat → Nat → Int32) (F Q : Nat → Int32) (cn w : Nat) (kn : Nat → Nat) (s : Nat) (hK : gK cn w kn (sz g) (wd g) (ki g)) (hF : FD cn w kn (exT false kn s) s F) :
    ∀ q c, c + q = cn → (∀ d, d < c → 1 < kn d → dsw cn w kn (exT false kn s) s d ≠ none) → fz_J G mX1_isJoinedToAll rX1_isJoinedToAll (fz_Z G E0 0 0 (fun r U => ((r = some (zI 1) ∧ JA cn w kn s) ∨ (r = some (zI 0) ∧ ¬ JA cn w kn s)) ∧ ∃ F' Q', U = wMe sz wd st op ki fa qu g F' Q')) E0 0 0 8 [(2, zI (nI c)), (0, zR 2 g), (1, zI (nI s))] [] (wMe sz wd st op ki fa qu g F Q) := by
  obtain ⟨k1, k2, k3, k4, k5, k6, k7⟩ := hK
  intro q
  induction q with
  | zero =>
    intro c hc hd
    have e : c = cn := by omega
    subst e
    refine fz_iload_n dX1_isJoinedToAll_8 rfl ?_
    refine fz_aload_n dX1_isJoinedToAll_9 rfl ?_
    refine fz_get dX1_isJoinedToAll_10 fX1_28 rfl (hg) rfl ?_
    rw [k5]
    refine fz_icmp_ge (tgt := 42) dX1_isJoinedToAll_13 (by decide) (fun c13 => ?_) (fun c13 => ?_)
    · skip
      refine fz_iconst (v := nI 1) dX1_isJoinedToAll_42 (by decide) ?_
      refine fz_zret dX1_isJoinedToAll_43 rfl (by decide) (Nat.zero_le _) (Nat.zero_le _) ⟨Or.inl ⟨rfl, hd⟩, F, Q, rfl⟩
    · exact absurd (nI_le (Nat.le_refl _) (by omega)) c13
  | succ q ih =>
    intro c hc hd
    have hkc := k7 c (by omega)
    refine fz_iload_n dX1_isJoinedToAll_8 rfl ?_
    refine fz_aload_n dX1_isJoinedToAll_9 rfl ?_
    refine fz_get dX1_isJoinedToAll_10 fX1_28 rfl (hg) rfl ?_
    rw [k5]
    refine fz_icmp_ge (tgt := 42) dX1_isJoinedToAll_13 (by decide) (fun c13 => ?_) (fun c13 => ?_)
    · exact absurd ((nI_leI (by omega) (by omega)).mp c13) (by omega)
    · skip
      refine fz_aload_n dX1_isJoinedToAll_16 rfl ?_
      refine fz_iload_n dX1_isJoinedToAll_17 rfl ?_
      refine fz_callV (tX1_isPlace g hg sz wd ki c (kn c) (by omega) (by omega) hkc.1) dX1_isJoinedToAll_18 kX1_76 rfl (hg) ⟨rfl, rfl, trivial⟩ (Nat.le_of_ble_eq_true rfl) (Nat.le_of_ble_eq_true rfl) (Nat.le_of_ble_eq_true rfl) (Nat.le_of_ble_eq_true rfl) (Nat.le_of_ble_eq_true rfl) rfl (fun r U hq => ?_)
      obtain ⟨rfl, rfl⟩ := hq
      refine fz_back rfl ?_
      refine fz_wo (V' := wMe sz wd st op ki fa qu g F Q) rfl ?_
      by_cases hp : 1 < kn c
      · rw [if_pos hp]
        refine fz_if_eq (tgt := 36) dX1_isJoinedToAll_21 (by decide) (fun c21 => ?_) (fun c21 => ?_)
        · exact absurd c21 (by decide)
        · skip
          refine fz_aload_n dX1_isJoinedToAll_24 rfl ?_
          refine fz_get dX1_isJoinedToAll_25 fX1_22 rfl (hg) rfl ?_
          refine fz_iload_n dX1_isJoinedToAll_28 rfl ?_
          refine fz_ialdu dX1_isJoinedToAll_29 rfl rfl (hg) (vp_in_nI (by omega) (by omega)) ?_
          refine fz_iconst (v := -1) dX1_isJoinedToAll_30 (by decide) ?_
          rw [nI_clamp (by omega), (hF c (by omega)).1]
          cases hv : dsw cn w kn (exT false kn s) s c with
          | none =>
            refine fz_icmp_ne (tgt := 36) dX1_isJoinedToAll_31 (by decide) (fun c31 => ?_) (fun c31 => ?_)
            · exact absurd rfl c31
            · skip
              refine fz_iconst (v := nI 0) dX1_isJoinedToAll_34 (by decide) ?_
              refine fz_zret dX1_isJoinedToAll_35 rfl (by decide) (Nat.zero_le _) (Nat.zero_le _) ⟨Or.inr ⟨rfl, fun z => z c (by omega) hp hv⟩, F, Q, rfl⟩
          | some k =>
            have hkl := (hF c (by omega)).2 k hv
            refine fz_icmp_ne (tgt := 36) dX1_isJoinedToAll_31 (by decide) (fun c31 => ?_) (fun c31 => ?_)
            · skip
              refine fz_incN dX1_isJoinedToAll_36 rfl (Nat.le_of_ble_eq_true rfl) ?_
              refine fz_goto (tgt := 8) dX1_isJoinedToAll_39 (by decide) ?_
              refine ih (c + 1) (by omega) (fun d h1 h2 => ?_)
              by_cases e : d = c
              · rw [e, hv]; exact fun z => by cases z
              · exact hd d (by omega) h2
            · exact absurd c31 (oI_ne (by omega))
      · rw [if_neg hp]
        refine fz_if_eq (tgt := 36) dX1_isJoinedToAll_21 (by decide) (fun c21 => ?_) (fun c21 => ?_)
        · skip
          refine fz_incN dX1_isJoinedToAll_36 rfl (Nat.le_of_ble_eq_true rfl) ?_
          refine fz_goto (tgt := 8) dX1_isJoinedToAll_39 (by decide) ?_
          refine ih (c + 1) (by omega) (fun d h1 h2 => ?_)
          by_cases e : d = c
          · rw [e] at h2; exact absurd h2 hp
          · exact hd d (by omega) h2
        · exact absurd rfl c21
theorem tX1_isJoinedToAll {G : fz_G} (g : Nat) (hg : g < 2) (sz wd : Nat → Int32) (st : Nat → Nat → Int32) (op : Nat → Nat → Int64) (ki fa qu : Nat → Nat → Int32) (F Q : Nat → Int32) (cn w : Nat) (kn : Nat → Nat) (s : Nat) (hK : gK cn w kn (sz g) (wd g) (ki g)) (hS : gS w (st g)) (hO : gO cn w kn (op g)) (hs : s < cn) :
    fz_T G mX1_isJoinedToAll rX1_isJoinedToAll [zR 2 g, zI (nI s)] (wMe sz wd st op ki fa qu g F Q) (fun r U => ((r = some (zI 1) ∧ JA cn w kn s) ∨ (r = some (zI 0) ∧ ¬ JA cn w kn s)) ∧ ∃ F' Q', U = wMe sz wd st op ki fa qu g F' Q') := by
  refine fz_T.of (by decide) (Nat.le_of_ble_eq_true rfl) (fun E0 => ?_)
  refine fz_aload_n dX1_isJoinedToAll_0 rfl ?_
  refine fz_iload_n dX1_isJoinedToAll_1 rfl ?_
  refine fz_iconst (v := nI 0) dX1_isJoinedToAll_2 (by decide) ?_
  refine fz_top (y := bI false) rfl ?_
  refine fz_callV (tX1_measureFrom g hg sz wd st op ki fa qu F Q cn w kn false s hK hS hO hs) dX1_isJoinedToAll_3 kX1_82 rfl (hg) ⟨rfl, rfl, rfl, rfl, rfl, rfl, trivial⟩ (Nat.le_of_ble_eq_true rfl) (Nat.le_of_ble_eq_true rfl) (Nat.le_of_ble_eq_true rfl) (Nat.le_of_ble_eq_true rfl) (Nat.le_of_ble_eq_true rfl) rfl (fun r U hq => ?_)
  obtain ⟨rfl, F', Q', hF', rfl⟩ := hq
  refine fz_back rfl ?_
  refine fz_wo (V' := wMe sz wd st op ki fa qu g F' Q') rfl ?_
  refine fz_iconst (v := nI 0) dX1_isJoinedToAll_6 (by decide) ?_
  refine fz_istore_n dX1_isJoinedToAll_7 (Nat.le_of_ble_eq_true rfl) ?_
  exact lX1_isJoined g hg sz wd st op ki fa qu F' Q' cn w kn s hK hF' cn 0 (by omega) (fun d h => by omega)
/-- the first place that isn't joined to all -/
def FA (cn w : Nat) (kn : Nat → Nat) (r : Option fz_V) : Prop := (r = some (zI (-1)) ∧ ∀ c, c < cn → 1 < kn c → JA cn w kn c) ∨ ∃ c, c < cn ∧ r = some (zI (nI c)) ∧ 1 < kn c ∧ ¬ JA cn w kn c ∧ ∀ d, d < c → 1 < kn d → JA cn w kn d
theorem lX1_first {G : fz_G} {E0 : Nat → fz_E} (g : Nat) (hg : g < 2) (sz wd : Nat → Int32) (st : Nat → Nat → Int32) (op : Nat → Nat → Int64) (ki fa qu : Nat → Nat → Int32) (cn w : Nat) (kn : Nat → Nat) (hK : gK cn w kn (sz g) (wd g) (ki g)) (hS : gS w (st g)) (hO : gO cn w kn (op g)) :
    ∀ q c, c + q = cn → (∀ d, d < c → 1 < kn d → JA cn w kn d) → ∀ F Q, fz_J G mX1_firstPlaceApart rX1_firstPlaceApart (fz_Z G E0 0 0 (fun r U => FA cn w kn r ∧ ∃ F' Q', U = wMe sz wd st op ki fa qu g F' Q')) E0 0 0 2 [(1, zI (nI c)), (0, zR 2 g)] [] (wMe sz wd st op ki fa qu g F Q) := by
  have hK' := hK
  obtain ⟨k1, k2, k3, k4, k5, k6, k7⟩ := hK
  intro q
  induction q with
  | zero =>
    intro c hc hd F Q
    have e : c = cn := by omega
    subst e
    refine fz_iload_n dX1_firstPlaceApart_2 rfl ?_
    refine fz_aload_n dX1_firstPlaceApart_3 rfl ?_
    refine fz_get dX1_firstPlaceApart_4 fX1_28 rfl (hg) rfl ?_
    rw [k5]
    refine fz_icmp_ge (tgt := 34) dX1_firstPlaceApart_7 (by decide) (fun c7 => ?_) (fun c7 => ?_)
    · skip
      refine fz_iconst (v := -1) dX1_firstPlaceApart_34 (by decide) ?_
      refine fz_iret dX1_firstPlaceApart_35 rfl (Nat.zero_le _) (Nat.zero_le _) ⟨Or.inl ⟨rfl, hd⟩, F, Q, rfl⟩
    · exact absurd (nI_le (Nat.le_refl _) (by omega)) c7
  | succ q ih =>
    intro c hc hd F Q
    have hkc := k7 c (by omega)
    refine fz_iload_n dX1_firstPlaceApart_2 rfl ?_
    refine fz_aload_n dX1_firstPlaceApart_3 rfl ?_
    refine fz_get dX1_firstPlaceApart_4 fX1_28 rfl (hg) rfl ?_
    rw [k5]
    refine fz_icmp_ge (tgt := 34) dX1_firstPlaceApart_7 (by decide) (fun c7 => ?_) (fun c7 => ?_)
    · exact absurd ((nI_leI (by omega) (by omega)).mp c7) (by omega)
    · skip
      refine fz_aload_n dX1_firstPlaceApart_10 rfl ?_
      refine fz_iload_n dX1_firstPlaceApart_11 rfl ?_
      refine fz_callV (tX1_isPlace g hg sz wd ki c (kn c) (by omega) (by omega) hkc.1) dX1_firstPlaceApart_12 kX1_76 rfl (hg) ⟨rfl, rfl, trivial⟩ (Nat.le_of_ble_eq_true rfl) (Nat.le_of_ble_eq_true rfl) (Nat.le_of_ble_eq_true rfl) (Nat.le_of_ble_eq_true rfl) (Nat.le_of_ble_eq_true rfl) rfl (fun r U hq => ?_)
      obtain ⟨rfl, rfl⟩ := hq
      refine fz_back rfl ?_
      refine fz_wo (V' := wMe sz wd st op ki fa qu g F Q) rfl ?_
      by_cases hp : 1 < kn c
      · rw [if_pos hp]
        refine fz_if_eq (tgt := 28) dX1_firstPlaceApart_15 (by decide) (fun c15 => ?_) (fun c15 => ?_)
        · exact absurd c15 (by decide)
        · skip
          refine fz_aload_n dX1_firstPlaceApart_18 rfl ?_
          refine fz_iload_n dX1_firstPlaceApart_19 rfl ?_
          refine fz_callV (tX1_isJoinedToAll g hg sz wd st op ki fa qu F Q cn w kn c hK' hS hO (by omega)) dX1_firstPlaceApart_20 kX1_79 rfl (hg) ⟨rfl, rfl, rfl, rfl, rfl, rfl, trivial⟩ (Nat.le_of_ble_eq_true rfl) (Nat.le_of_ble_eq_true rfl) (Nat.le_of_ble_eq_true rfl) (Nat.le_of_ble_eq_true rfl) (Nat.le_of_ble_eq_true rfl) rfl (fun r U hq => ?_)
          obtain ⟨hj, F', Q', rfl⟩ := hq
          refine fz_back rfl ?_
          refine fz_wo (V' := wMe sz wd st op ki fa qu g F' Q') rfl ?_
          rcases hj with ⟨rfl, hj⟩ | ⟨rfl, hj⟩
          · skip
            refine fz_if_ne (tgt := 28) dX1_firstPlaceApart_23 (by decide) (fun c23 => ?_) (fun c23 => ?_)
            · skip
              refine fz_incN dX1_firstPlaceApart_28 rfl (Nat.le_of_ble_eq_true rfl) ?_
              refine fz_goto (tgt := 2) dX1_firstPlaceApart_31 (by decide) ?_
              refine ih (c + 1) (by omega) (fun d h1 h2 => ?_) F' Q'
              by_cases e : d = c
              · rw [e]; exact hj
              · exact hd d (by omega) h2
            · exact absurd c23 (by decide)
          · skip
            refine fz_if_ne (tgt := 28) dX1_firstPlaceApart_23 (by decide) (fun c23 => ?_) (fun c23 => ?_)
            · exact absurd rfl c23
            · skip
              refine fz_iload_n dX1_firstPlaceApart_26 rfl ?_
              refine fz_iret dX1_firstPlaceApart_27 rfl (Nat.zero_le _) (Nat.zero_le _) ⟨Or.inr ⟨c, by omega, rfl, hp, hj, hd⟩, F', Q', rfl⟩
      · rw [if_neg hp]
        refine fz_if_eq (tgt := 28) dX1_firstPlaceApart_15 (by decide) (fun c15 => ?_) (fun c15 => ?_)
        · skip
          refine fz_incN dX1_firstPlaceApart_28 rfl (Nat.le_of_ble_eq_true rfl) ?_
          refine fz_goto (tgt := 2) dX1_firstPlaceApart_31 (by decide) ?_
          refine ih (c + 1) (by omega) (fun d h1 h2 => ?_) F Q
          by_cases e : d = c
          · rw [e] at h2; exact absurd h2 hp
          · exact hd d (by omega) h2
        · exact absurd rfl c15
theorem tX1_firstPlaceApart {G : fz_G} (g : Nat) (hg : g < 2) (sz wd : Nat → Int32) (st : Nat → Nat → Int32) (op : Nat → Nat → Int64) (ki fa qu : Nat → Nat → Int32) (F Q : Nat → Int32) (cn w : Nat) (kn : Nat → Nat) (hK : gK cn w kn (sz g) (wd g) (ki g)) (hS : gS w (st g)) (hO : gO cn w kn (op g)) :
    fz_T G mX1_firstPlaceApart rX1_firstPlaceApart [zR 2 g] (wMe sz wd st op ki fa qu g F Q) (fun r U => FA cn w kn r ∧ ∃ F' Q', U = wMe sz wd st op ki fa qu g F' Q') := by
  refine fz_T.of (by decide) (Nat.le_of_ble_eq_true rfl) (fun E0 => ?_)
  refine fz_iconst (v := nI 0) dX1_firstPlaceApart_0 (by decide) ?_
  refine fz_istore_n dX1_firstPlaceApart_1 (Nat.le_of_ble_eq_true rfl) ?_
  exact lX1_first g hg sz wd st op ki fa qu cn w kn hK hS hO cn 0 (by omega) (fun d h => by omega) F Q
end
section
/-! THE TIMETABLE: FleetController$Timetable -/
theorem bt_bit (w : Int64) (k i : Nat) : (bt w k).testBit i = (decide (i < 8) && bl w (8 * k + i)) := by
  show (w.toBitVec.toNat / 2 ^ (8 * k) % 2 ^ 8).testBit i = _
  rw [Nat.testBit_mod_two_pow, Nat.testBit_div_two_pow, Nat.add_comm i]
  rfl
theorem bt_of {w : Int64} {k c : Nat} (hc : c < 256) (h : ∀ i, i < 8 → bl w (8 * k + i) = c.testBit i) : bt w k = c := by
  apply Nat.eq_of_testBit_eq
  intro i
  rw [bt_bit]
  by_cases hi : i < 8
  · rw [h i hi]; simp [hi]
  · have : c.testBit i = false := Nat.testBit_lt_two_pow (Nat.lt_of_lt_of_le hc (Nat.le_trans (show 256 ≤ 2 ^ 8 by decide) (Nat.pow_le_pow_right (by decide) (by omega))))
    simp [hi, this]
theorem bt_same {w w' : Int64} {k : Nat} (h : ∀ i, i < 8 → bl w (8 * k + i) = bl w' (8 * k + i)) : bt w k = bt w' k :=
  bt_of (bt_lt _ _) (fun i hi => by rw [h i hi, bt_bit]; simp [hi])
theorem bl_nI {c : Nat} (hc : c < 2 ^ 31) {i : Nat} (hi : i < 64) : bl (nI c).toInt64 i = c.testBit i := by
  rw [nI_l hc]
  show (BitVec.ofNat 64 c).getLsbD i = _
  rw [BitVec.getLsbD_ofNat]
  simp [hi]
theorem bl_255 {i : Nat} (hi : i < 64) : bl 255 i = decide (i < 8) := by
  have h : (255 : Int64) = (nI 255).toInt64 := by decide
  rw [h, bl_nI (by omega) hi]
  have h2 : ∀ i, i < 64 → (255 : Nat).testBit i = decide (i < 8) := by decide +kernel
  exact h2 i hi
/-- a byte of a long set anew -/
def wby (x : Int64) (r c : Nat) : Int64 := (x &&& (((255 : Int64) <<< ((nI (8 * r)).toInt64 &&& 63)) ^^^ (-1))) ||| ((nI c).toInt64 <<< ((nI (8 * r)).toInt64 &&& 63))
theorem wby_bit (x : Int64) {r c : Nat} (hr : r < 8) (hc : c < 256) {i : Nat} (hi : i < 64) : bl (wby x r c) i = if 8 * r ≤ i ∧ i < 8 * r + 8 then c.testBit (i - 8 * r) else bl x i := by
  unfold wby
  rw [bl_or, bl_and, bl_not _ hi, bl_shl _ (by omega) hi, bl_shl _ (by omega) hi, Nat.mod_eq_of_lt (show 8 * r < 64 by omega), bl_255 (by omega), bl_nI (by omega) (by omega)]
  by_cases h1 : 8 * r ≤ i
  · by_cases h2 : i < 8 * r + 8
    · have h3 : i - 8 * r < 8 := by omega
      rw [if_pos ⟨h1, h2⟩]
      simp [h1, h3]
    · have h3 : ¬ i - 8 * r < 8 := by omega
      have h4 : c.testBit (i - 8 * r) = false := Nat.testBit_lt_two_pow (Nat.lt_of_lt_of_le hc (Nat.le_trans (show 256 ≤ 2 ^ 8 by decide) (Nat.pow_le_pow_right (by decide) (by omega))))
      rw [if_neg (fun z => h2 z.2)]
      simp [h1, h3, h4]
  · rw [if_neg (fun z => h1 z.1)]
    simp [h1]
theorem wby_bt (x : Int64) {r c : Nat} (hr : r < 8) (hc : c < 256) {k : Nat} (hk : k < 8) : bt (wby x r c) k = if k = r then c else bt x k := by
  by_cases h : k = r
  · rw [if_pos h, h]
    exact bt_of hc (fun i hi => by rw [wby_bit x hr hc (by omega), if_pos (by omega), Nat.add_sub_cancel_left])
  · rw [if_neg h]
    exact bt_same (fun i hi => by rw [wby_bit x hr hc (by omega), if_neg (by omega)])
abbrev eTT (rb : Int32) : fz_E := zo 8 1 (fun _ => [zR 20 0, zR 21 0, zR 22 0, zR 23 0, zI rb])
abbrev eRw (rows : Nat → Int64) : fz_E := zl 1 1 5001 (fun _ => rows)
abbrev e6 (f : Nat → Int32) : fz_E := zi 0 1 6 (fun _ => f)
abbrev e80 (f : Nat → Int32) : fz_E := zi 0 1 80 (fun _ => f)
theorem tX8_robots {G : fz_G} (rb : Int32) : fz_T G mX8_robots rX8_robots [zR 19 0] [(19, eTT rb)] (fun r U => r = some (zI rb) ∧ U = [(19, eTT rb)]) := by
  refine fz_T.of (by decide) (Nat.le_of_ble_eq_true rfl) (fun E0 => ?_)
  refine fz_aload_n dX8_robots_0 rfl ?_
  refine fz_get dX8_robots_1 fX8_25 rfl (Nat.one_pos) rfl ?_
  refine fz_iret dX8_robots_4 rfl (Nat.zero_le _) (Nat.zero_le _) ⟨rfl, rfl⟩
theorem tX8_endOf {G : fz_G} (rb : Int32) (en : Nat → Int32) (r : Nat) (hr : r < 6) : fz_T G mX8_endOf rX8_endOf [zR 19 0, zI (nI r)] [(19, eTT rb), (21, e6 en)] (fun x U => x = some (zI (en r)) ∧ U = [(19, eTT rb), (21, e6 en)]) := by
  refine fz_T.of (by decide) (Nat.le_of_ble_eq_true rfl) (fun E0 => ?_)
  refine fz_aload_n dX8_endOf_0 rfl ?_
  refine fz_get dX8_endOf_1 fX8_15 rfl (Nat.one_pos) rfl ?_
  refine fz_iload_n dX8_endOf_4 rfl ?_
  refine fz_iald dX8_endOf_5 rfl rfl (Nat.one_pos) (vp_in_nI hr (by omega)) ?_
  rw [nI_clamp (by omega)]
  refine fz_iret dX8_endOf_6 rfl (Nat.zero_le _) (Nat.zero_le _) ⟨rfl, rfl⟩
theorem tX8_endTimeOf {G : fz_G} (rb : Int32) (et : Nat → Int32) (r : Nat) (hr : r < 6) : fz_T G mX8_endTimeOf rX8_endTimeOf [zR 19 0, zI (nI r)] [(19, eTT rb), (22, e6 et)] (fun x U => x = some (zI (et r)) ∧ U = [(19, eTT rb), (22, e6 et)]) := by
  refine fz_T.of (by decide) (Nat.le_of_ble_eq_true rfl) (fun E0 => ?_)
  refine fz_aload_n dX8_endTimeOf_0 rfl ?_
  refine fz_get dX8_endTimeOf_1 fX8_19 rfl (Nat.one_pos) rfl ?_
  refine fz_iload_n dX8_endTimeOf_4 rfl ?_
  refine fz_iald dX8_endTimeOf_5 rfl rfl (Nat.one_pos) (vp_in_nI hr (by omega)) ?_
  rw [nI_clamp (by omega)]
  refine fz_iret dX8_endTimeOf_6 rfl (Nat.zero_le _) (Nat.zero_le _) ⟨rfl, rfl⟩
theorem tX8_ownerOf {G : fz_G} (rb : Int32) (ow : Nat → Int32) (c : Nat) (hc : c < 80) : fz_T G mX8_ownerOf rX8_ownerOf [zR 19 0, zI (nI c)] [(19, eTT rb), (23, e80 ow)] (fun x U => x = some (zI (ow c)) ∧ U = [(19, eTT rb), (23, e80 ow)]) := by
  refine fz_T.of (by decide) (Nat.le_of_ble_eq_true rfl) (fun E0 => ?_)
  refine fz_aload_n dX8_ownerOf_0 rfl ?_
  refine fz_get dX8_ownerOf_1 fX8_22 rfl (Nat.one_pos) rfl ?_
  refine fz_iload_n dX8_ownerOf_4 rfl ?_
  refine fz_iald dX8_ownerOf_5 rfl rfl (Nat.one_pos) (vp_in_nI hc (by omega)) ?_
  rw [nI_clamp (by omega)]
  refine fz_iret dX8_ownerOf_6 rfl (Nat.zero_le _) (Nat.zero_le _) ⟨rfl, rfl⟩
theorem tX8_isEndOfOther {G : fz_G} (rb : Int32) (ow : Nat → Int32) (c r : Nat) (hc : c < 80) : fz_T G mX8_isEndOfOther rX8_isEndOfOther [zR 19 0, zI (nI c), zI (nI r)] [(19, eTT rb), (23, e80 ow)] (fun x U => x = some (zI (if ¬ ow c = -1 ∧ ¬ ow c = nI r then 1 else 0)) ∧ U = [(19, eTT rb), (23, e80 ow)]) := by
  refine fz_T.of (by decide) (Nat.le_of_ble_eq_true rfl) (fun E0 => ?_)
  refine fz_aload_n dX8_isEndOfOther_0 rfl ?_
  refine fz_get dX8_isEndOfOther_1 fX8_22 rfl (Nat.one_pos) rfl ?_
  refine fz_iload_n dX8_isEndOfOther_4 rfl ?_
  refine fz_iald dX8_isEndOfOther_5 rfl rfl (Nat.one_pos) (vp_in_nI hc (by omega)) ?_
  refine fz_iconst (v := -1) dX8_isEndOfOther_6 (by decide) ?_
  rw [nI_clamp (by omega)]
  refine fz_icmp_eq (tgt := 24) dX8_isEndOfOther_7 (by decide) (fun c7 => ?_) (fun c7 => ?_)
  · skip
    refine fz_iconst (v := nI 0) dX8_isEndOfOther_24 (by decide) ?_
    refine fz_zret dX8_isEndOfOther_25 rfl (by decide) (Nat.zero_le _) (Nat.zero_le _) ⟨by rw [if_neg (fun z => z.1 c7)]; rfl, rfl⟩
  · skip
    refine fz_aload_n dX8_isEndOfOther_10 rfl ?_
    refine fz_get dX8_isEndOfOther_11 fX8_22 rfl (Nat.one_pos) rfl ?_
    refine fz_iload_n dX8_isEndOfOther_14 rfl ?_
    refine fz_iald dX8_isEndOfOther_15 rfl rfl (Nat.one_pos) (vp_in_nI hc (by omega)) ?_
    refine fz_iload_n dX8_isEndOfOther_16 rfl ?_
    rw [nI_clamp (by omega)]
    refine fz_icmp_eq (tgt := 24) dX8_isEndOfOther_17 (by decide) (fun c17 => ?_) (fun c17 => ?_)
    · skip
      refine fz_iconst (v := nI 0) dX8_isEndOfOther_24 (by decide) ?_
      refine fz_zret dX8_isEndOfOther_25 rfl (by decide) (Nat.zero_le _) (Nat.zero_le _) ⟨by rw [if_neg (fun z => z.2 c17)]; rfl, rfl⟩
    · skip
      refine fz_iconst (v := nI 1) dX8_isEndOfOther_20 (by decide) ?_
      refine fz_goto (tgt := 25) dX8_isEndOfOther_21 (by decide) ?_
      refine fz_zret dX8_isEndOfOther_25 rfl (by decide) (Nat.zero_le _) (Nat.zero_le _) ⟨by rw [if_pos ⟨c7, c17⟩]; rfl, rfl⟩
theorem tX8_clear {G : fz_G} (rb : Int32) (ow : Nat → Int32) : fz_T G mX8_clear rX8_clear [zR 19 0] [(19, eTT rb), (23, e80 ow)] (fun x U => x = none ∧ ∃ ow', (∀ j, j < 80 → ow' j = -1) ∧ U = [(19, eTT 0), (23, e80 ow')]) := by
  refine fz_T.of (by decide) (Nat.le_of_ble_eq_true rfl) (fun E0 => ?_)
  refine fz_aload_n dX8_clear_0 rfl ?_
  refine fz_get dX8_clear_1 fX8_22 rfl (Nat.one_pos) rfl ?_
  refine fz_iconst (v := -1) dX8_clear_4 (by decide) ?_
  refine fz_callS (tJ7_fill_23 (-1) ow) dX8_clear_5 kX8_29 ⟨rfl, trivial⟩ (Nat.le_of_ble_eq_true rfl) (Nat.le_of_ble_eq_true rfl) (Nat.le_of_ble_eq_true rfl) (Nat.le_of_ble_eq_true rfl) (Nat.le_of_ble_eq_true rfl) rfl (fun r U hq => ?_)
  obtain ⟨rfl, a, ha, rfl⟩ := hq
  refine fz_back rfl ?_
  refine fz_aload_n dX8_clear_8 rfl ?_
  refine fz_iconst (v := nI 0) dX8_clear_9 (by decide) ?_
  refine fz_put1 dX8_clear_10 fX8_25 rfl (Nat.le_of_ble_eq_true rfl) ⟨rfl, rfl⟩ ?_
  refine fz_vret dX8_clear_13 rfl (Nat.zero_le _) (Nat.zero_le _) ⟨rfl, a, ha, rfl⟩
/-- where a robot is by the table -/
def cAt (rows : Nat → Int64) (en et : Nat → Int32) (r t : Nat) : Int32 := if nI t < et r then nI (bt (rows t) r) else en r
theorem tX8_cellAt {G : fz_G} (rb : Int32) (rows : Nat → Int64) (en et : Nat → Int32) (r t : Nat) (hr : r < 6) (ht : t < 5001) : fz_T G mX8_cellAt rX8_cellAt [zR 19 0, zI (nI r), zI (nI t)] [(19, eTT rb), (20, eRw rows), (21, e6 en), (22, e6 et)] (fun x U => x = some (zI (cAt rows en et r t)) ∧ U = [(19, eTT rb), (20, eRw rows), (21, e6 en), (22, e6 et)]) := by
  refine fz_T.of (by decide) (Nat.le_of_ble_eq_true rfl) (fun E0 => ?_)
  refine fz_iload_n dX8_cellAt_0 rfl ?_
  refine fz_aload_n dX8_cellAt_1 rfl ?_
  refine fz_get dX8_cellAt_2 fX8_19 rfl (Nat.one_pos) rfl ?_
  refine fz_iload_n dX8_cellAt_5 rfl ?_
  refine fz_iald dX8_cellAt_6 rfl rfl (Nat.one_pos) (vp_in_nI hr (by omega)) ?_
  rw [nI_clamp (by omega)]
  refine fz_icmp_lt (tgt := 19) dX8_cellAt_7 (by decide) (fun c7 => ?_) (fun c7 => ?_)
  · skip
    refine fz_aload_n dX8_cellAt_19 rfl ?_
    refine fz_get dX8_cellAt_20 fX8_9 rfl (Nat.one_pos) rfl ?_
    refine fz_iload_n dX8_cellAt_23 rfl ?_
    refine fz_lald dX8_cellAt_24 rfl rfl (Nat.one_pos) (vp_in_nI ht (by omega)) ?_
    refine fz_bipush (v := nI 8) dX8_cellAt_25 (by decide) ?_
    refine fz_iload_n dX8_cellAt_27 rfl ?_
    refine fz_imul dX8_cellAt_28 ?_
    refine fz_lushr dX8_cellAt_29 ?_
    refine fz_l2i dX8_cellAt_30 ?_
    refine fz_sipush (v := nI 255) dX8_cellAt_31 (by decide) ?_
    rw [nI_clamp (by omega), nI_mul]
    refine fz_iand dX8_cellAt_34 ?_
    rw [bt_u _ (by omega)]
    refine fz_iret dX8_cellAt_35 rfl (Nat.zero_le _) (Nat.zero_le _) ⟨by unfold cAt; rw [if_pos c7], rfl⟩
  · skip
    refine fz_aload_n dX8_cellAt_10 rfl ?_
    refine fz_get dX8_cellAt_11 fX8_15 rfl (Nat.one_pos) rfl ?_
    refine fz_iload_n dX8_cellAt_14 rfl ?_
    refine fz_iald dX8_cellAt_15 rfl rfl (Nat.one_pos) (vp_in_nI hr (by omega)) ?_
    refine fz_goto (tgt := 35) dX8_cellAt_16 (by decide) ?_
    rw [nI_clamp (by omega)]
    refine fz_iret dX8_cellAt_35 rfl (Nat.zero_le _) (Nat.zero_le _) ⟨by unfold cAt; rw [if_neg c7], rfl⟩
theorem tX8_write {G : fz_G} (rb : Int32) (rows : Nat → Int64) (r t c : Nat) (hr : r < 6) (ht : t < 5001) : fz_T G mX8_write rX8_write [zR 19 0, zI (nI r), zI (nI t), zI (nI c)] [(19, eTT rb), (20, eRw rows)] (fun x U => x = none ∧ U = [(19, eTT rb), (20, eRw (vp_updL rows t (wby (rows t) r c)))]) := by
  refine fz_T.of (by decide) (Nat.le_of_ble_eq_true rfl) (fun E0 => ?_)
  refine fz_bipush (v := nI 8) dX8_write_0 (by decide) ?_
  refine fz_iload_n dX8_write_2 rfl ?_
  refine fz_imul dX8_write_3 ?_
  rw [nI_mul]
  refine fz_istore dX8_write_4 (Nat.le_of_ble_eq_true rfl) ?_
  refine fz_aload_n dX8_write_6 rfl ?_
  refine fz_get dX8_write_7 fX8_9 rfl (Nat.one_pos) rfl ?_
  refine fz_iload_n dX8_write_10 rfl ?_
  refine fz_aload_n dX8_write_11 rfl ?_
  refine fz_get dX8_write_12 fX8_9 rfl (Nat.one_pos) rfl ?_
  refine fz_iload_n dX8_write_15 rfl ?_
  refine fz_lald dX8_write_16 rfl rfl (Nat.one_pos) (vp_in_nI ht (by omega)) ?_
  rw [nI_clamp (by omega)]
  refine fz_ldc2 dX8_write_17 nX8_39 ?_
  refine fz_iload dX8_write_20 rfl ?_
  refine fz_lshl dX8_write_22 ?_
  refine fz_ldc2 dX8_write_23 nX8_41 ?_
  refine fz_lxor dX8_write_26 ?_
  refine fz_land dX8_write_27 ?_
  refine fz_iload_n dX8_write_28 rfl ?_
  refine fz_i2l dX8_write_29 ?_
  refine fz_iload dX8_write_30 rfl ?_
  refine fz_lshl dX8_write_32 ?_
  refine fz_lor dX8_write_33 ?_
  refine fz_last1 dX8_write_34 rfl rfl (vp_in_nI ht (by omega)) ?_
  rw [nI_clamp (by omega)]
  refine fz_vret dX8_write_35 rfl (Nat.zero_le _) (Nat.zero_le _) ⟨rfl, rfl⟩
theorem tX8_setEnd {G : fz_G} (rb : Int32) (en et ow : Nat → Int32) (r t c e : Nat) (hr : r < 6) (hc : c < 80) (he : e < 80) (hen : en r = nI e) : fz_T G mX8_setEnd rX8_setEnd [zR 19 0, zI (nI r), zI (nI t), zI (nI c)] [(19, eTT rb), (21, e6 en), (22, e6 et), (23, e80 ow)] (fun x U => x = none ∧ U = [(19, eTT rb), (21, e6 (upd en r (nI c))), (22, e6 (upd et r (nI t))), (23, e80 (upd (upd ow e (-1)) c (nI r)))]) := by
  refine fz_T.of (by decide) (Nat.le_of_ble_eq_true rfl) (fun E0 => ?_)
  refine fz_aload_n dX8_setEnd_0 rfl ?_
  refine fz_get dX8_setEnd_1 fX8_22 rfl (Nat.one_pos) rfl ?_
  refine fz_aload_n dX8_setEnd_4 rfl ?_
  refine fz_get dX8_setEnd_5 fX8_15 rfl (Nat.one_pos) rfl ?_
  refine fz_iload_n dX8_setEnd_8 rfl ?_
  refine fz_iald dX8_setEnd_9 rfl rfl (Nat.one_pos) (vp_in_nI hr (by omega)) ?_
  rw [nI_clamp (by omega), hen]
  refine fz_iconst (v := -1) dX8_setEnd_10 (by decide) ?_
  refine fz_iast1 dX8_setEnd_11 rfl rfl (vp_in_nI he (by omega)) ?_
  rw [nI_clamp (by omega)]
  refine fz_aload_n dX8_setEnd_12 rfl ?_
  refine fz_get dX8_setEnd_13 fX8_22 rfl (Nat.one_pos) rfl ?_
  refine fz_iload_n dX8_setEnd_16 rfl ?_
  refine fz_iload_n dX8_setEnd_17 rfl ?_
  refine fz_iast1 dX8_setEnd_18 rfl rfl (vp_in_nI hc (by omega)) ?_
  rw [nI_clamp (by omega)]
  refine fz_aload_n dX8_setEnd_19 rfl ?_
  refine fz_get dX8_setEnd_20 fX8_15 rfl (Nat.one_pos) rfl ?_
  refine fz_iload_n dX8_setEnd_23 rfl ?_
  refine fz_iload_n dX8_setEnd_24 rfl ?_
  refine fz_iast1 dX8_setEnd_25 rfl rfl (vp_in_nI hr (by omega)) ?_
  rw [nI_clamp (by omega)]
  refine fz_aload_n dX8_setEnd_26 rfl ?_
  refine fz_get dX8_setEnd_27 fX8_19 rfl (Nat.one_pos) rfl ?_
  refine fz_iload_n dX8_setEnd_30 rfl ?_
  refine fz_iload_n dX8_setEnd_31 rfl ?_
  refine fz_iast1 dX8_setEnd_32 rfl rfl (vp_in_nI hr (by omega)) ?_
  rw [nI_clamp (by omega)]
  refine fz_vret dX8_setEnd_33 rfl (Nat.zero_le _) (Nat.zero_le _) ⟨rfl, rfl⟩
theorem tX8_add {G : fz_G} (rn : Nat) (hrn : rn < 6) (rows : Nat → Int64) (en et ow : Nat → Int32) (c : Nat) (hc : c < 80) : fz_T G mX8_add rX8_add [zR 19 0, zI (nI c)] [(19, eTT (nI rn)), (20, eRw rows), (21, e6 en), (22, e6 et), (23, e80 ow)] (fun x U => x = none ∧ U = [(19, eTT (nI (rn + 1))), (20, eRw (vp_updL rows 0 (wby (rows 0) rn c))), (21, e6 (upd en rn (nI c))), (22, e6 (upd et rn (nI 0))), (23, e80 (upd ow c (nI rn)))]) := by
  refine fz_T.of (by decide) (Nat.le_of_ble_eq_true rfl) (fun E0 => ?_)
  refine fz_aload_n dX8_add_0 rfl ?_
  refine fz_get dX8_add_1 fX8_15 rfl (Nat.one_pos) rfl ?_
  refine fz_aload_n dX8_add_4 rfl ?_
  refine fz_get dX8_add_5 fX8_25 rfl (Nat.one_pos) rfl ?_
  refine fz_iload_n dX8_add_8 rfl ?_
  refine fz_iast1 dX8_add_9 rfl rfl (vp_in_nI hrn (by omega)) ?_
  rw [nI_clamp (by omega)]
  refine fz_aload_n dX8_add_10 rfl ?_
  refine fz_get dX8_add_11 fX8_19 rfl (Nat.one_pos) rfl ?_
  refine fz_aload_n dX8_add_14 rfl ?_
  refine fz_get dX8_add_15 fX8_25 rfl (Nat.one_pos) rfl ?_
  refine fz_iconst (v := nI 0) dX8_add_18 (by decide) ?_
  refine fz_iast1 dX8_add_19 rfl rfl (vp_in_nI hrn (by omega)) ?_
  rw [nI_clamp (by omega)]
  refine fz_aload_n dX8_add_20 rfl ?_
  refine fz_get dX8_add_21 fX8_22 rfl (Nat.one_pos) rfl ?_
  refine fz_iload_n dX8_add_24 rfl ?_
  refine fz_aload_n dX8_add_25 rfl ?_
  refine fz_get dX8_add_26 fX8_25 rfl (Nat.one_pos) rfl ?_
  refine fz_iast1 dX8_add_29 rfl rfl (vp_in_nI hc (by omega)) ?_
  rw [nI_clamp (by omega)]
  refine fz_wo (V' := [(19, eTT (nI rn)), (20, eRw rows), (21, e6 (upd en rn (nI c))), (22, e6 (upd et rn (nI 0))), (23, e80 (upd ow c (nI rn)))]) rfl ?_
  refine fz_aload_n dX8_add_30 rfl ?_
  refine fz_aload_n dX8_add_31 rfl ?_
  refine fz_get dX8_add_32 fX8_25 rfl (Nat.one_pos) rfl ?_
  refine fz_iconst (v := nI 0) dX8_add_35 (by decide) ?_
  refine fz_iload_n dX8_add_36 rfl ?_
  refine fz_callV (tX8_write (nI rn) rows rn 0 c hrn (by omega)) dX8_add_37 kX8_35 rfl (Nat.one_pos) ⟨rfl, rfl, trivial⟩ (Nat.le_of_ble_eq_true rfl) (Nat.le_of_ble_eq_true rfl) (Nat.le_of_ble_eq_true rfl) (Nat.le_of_ble_eq_true rfl) (Nat.le_of_ble_eq_true rfl) rfl (fun r U hq => ?_)
  obtain ⟨rfl, rfl⟩ := hq
  refine fz_back rfl ?_
  refine fz_aload_n dX8_add_40 rfl ?_
  refine fz_dup dX8_add_41 rfl ?_
  refine fz_get dX8_add_42 fX8_25 rfl (Nat.one_pos) rfl ?_
  refine fz_iconst (v := nI 1) dX8_add_45 (by decide) ?_
  refine fz_iadd dX8_add_46 ?_
  rw [nI_add]
  refine fz_put1 dX8_add_47 fX8_25 rfl (Nat.le_of_ble_eq_true rfl) ⟨rfl, rfl⟩ ?_
  refine fz_vret dX8_add_50 rfl (Nat.zero_le _) (Nat.zero_le _) ⟨rfl, rfl⟩
theorem tX8_keep {G : fz_G} (rb : Int32) (rows : Nat → Int64) (en et : Nat → Int32) (r t c : Nat) (hr : r < 6) (ht : t < 5001) (hc : cAt rows en et r t = nI c) : fz_T G mX8_keep rX8_keep [zR 19 0, zI (nI r), zI (nI t)] [(19, eTT rb), (20, eRw rows), (21, e6 en), (22, e6 et)] (fun x U => x = none ∧ U = [(19, eTT rb), (20, eRw (vp_updL rows t (wby (rows t) r c))), (21, e6 en), (22, e6 et)]) := by
  refine fz_T.of (by decide) (Nat.le_of_ble_eq_true rfl) (fun E0 => ?_)
  refine fz_aload_n dX8_keep_0 rfl ?_
  refine fz_iload_n dX8_keep_1 rfl ?_
  refine fz_iload_n dX8_keep_2 rfl ?_
  refine fz_aload_n dX8_keep_3 rfl ?_
  refine fz_iload_n dX8_keep_4 rfl ?_
  refine fz_iload_n dX8_keep_5 rfl ?_
  refine fz_callV (tX8_cellAt rb rows en et r t hr ht) dX8_keep_6 kX8_43 rfl (Nat.one_pos) ⟨rfl, rfl, rfl, rfl, trivial⟩ (Nat.le_of_ble_eq_true rfl) (Nat.le_of_ble_eq_true rfl) (Nat.le_of_ble_eq_true rfl) (Nat.le_of_ble_eq_true rfl) (Nat.le_of_ble_eq_true rfl) rfl (fun r U hq => ?_)
  obtain ⟨rfl, rfl⟩ := hq
  refine fz_back rfl ?_
  rw [hc]
  refine fz_callV (tX8_write rb rows r t c hr ht) dX8_keep_9 kX8_35 rfl (Nat.one_pos) ⟨rfl, rfl, trivial⟩ (Nat.le_of_ble_eq_true rfl) (Nat.le_of_ble_eq_true rfl) (Nat.le_of_ble_eq_true rfl) (Nat.le_of_ble_eq_true rfl) (Nat.le_of_ble_eq_true rfl) rfl (fun r U hq => ?_)
  obtain ⟨rfl, rfl⟩ := hq
  refine fz_back rfl ?_
  refine fz_vret dX8_keep_12 rfl (Nat.zero_le _) (Nat.zero_le _) ⟨rfl, rfl⟩
end
