/-! OWN TABLES: the words that stay good, the classes by their numbers, what each method is, and what its links say. Printed by our own program out of the claim's texts. -/
def fz_tb : List Cond := lw_tbl.filter goodWord
theorem fz_mem {w : Cond} (i : Nat) (h : lw_tbl[i]? = some w) (hg : goodWord w = true) : w ∈ fz_tb := List.mem_filter.mpr ⟨List.mem_of_getElem? h, hg⟩
theorem fz_mems {ws : List Cond} (ps : List Nat) (hp : ws = ps.filterMap (fun i => lw_tbl[i]?)) (h : ws.all goodWord = true) : ∀ w ∈ ws, w ∈ fz_tb := by
  intro w hw
  have h1 := List.all_eq_true.mp h w hw
  rw [hp] at hw
  obtain ⟨i, -, hi⟩ := List.mem_filterMap.mp hw
  exact fz_mem i hi h1
theorem fz_tbl_good : ∀ w ∈ fz_tb, (w.onTables && w.keeps) = true ∨ ∃ ty, w = .arrayClass ty := fun w hw => good_of_word (List.mem_filter.mp hw).2
abbrev classes : List vw_C := [(RX0, TX0, 10), (RX1, TX1, 7), (RX2, TX2, 6), (RX3, TX3, 1), (RX4, TX4, 6), (RX5, TX5, 7), (RX6, TX6, 4), (RX7, TX7, 9), (RX8, TX8, 5), (RX9, TX9, 10), (RX10, TX10, 6), (RX11, TX11, 39)]
def fz_tyL : List FieldType := [.int, .long, .boolean, .object RX4, .object RX7, .object RX6]
def fz_nest : List Cond := [.methodLinkNest RX10 11 yX1_init RX10, .methodLinkNest RX10 21 yX2_init RX10, .methodLinkNest RX5 27 yX4_init RX10, .methodLinkNest RX5 28 yX7_init RX10, .methodLinkNest RX0 19 yX8_init RX10, .methodLinkNest RX0 26 yX3_init RX10, .methodLinkNest RX0 48 yX6_init RX10, .arrayOver (.object RX4), .arrayOver (.object RX7), .arrayOver (.object RX6)]
theorem fz_nest_ok : ∀ w ∈ fz_nest, (∃ a i x h, w = .methodLinkNest a i x h) ∨ (∃ a i b n d h, w = .fieldLinkNest a i b n d h) ∨ (∃ C, w = .arrayOver (.object C)) := by
  intro w hw
  simp only [fz_nest, List.mem_cons, List.not_mem_nil, or_false] at hw
  rcases hw with rfl | rfl | rfl | rfl | rfl | rfl | rfl | rfl | rfl | rfl <;> first | exact Or.inl ⟨_, _, _, _, rfl⟩ | exact Or.inr (Or.inr ⟨_, rfl⟩)
theorem fz_nest_in : ∀ w ∈ fz_nest, w ∈ lw_tbl := by
  intro w hw
  have hp : fz_nest = [89, 121, 155, 185, 259, 281, 327, 151, 153, 256].filterMap (fun i => lw_tbl[i]?) := by decide +kernel
  rw [hp] at hw
  obtain ⟨i, -, hi⟩ := List.mem_filterMap.mp hw
  exact List.mem_of_getElem? hi
theorem izX0 : ∀ w ∈ u_ws RX0 TX0 10, w ∈ fz_tb := fz_mems [358, 360, 362, 364, 366, 368, 370, 372, 374, 376] (by decide +kernel) (by decide +kernel)
theorem izX1 : ∀ w ∈ u_ws RX1 TX1 7, w ∈ fz_tb := fz_mems [102, 104, 106, 108, 110, 112, 114] (by decide +kernel) (by decide +kernel)
theorem izX2 : ∀ w ∈ u_ws RX2 TX2 6, w ∈ fz_tb := fz_mems [131, 133, 135, 137, 139, 141] (by decide +kernel) (by decide +kernel)
theorem izX3 : ∀ w ∈ u_ws RX3 TX3 1, w ∈ fz_tb := fz_mems [286] (by decide +kernel) (by decide +kernel)
theorem izX4 : ∀ w ∈ u_ws RX4 TX4 6, w ∈ fz_tb := fz_mems [171, 173, 175, 177, 179, 181] (by decide +kernel) (by decide +kernel)
theorem izX5 : ∀ w ∈ u_ws RX5 TX5 7, w ∈ fz_tb := fz_mems [234, 236, 238, 240, 242, 244, 246] (by decide +kernel) (by decide +kernel)
theorem izX6 : ∀ w ∈ u_ws RX6 TX6 4, w ∈ fz_tb := fz_mems [339, 341, 343, 345] (by decide +kernel) (by decide +kernel)
theorem izX7 : ∀ w ∈ u_ws RX7 TX7 9, w ∈ fz_tb := fz_mems [208, 210, 212, 214, 216, 218, 220, 222, 224] (by decide +kernel) (by decide +kernel)
theorem izX8 : ∀ w ∈ u_ws RX8 TX8 5, w ∈ fz_tb := fz_mems [268, 270, 272, 274, 276] (by decide +kernel) (by decide +kernel)
theorem izX9 : ∀ w ∈ u_ws RX9 TX9 10, w ∈ fz_tb := fz_mems [305, 307, 309, 311, 313, 315, 317, 319, 321, 323] (by decide +kernel) (by decide +kernel)
theorem izX10 : ∀ w ∈ u_ws RX10 TX10 6, w ∈ fz_tb := fz_mems [385, 387, 389, 391, 393, 395] (by decide +kernel) (by decide +kernel)
theorem izX11 : ∀ w ∈ u_ws RX11 TX11 39, w ∈ fz_tb := fz_mems [963, 965, 967, 969, 971, 973, 975, 977, 979, 981, 983, 985, 987, 989, 991, 993, 995, 997, 999, 1001, 1003, 1005, 1007, 1009, 1011, 1013, 1015, 1017, 1019, 1021, 1023, 1025, 1027, 1029, 1031, 1033, 1035, 1037, 1039] (by decide +kernel) (by decide +kernel)
abbrev fz_Mt : Type := MethodName × ByteArray × Nat × Option FieldType
abbrev mX0_init : fz_Mt := (yX0_init, cX0_init, 4, none)
abbrev mX0_size : fz_Mt := (yX0_size, cX0_size, 1, (some .int))
abbrev mX0_now : fz_Mt := (yX0_now, cX0_now, 1, (some .int))
abbrev mX0_ways : fz_Mt := (yX0_ways, cX0_ways, 1, (some .int))
abbrev mX0_longestWay : fz_Mt := (yX0_longestWay, cX0_longestWay, 1, (some .int))
abbrev mX0_alarms : fz_Mt := (yX0_alarms, cX0_alarms, 1, (some .int))
abbrev mX0_moves : fz_Mt := (yX0_moves, cX0_moves, 3, (some .int))
abbrev mX0_begin : fz_Mt := (yX0_begin, cX0_begin, 2, none)
abbrev mX0_put : fz_Mt := (yX0_put, cX0_put, 2, (some .int))
abbrev mX0_step : fz_Mt := (yX0_step, cX0_step, 2, none)
abbrev mX0_lookForWork : fz_Mt := (yX0_lookForWork, cX0_lookForWork, 5, none)
abbrev mX0_nearestFit : fz_Mt := (yX0_nearestFit, cX0_nearestFit, 7, (some .int))
abbrev mX0_isFit : fz_Mt := (yX0_isFit, cX0_isFit, 3, (some .boolean))
abbrev mX0_nearestRefuge : fz_Mt := (yX0_nearestRefuge, cX0_nearestRefuge, 6, (some .int))
abbrev mX0_countWay : fz_Mt := (yX0_countWay, cX0_countWay, 2, (some .boolean))
abbrev mX0_take : fz_Mt := (yX0_take, cX0_take, 5, none)
abbrev mX0_goOn : fz_Mt := (yX0_goOn, cX0_goOn, 4, none)
abbrev mX0_workOn : fz_Mt := (yX0_workOn, cX0_workOn, 4, none)
abbrev mX0_tellRobot : fz_Mt := (yX0_tellRobot, cX0_tellRobot, 3, (some .int))
abbrev mX0_hasPicked : fz_Mt := (yX0_hasPicked, cX0_hasPicked, 2, (some .boolean))
abbrev mX0_cellIn : fz_Mt := (yX0_cellIn, cX0_cellIn, 3, (some .int))
abbrev mX0_cellAt : fz_Mt := (yX0_cellAt, cX0_cellAt, 3, (some .int))
abbrev mX1_init : fz_Mt := (yX1_init, cX1_init, 1, none)
abbrev mX1_size : fz_Mt := (yX1_size, cX1_size, 1, (some .int))
abbrev mX1_has : fz_Mt := (yX1_has, cX1_has, 2, (some .boolean))
abbrev mX1_kindAt : fz_Mt := (yX1_kindAt, cX1_kindAt, 2, (some .int))
abbrev mX1_isPlace : fz_Mt := (yX1_isPlace, cX1_isPlace, 2, (some .boolean))
abbrev mX1_measured : fz_Mt := (yX1_measured, cX1_measured, 2, (some .int))
abbrev mX1_placeInText : fz_Mt := (yX1_placeInText, cX1_placeInText, 2, (some .int))
abbrev mX1_load : fz_Mt := (yX1_load, cX1_load, 4, none)
abbrev mX1_findOpenMoves : fz_Mt := (yX1_findOpenMoves, cX1_findOpenMoves, 3, none)
abbrev mX1_leadsOn : fz_Mt := (yX1_leadsOn, cX1_leadsOn, 4, (some .boolean))
abbrev mX1_isOpen : fz_Mt := (yX1_isOpen, cX1_isOpen, 3, (some .boolean))
abbrev mX1_isWithinAMove : fz_Mt := (yX1_isWithinAMove, cX1_isWithinAMove, 4, (some .boolean))
abbrev mX1_hasAllKinds : fz_Mt := (yX1_hasAllKinds, cX1_hasAllKinds, 3, (some .boolean))
abbrev mX1_firstPlaceApart : fz_Mt := (yX1_firstPlaceApart, cX1_firstPlaceApart, 2, (some .int))
abbrev mX1_isJoinedToAll : fz_Mt := (yX1_isJoinedToAll, cX1_isJoinedToAll, 3, (some .boolean))
abbrev mX1_measureFrom : fz_Mt := (yX1_measureFrom, cX1_measureFrom, 6, none)
abbrev mX1_measureAround : fz_Mt := (yX1_measureAround, cX1_measureAround, 5, (some .int))
abbrev mX2_init : fz_Mt := (yX2_init, cX2_init, 1, none)
abbrev mX2_length : fz_Mt := (yX2_length, cX2_length, 1, (some .int))
abbrev mX2_width : fz_Mt := (yX2_width, cX2_width, 1, (some .int))
abbrev mX2_faultPlace : fz_Mt := (yX2_faultPlace, cX2_faultPlace, 1, (some .int))
abbrev mX2_append : fz_Mt := (yX2_append, cX2_append, 5, (some .int))
abbrev mX2_wipe : fz_Mt := (yX2_wipe, cX2_wipe, 2, (some .int))
abbrev mX2_kindOf : fz_Mt := (yX2_kindOf, cX2_kindOf, 2, (some .int))
abbrev mX2_findFault : fz_Mt := (yX2_findFault, cX2_findFault, 4, (some .int))
abbrev mX2_widenLine : fz_Mt := (yX2_widenLine, cX2_widenLine, 1, (some .boolean))
abbrev mX2_endLine : fz_Mt := (yX2_endLine, cX2_endLine, 1, (some .boolean))
abbrev mX2_byteOf : fz_Mt := (yX2_byteOf, cX2_byteOf, 3, (some .int))
abbrev mX3_init : fz_Mt := (yX3_init, cX3_init, 1, none)
abbrev mX3_alarms : fz_Mt := (yX3_alarms, cX3_alarms, 1, (some .int))
abbrev mX3_clear : fz_Mt := (yX3_clear, cX3_clear, 1, none)
abbrev mX3_look : fz_Mt := (yX3_look, cX3_look, 8, none)
abbrev mX3_lookAtTwo : fz_Mt := (yX3_lookAtTwo, cX3_lookAtTwo, 5, none)
abbrev mX4_init : fz_Mt := (yX4_init, cX4_init, 1, none)
abbrev mX4_begin : fz_Mt := (yX4_begin, cX4_begin, 5, none)
abbrev mX4_tell : fz_Mt := (yX4_tell, cX4_tell, 2, (some .int))
abbrev mX5_init : fz_Mt := (yX5_init, cX5_init, 2, none)
abbrev mX5_size : fz_Mt := (yX5_size, cX5_size, 1, (some .int))
abbrev mX5_open : fz_Mt := (yX5_open, cX5_open, 1, (some .int))
abbrev mX5_tasks : fz_Mt := (yX5_tasks, cX5_tasks, 1, (some .int))
abbrev mX5_pending : fz_Mt := (yX5_pending, cX5_pending, 1, (some .int))
abbrev mX5_arePendingFor : fz_Mt := (yX5_arePendingFor, cX5_arePendingFor, 2, (some .boolean))
abbrev mX5_taskAt : fz_Mt := (yX5_taskAt, cX5_taskAt, 2, (some (.object "FleetController$Task")))
abbrev mX5_clear : fz_Mt := (yX5_clear, cX5_clear, 1, none)
abbrev mX5_haveRoomFor : fz_Mt := (yX5_haveRoomFor, cX5_haveRoomFor, 2, (some .boolean))
abbrev mX5_add : fz_Mt := (yX5_add, cX5_add, 4, (some .int))
abbrev mX5_addTask : fz_Mt := (yX5_addTask, cX5_addTask, 4, none)
abbrev mX5_cancelPending : fz_Mt := (yX5_cancelPending, cX5_cancelPending, 7, (some .int))
abbrev mX5_take : fz_Mt := (yX5_take, cX5_take, 4, none)
abbrev mX5_pick : fz_Mt := (yX5_pick, cX5_pick, 3, none)
abbrev mX5_bring : fz_Mt := (yX5_bring, cX5_bring, 3, none)
abbrev mX5_leavePending : fz_Mt := (yX5_leavePending, cX5_leavePending, 3, none)
abbrev mX5_finishOne : fz_Mt := (yX5_finishOne, cX5_finishOne, 3, none)
abbrev mX5_tellTask : fz_Mt := (yX5_tellTask, cX5_tellTask, 3, (some .int))
abbrev mX5_tellOrder : fz_Mt := (yX5_tellOrder, cX5_tellOrder, 3, (some .int))
abbrev mX6_init : fz_Mt := (yX6_init, cX6_init, 1, none)
abbrev mX6_begin : fz_Mt := (yX6_begin, cX6_begin, 1, none)
abbrev mX7_init : fz_Mt := (yX7_init, cX7_init, 1, none)
abbrev mX7_begin : fz_Mt := (yX7_begin, cX7_begin, 5, none)
abbrev mX7_tell : fz_Mt := (yX7_tell, cX7_tell, 2, (some .int))
abbrev mX8_init : fz_Mt := (yX8_init, cX8_init, 1, none)
abbrev mX8_robots : fz_Mt := (yX8_robots, cX8_robots, 1, (some .int))
abbrev mX8_endOf : fz_Mt := (yX8_endOf, cX8_endOf, 2, (some .int))
abbrev mX8_endTimeOf : fz_Mt := (yX8_endTimeOf, cX8_endTimeOf, 2, (some .int))
abbrev mX8_ownerOf : fz_Mt := (yX8_ownerOf, cX8_ownerOf, 2, (some .int))
abbrev mX8_isEndOfOther : fz_Mt := (yX8_isEndOfOther, cX8_isEndOfOther, 3, (some .boolean))
abbrev mX8_clear : fz_Mt := (yX8_clear, cX8_clear, 1, none)
abbrev mX8_add : fz_Mt := (yX8_add, cX8_add, 2, none)
abbrev mX8_cellAt : fz_Mt := (yX8_cellAt, cX8_cellAt, 3, (some .int))
abbrev mX8_write : fz_Mt := (yX8_write, cX8_write, 5, none)
abbrev mX8_setEnd : fz_Mt := (yX8_setEnd, cX8_setEnd, 4, none)
abbrev mX8_keep : fz_Mt := (yX8_keep, cX8_keep, 3, none)
abbrev mX9_init : fz_Mt := (yX9_init, cX9_init, 3, none)
abbrev mX9_begin : fz_Mt := (yX9_begin, cX9_begin, 2, none)
abbrev mX9_find : fz_Mt := (yX9_find, cX9_find, 9, (some .int))
abbrev mX9_reachGoal : fz_Mt := (yX9_reachGoal, cX9_reachGoal, 3, (some .int))
abbrev mX9_ticksUntilGoalIsClear : fz_Mt := (yX9_ticksUntilGoalIsClear, cX9_ticksUntilGoalIsClear, 4, (some .int))
abbrev mX9_lookAtOthers : fz_Mt := (yX9_lookAtOthers, cX9_lookAtOthers, 3, none)
abbrev mX9_avoid : fz_Mt := (yX9_avoid, cX9_avoid, 6, none)
abbrev mX9_spread : fz_Mt := (yX9_spread, cX9_spread, 13, none)
abbrev mX9_narrow : fz_Mt := (yX9_narrow, cX9_narrow, 13, none)
abbrev mX9_follow : fz_Mt := (yX9_follow, cX9_follow, 7, none)
abbrev mX9_leastMove : fz_Mt := (yX9_leastMove, cX9_leastMove, 8, (some .int))
abbrev mX9_empty : fz_Mt := (yX9_empty, cX9_empty, 3, none)
abbrev mX9_add : fz_Mt := (yX9_add, cX9_add, 3, none)
abbrev mX9_holds : fz_Mt := (yX9_holds, cX9_holds, 3, (some .boolean))
abbrev mX9_shiftedLow : fz_Mt := (yX9_shiftedLow, cX9_shiftedLow, 5, (some .long))
abbrev mX9_shiftedHigh : fz_Mt := (yX9_shiftedHigh, cX9_shiftedHigh, 5, (some .long))
abbrev mX10_init : fz_Mt := (yX10_init, cX10_init, 1, none)
abbrev mX10_type : fz_Mt := (yX10_type, cX10_type, 3, (some .int))
abbrev mX10_erase : fz_Mt := (yX10_erase, cX10_erase, 1, (some .int))
abbrev mX10_read : fz_Mt := (yX10_read, cX10_read, 3, (some .int))
abbrev mX10_place : fz_Mt := (yX10_place, cX10_place, 1, (some .int))
abbrev mX10_cell : fz_Mt := (yX10_cell, cX10_cell, 2, (some .int))
abbrev mX10_distance : fz_Mt := (yX10_distance, cX10_distance, 3, (some .int))
abbrev mX10_robot : fz_Mt := (yX10_robot, cX10_robot, 2, (some .int))
abbrev mX10_order : fz_Mt := (yX10_order, cX10_order, 7, (some .int))
abbrev mX10_cancel : fz_Mt := (yX10_cancel, cX10_cancel, 2, (some .int))
abbrev mX10_tick : fz_Mt := (yX10_tick, cX10_tick, 4, (some .int))
abbrev mX10_settle : fz_Mt := (yX10_settle, cX10_settle, 4, (some .int))
abbrev mX10_robotOf : fz_Mt := (yX10_robotOf, cX10_robotOf, 3, (some .int))
abbrev mX10_ahead : fz_Mt := (yX10_ahead, cX10_ahead, 3, (some .int))
abbrev mX10_was : fz_Mt := (yX10_was, cX10_was, 3, (some .int))
abbrev mX10_task : fz_Mt := (yX10_task, cX10_task, 3, (some .int))
abbrev mX10_orderOf : fz_Mt := (yX10_orderOf, cX10_orderOf, 3, (some .int))
abbrev mX10_count : fz_Mt := (yX10_count, cX10_count, 2, (some .int))
abbrev mX10_findFault : fz_Mt := (yX10_findFault, cX10_findFault, 3, (some .int))
abbrev mX10_areShelves : fz_Mt := (yX10_areShelves, cX10_areShelves, 4, (some .boolean))
abbrev mX10_refusalOfTicks : fz_Mt := (yX10_refusalOfTicks, cX10_refusalOfTicks, 2, (some .int))
abbrev mX11_init : fz_Mt := (yX11_init, cX11_init, 1, none)
abbrev mX11_in : fz_Mt := (yX11_in, cX11_in, 3, (some .boolean))
abbrev mX11_type : fz_Mt := (yX11_type, cX11_type, 5, (some .int))
abbrev mX11_erase : fz_Mt := (yX11_erase, cX11_erase, 2, (some .int))
abbrev mX11_kindOf : fz_Mt := (yX11_kindOf, cX11_kindOf, 1, (some .int))
abbrev mX11_wrong : fz_Mt := (yX11_wrong, cX11_wrong, 3, (some .int))
abbrev mX11_readLines : fz_Mt := (yX11_readLines, cX11_readLines, 5, (some .int))
abbrev mX11_hasKind : fz_Mt := (yX11_hasKind, cX11_hasKind, 4, (some .boolean))
abbrev mX11_beside : fz_Mt := (yX11_beside, cX11_beside, 4, (some .int))
abbrev mX11_look : fz_Mt := (yX11_look, cX11_look, 7, none)
abbrev mX11_isApart : fz_Mt := (yX11_isApart, cX11_isApart, 4, (some .boolean))
abbrev mX11_read : fz_Mt := (yX11_read, cX11_read, 3, (some .int))
abbrev mX11_measure : fz_Mt := (yX11_measure, cX11_measure, 7, none)
abbrev mX11_place : fz_Mt := (yX11_place, cX11_place, 1, (some .int))
abbrev mX11_cell : fz_Mt := (yX11_cell, cX11_cell, 2, (some .int))
abbrev mX11_distance : fz_Mt := (yX11_distance, cX11_distance, 3, (some .int))
abbrev mX11_isKind : fz_Mt := (yX11_isKind, cX11_isKind, 3, (some .boolean))
abbrev mX11_at : fz_Mt := (yX11_at, cX11_at, 3, (some .int))
abbrev mX11_endOf : fz_Mt := (yX11_endOf, cX11_endOf, 2, (some .int))
abbrev mX11_robot : fz_Mt := (yX11_robot, cX11_robot, 3, (some .int))
abbrev mX11_addTask : fz_Mt := (yX11_addTask, cX11_addTask, 2, none)
abbrev mX11_order : fz_Mt := (yX11_order, cX11_order, 7, (some .int))
abbrev mX11_isOpen : fz_Mt := (yX11_isOpen, cX11_isOpen, 4, (some .boolean))
abbrev mX11_close : fz_Mt := (yX11_close, cX11_close, 2, none)
abbrev mX11_cancel : fz_Mt := (yX11_cancel, cX11_cancel, 4, (some .int))
abbrev mX11_lastIn : fz_Mt := (yX11_lastIn, cX11_lastIn, 6, (some .int))
abbrev mX11_mayGo : fz_Mt := (yX11_mayGo, cX11_mayGo, 7, (some .boolean))
abbrev mX11_state : fz_Mt := (yX11_state, cX11_state, 3, (some .int))
abbrev mX11_spread : fz_Mt := (yX11_spread, cX11_spread, 8, none)
abbrev mX11_trace : fz_Mt := (yX11_trace, cX11_trace, 9, none)
abbrev mX11_findWay : fz_Mt := (yX11_findWay, cX11_findWay, 9, none)
abbrev mX11_follow : fz_Mt := (yX11_follow, cX11_follow, 12, none)
abbrev mX11_isOthersEnd : fz_Mt := (yX11_isOthersEnd, cX11_isOthersEnd, 5, (some .boolean))
abbrev mX11_fitTask : fz_Mt := (yX11_fitTask, cX11_fitTask, 6, (some .int))
abbrev mX11_isWanted : fz_Mt := (yX11_isWanted, cX11_isWanted, 4, (some .boolean))
abbrev mX11_aside : fz_Mt := (yX11_aside, cX11_aside, 6, (some .int))
abbrev mX11_seek : fz_Mt := (yX11_seek, cX11_seek, 5, none)
abbrev mX11_settleRobot : fz_Mt := (yX11_settleRobot, cX11_settleRobot, 3, none)
abbrev mX11_watch : fz_Mt := (yX11_watch, cX11_watch, 6, none)
abbrev mX11_tickOnce : fz_Mt := (yX11_tickOnce, cX11_tickOnce, 2, none)
abbrev mX11_stay : fz_Mt := (yX11_stay, cX11_stay, 2, none)
abbrev mX11_refusal : fz_Mt := (yX11_refusal, cX11_refusal, 2, (some .int))
abbrev mX11_tick : fz_Mt := (yX11_tick, cX11_tick, 4, (some .int))
abbrev mX11_openOrders : fz_Mt := (yX11_openOrders, cX11_openOrders, 3, (some .int))
abbrev mX11_settle : fz_Mt := (yX11_settle, cX11_settle, 4, (some .int))
abbrev mX11_robotOf : fz_Mt := (yX11_robotOf, cX11_robotOf, 3, (some .int))
abbrev mX11_ahead : fz_Mt := (yX11_ahead, cX11_ahead, 3, (some .int))
abbrev mX11_was : fz_Mt := (yX11_was, cX11_was, 3, (some .int))
abbrev mX11_task : fz_Mt := (yX11_task, cX11_task, 3, (some .int))
abbrev mX11_orderOf : fz_Mt := (yX11_orderOf, cX11_orderOf, 3, (some .int))
abbrev mX11_pending : fz_Mt := (yX11_pending, cX11_pending, 3, (some .int))
abbrev mX11_allMoves : fz_Mt := (yX11_allMoves, cX11_allMoves, 3, (some .int))
abbrev mX11_count : fz_Mt := (yX11_count, cX11_count, 2, (some .int))
abbrev mJ9_abs_0f7a4 : fz_Mt := (yJ9_abs_0f7a4, cJ9_abs_0f7a4, 1, (some .int))
abbrev mJ9_max_7cf53 : fz_Mt := (yJ9_max_7cf53, cJ9_max_7cf53, 2, (some .int))
abbrev mJ9_min_7cf53 : fz_Mt := (yJ9_min_7cf53, cJ9_min_7cf53, 2, (some .int))
abbrev mJ7_fill_d0a16 : fz_Mt := (yJ7_fill_d0a16, cJ7_fill_d0a16, 5, none)
abbrev mJ7_fill_53178 : fz_Mt := (yJ7_fill_53178, cJ7_fill_53178, 4, none)
abbrev mL_law : fz_Mt := (yL_law, cL_law, 4, (some .boolean))
def rX0_init : Room := { frames := 2, cells := 16, slots := 9153, locals := 42 }
def rX0_size : Room := { frames := 0, cells := 0, slots := 0, locals := 0 }
def rX0_now : Room := { frames := 0, cells := 0, slots := 0, locals := 0 }
def rX0_ways : Room := { frames := 0, cells := 0, slots := 0, locals := 0 }
def rX0_longestWay : Room := { frames := 0, cells := 0, slots := 0, locals := 0 }
def rX0_alarms : Room := { frames := 1, cells := 0, slots := 0, locals := 20 }
def rX0_moves : Room := { frames := 0, cells := 0, slots := 0, locals := 0 }
def rX0_begin : Room := { frames := 2, cells := 0, slots := 0, locals := 43 }
def rX0_put : Room := { frames := 2, cells := 0, slots := 0, locals := 45 }
def rX0_step : Room := { frames := 5, cells := 0, slots := 0, locals := 130 }
def rX0_lookForWork : Room := { frames := 4, cells := 0, slots := 0, locals := 106 }
def rX0_nearestFit : Room := { frames := 3, cells := 0, slots := 0, locals := 71 }
def rX0_isFit : Room := { frames := 1, cells := 0, slots := 0, locals := 22 }
def rX0_nearestRefuge : Room := { frames := 3, cells := 0, slots := 0, locals := 71 }
def rX0_countWay : Room := { frames := 1, cells := 0, slots := 0, locals := 21 }
def rX0_take : Room := { frames := 2, cells := 0, slots := 0, locals := 45 }
def rX0_goOn : Room := { frames := 3, cells := 0, slots := 0, locals := 67 }
def rX0_workOn : Room := { frames := 2, cells := 0, slots := 0, locals := 44 }
def rX0_tellRobot : Room := { frames := 2, cells := 0, slots := 0, locals := 42 }
def rX0_hasPicked : Room := { frames := 1, cells := 0, slots := 0, locals := 21 }
def rX0_cellIn : Room := { frames := 1, cells := 0, slots := 0, locals := 22 }
def rX0_cellAt : Room := { frames := 1, cells := 0, slots := 0, locals := 22 }
def rX1_init : Room := { frames := 1, cells := 5, slots := 255, locals := 20 }
def rX1_size : Room := { frames := 0, cells := 0, slots := 0, locals := 0 }
def rX1_has : Room := { frames := 0, cells := 0, slots := 0, locals := 0 }
def rX1_kindAt : Room := { frames := 1, cells := 0, slots := 0, locals := 21 }
def rX1_isPlace : Room := { frames := 0, cells := 0, slots := 0, locals := 0 }
def rX1_measured : Room := { frames := 0, cells := 0, slots := 0, locals := 0 }
def rX1_placeInText : Room := { frames := 1, cells := 0, slots := 0, locals := 21 }
def rX1_load : Room := { frames := 4, cells := 0, slots := 0, locals := 87 }
def rX1_findOpenMoves : Room := { frames := 3, cells := 0, slots := 0, locals := 65 }
def rX1_leadsOn : Room := { frames := 2, cells := 0, slots := 0, locals := 42 }
def rX1_isOpen : Room := { frames := 0, cells := 0, slots := 0, locals := 0 }
def rX1_isWithinAMove : Room := { frames := 1, cells := 0, slots := 0, locals := 21 }
def rX1_hasAllKinds : Room := { frames := 0, cells := 0, slots := 0, locals := 0 }
def rX1_firstPlaceApart : Room := { frames := 4, cells := 0, slots := 0, locals := 93 }
def rX1_isJoinedToAll : Room := { frames := 3, cells := 0, slots := 0, locals := 71 }
def rX1_measureFrom : Room := { frames := 2, cells := 0, slots := 0, locals := 46 }
def rX1_measureAround : Room := { frames := 1, cells := 0, slots := 0, locals := 22 }
def rX2_init : Room := { frames := 1, cells := 1, slots := 90, locals := 20 }
def rX2_length : Room := { frames := 0, cells := 0, slots := 0, locals := 0 }
def rX2_width : Room := { frames := 0, cells := 0, slots := 0, locals := 0 }
def rX2_faultPlace : Room := { frames := 0, cells := 0, slots := 0, locals := 0 }
def rX2_append : Room := { frames := 1, cells := 0, slots := 0, locals := 22 }
def rX2_wipe : Room := { frames := 0, cells := 0, slots := 0, locals := 0 }
def rX2_kindOf : Room := { frames := 0, cells := 0, slots := 0, locals := 0 }
def rX2_findFault : Room := { frames := 1, cells := 0, slots := 0, locals := 21 }
def rX2_widenLine : Room := { frames := 0, cells := 0, slots := 0, locals := 0 }
def rX2_endLine : Room := { frames := 0, cells := 0, slots := 0, locals := 0 }
def rX2_byteOf : Room := { frames := 0, cells := 0, slots := 0, locals := 0 }
def rX3_init : Room := { frames := 1, cells := 0, slots := 0, locals := 20 }
def rX3_alarms : Room := { frames := 0, cells := 0, slots := 0, locals := 0 }
def rX3_clear : Room := { frames := 0, cells := 0, slots := 0, locals := 0 }
def rX3_look : Room := { frames := 2, cells := 0, slots := 0, locals := 44 }
def rX3_lookAtTwo : Room := { frames := 0, cells := 0, slots := 0, locals := 0 }
def rX4_init : Room := { frames := 1, cells := 0, slots := 0, locals := 20 }
def rX4_begin : Room := { frames := 0, cells := 0, slots := 0, locals := 0 }
def rX4_tell : Room := { frames := 0, cells := 0, slots := 0, locals := 0 }
def rX5_init : Room := { frames := 2, cells := 133, slots := 1260, locals := 40 }
def rX5_size : Room := { frames := 0, cells := 0, slots := 0, locals := 0 }
def rX5_open : Room := { frames := 0, cells := 0, slots := 0, locals := 0 }
def rX5_tasks : Room := { frames := 0, cells := 0, slots := 0, locals := 0 }
def rX5_pending : Room := { frames := 0, cells := 0, slots := 0, locals := 0 }
def rX5_arePendingFor : Room := { frames := 0, cells := 0, slots := 0, locals := 0 }
def rX5_taskAt : Room := { frames := 0, cells := 0, slots := 0, locals := 0 }
def rX5_clear : Room := { frames := 1, cells := 0, slots := 0, locals := 23 }
def rX5_haveRoomFor : Room := { frames := 0, cells := 0, slots := 0, locals := 0 }
def rX5_add : Room := { frames := 1, cells := 0, slots := 0, locals := 24 }
def rX5_addTask : Room := { frames := 1, cells := 0, slots := 0, locals := 24 }
def rX5_cancelPending : Room := { frames := 1, cells := 0, slots := 0, locals := 22 }
def rX5_take : Room := { frames := 1, cells := 0, slots := 0, locals := 22 }
def rX5_pick : Room := { frames := 0, cells := 0, slots := 0, locals := 0 }
def rX5_bring : Room := { frames := 1, cells := 0, slots := 0, locals := 22 }
def rX5_leavePending : Room := { frames := 0, cells := 0, slots := 0, locals := 0 }
def rX5_finishOne : Room := { frames := 0, cells := 0, slots := 0, locals := 0 }
def rX5_tellTask : Room := { frames := 1, cells := 0, slots := 0, locals := 21 }
def rX5_tellOrder : Room := { frames := 1, cells := 0, slots := 0, locals := 21 }
def rX6_init : Room := { frames := 1, cells := 0, slots := 0, locals := 20 }
def rX6_begin : Room := { frames := 0, cells := 0, slots := 0, locals := 0 }
def rX7_init : Room := { frames := 1, cells := 0, slots := 0, locals := 20 }
def rX7_begin : Room := { frames := 0, cells := 0, slots := 0, locals := 0 }
def rX7_tell : Room := { frames := 0, cells := 0, slots := 0, locals := 0 }
def rX8_init : Room := { frames := 1, cells := 4, slots := 5093, locals := 20 }
def rX8_robots : Room := { frames := 0, cells := 0, slots := 0, locals := 0 }
def rX8_endOf : Room := { frames := 0, cells := 0, slots := 0, locals := 0 }
def rX8_endTimeOf : Room := { frames := 0, cells := 0, slots := 0, locals := 0 }
def rX8_ownerOf : Room := { frames := 0, cells := 0, slots := 0, locals := 0 }
def rX8_isEndOfOther : Room := { frames := 0, cells := 0, slots := 0, locals := 0 }
def rX8_clear : Room := { frames := 1, cells := 0, slots := 0, locals := 23 }
def rX8_add : Room := { frames := 1, cells := 0, slots := 0, locals := 24 }
def rX8_cellAt : Room := { frames := 0, cells := 0, slots := 0, locals := 0 }
def rX8_write : Room := { frames := 0, cells := 0, slots := 0, locals := 0 }
def rX8_setEnd : Room := { frames := 0, cells := 0, slots := 0, locals := 0 }
def rX8_keep : Room := { frames := 1, cells := 0, slots := 0, locals := 24 }
def rX9_init : Room := { frames := 1, cells := 2, slots := 4014, locals := 20 }
def rX9_begin : Room := { frames := 0, cells := 0, slots := 0, locals := 0 }
def rX9_find : Room := { frames := 3, cells := 0, slots := 0, locals := 78 }
def rX9_reachGoal : Room := { frames := 2, cells := 0, slots := 0, locals := 56 }
def rX9_ticksUntilGoalIsClear : Room := { frames := 1, cells := 0, slots := 0, locals := 22 }
def rX9_lookAtOthers : Room := { frames := 1, cells := 0, slots := 0, locals := 26 }
def rX9_avoid : Room := { frames := 0, cells := 0, slots := 0, locals := 0 }
def rX9_spread : Room := { frames := 1, cells := 0, slots := 0, locals := 24 }
def rX9_narrow : Room := { frames := 1, cells := 0, slots := 0, locals := 24 }
def rX9_follow : Room := { frames := 2, cells := 0, slots := 0, locals := 49 }
def rX9_leastMove : Room := { frames := 1, cells := 0, slots := 0, locals := 22 }
def rX9_empty : Room := { frames := 0, cells := 0, slots := 0, locals := 0 }
def rX9_add : Room := { frames := 0, cells := 0, slots := 0, locals := 0 }
def rX9_holds : Room := { frames := 0, cells := 0, slots := 0, locals := 0 }
def rX9_shiftedLow : Room := { frames := 0, cells := 0, slots := 0, locals := 0 }
def rX9_shiftedHigh : Room := { frames := 0, cells := 0, slots := 0, locals := 0 }
def rX10_init : Room := { frames := 3, cells := 165, slots := 11050, locals := 65 }
def rX10_type : Room := { frames := 2, cells := 0, slots := 0, locals := 46 }
def rX10_erase : Room := { frames := 1, cells := 0, slots := 0, locals := 21 }
def rX10_read : Room := { frames := 6, cells := 0, slots := 0, locals := 136 }
def rX10_place : Room := { frames := 0, cells := 0, slots := 0, locals := 0 }
def rX10_cell : Room := { frames := 2, cells := 0, slots := 0, locals := 42 }
def rX10_distance : Room := { frames := 3, cells := 0, slots := 0, locals := 71 }
def rX10_robot : Room := { frames := 3, cells := 0, slots := 0, locals := 66 }
def rX10_order : Room := { frames := 3, cells := 0, slots := 0, locals := 65 }
def rX10_cancel : Room := { frames := 2, cells := 0, slots := 0, locals := 48 }
def rX10_tick : Room := { frames := 6, cells := 0, slots := 0, locals := 151 }
def rX10_settle : Room := { frames := 6, cells := 0, slots := 0, locals := 151 }
def rX10_robotOf : Room := { frames := 3, cells := 0, slots := 0, locals := 64 }
def rX10_ahead : Room := { frames := 2, cells := 0, slots := 0, locals := 44 }
def rX10_was : Room := { frames := 2, cells := 0, slots := 0, locals := 44 }
def rX10_task : Room := { frames := 2, cells := 0, slots := 0, locals := 43 }
def rX10_orderOf : Room := { frames := 2, cells := 0, slots := 0, locals := 43 }
def rX10_count : Room := { frames := 2, cells := 0, slots := 0, locals := 40 }
def rX10_findFault : Room := { frames := 5, cells := 0, slots := 0, locals := 114 }
def rX10_areShelves : Room := { frames := 2, cells := 0, slots := 0, locals := 42 }
def rX10_refusalOfTicks : Room := { frames := 1, cells := 0, slots := 0, locals := 20 }
def rX11_init : Room := { frames := 1, cells := 26, slots := 359200, locals := 20 }
def rX11_in : Room := { frames := 0, cells := 0, slots := 0, locals := 0 }
def rX11_type : Room := { frames := 0, cells := 0, slots := 0, locals := 0 }
def rX11_erase : Room := { frames := 0, cells := 0, slots := 0, locals := 0 }
def rX11_kindOf : Room := { frames := 0, cells := 0, slots := 0, locals := 0 }
def rX11_wrong : Room := { frames := 0, cells := 0, slots := 0, locals := 0 }
def rX11_readLines : Room := { frames := 1, cells := 0, slots := 0, locals := 22 }
def rX11_hasKind : Room := { frames := 0, cells := 0, slots := 0, locals := 0 }
def rX11_beside : Room := { frames := 0, cells := 0, slots := 0, locals := 0 }
def rX11_look : Room := { frames := 1, cells := 0, slots := 0, locals := 23 }
def rX11_isApart : Room := { frames := 2, cells := 0, slots := 0, locals := 49 }
def rX11_read : Room := { frames := 3, cells := 0, slots := 0, locals := 72 }
def rX11_measure : Room := { frames := 1, cells := 0, slots := 0, locals := 23 }
def rX11_place : Room := { frames := 0, cells := 0, slots := 0, locals := 0 }
def rX11_cell : Room := { frames := 1, cells := 0, slots := 0, locals := 22 }
def rX11_distance : Room := { frames := 1, cells := 0, slots := 0, locals := 22 }
def rX11_isKind : Room := { frames := 1, cells := 0, slots := 0, locals := 22 }
def rX11_at : Room := { frames := 0, cells := 0, slots := 0, locals := 0 }
def rX11_endOf : Room := { frames := 1, cells := 0, slots := 0, locals := 22 }
def rX11_robot : Room := { frames := 2, cells := 0, slots := 0, locals := 44 }
def rX11_addTask : Room := { frames := 0, cells := 0, slots := 0, locals := 0 }
def rX11_order : Room := { frames := 2, cells := 0, slots := 0, locals := 44 }
def rX11_isOpen : Room := { frames := 0, cells := 0, slots := 0, locals := 0 }
def rX11_close : Room := { frames := 1, cells := 0, slots := 0, locals := 23 }
def rX11_cancel : Room := { frames := 2, cells := 0, slots := 0, locals := 44 }
def rX11_lastIn : Room := { frames := 2, cells := 0, slots := 0, locals := 43 }
def rX11_mayGo : Room := { frames := 1, cells := 0, slots := 0, locals := 22 }
def rX11_state : Room := { frames := 0, cells := 0, slots := 0, locals := 0 }
def rX11_spread : Room := { frames := 2, cells := 0, slots := 0, locals := 48 }
def rX11_trace : Room := { frames := 2, cells := 0, slots := 0, locals := 48 }
def rX11_findWay : Room := { frames := 3, cells := 0, slots := 0, locals := 79 }
def rX11_follow : Room := { frames := 2, cells := 0, slots := 0, locals := 48 }
def rX11_isOthersEnd : Room := { frames := 2, cells := 0, slots := 0, locals := 43 }
def rX11_fitTask : Room := { frames := 3, cells := 0, slots := 0, locals := 67 }
def rX11_isWanted : Room := { frames := 0, cells := 0, slots := 0, locals := 0 }
def rX11_aside : Room := { frames := 3, cells := 0, slots := 0, locals := 67 }
def rX11_seek : Room := { frames := 4, cells := 0, slots := 0, locals := 107 }
def rX11_settleRobot : Room := { frames := 2, cells := 0, slots := 0, locals := 44 }
def rX11_watch : Room := { frames := 1, cells := 0, slots := 0, locals := 23 }
def rX11_tickOnce : Room := { frames := 5, cells := 0, slots := 0, locals := 131 }
def rX11_stay : Room := { frames := 2, cells := 0, slots := 0, locals := 43 }
def rX11_refusal : Room := { frames := 1, cells := 0, slots := 0, locals := 22 }
def rX11_tick : Room := { frames := 6, cells := 0, slots := 0, locals := 152 }
def rX11_openOrders : Room := { frames := 1, cells := 0, slots := 0, locals := 23 }
def rX11_settle : Room := { frames := 6, cells := 0, slots := 0, locals := 152 }
def rX11_robotOf : Room := { frames := 2, cells := 0, slots := 0, locals := 43 }
def rX11_ahead : Room := { frames := 2, cells := 0, slots := 0, locals := 43 }
def rX11_was : Room := { frames := 1, cells := 0, slots := 0, locals := 22 }
def rX11_task : Room := { frames := 1, cells := 0, slots := 0, locals := 22 }
def rX11_orderOf : Room := { frames := 1, cells := 0, slots := 0, locals := 23 }
def rX11_pending : Room := { frames := 0, cells := 0, slots := 0, locals := 0 }
def rX11_allMoves : Room := { frames := 0, cells := 0, slots := 0, locals := 0 }
def rX11_count : Room := { frames := 2, cells := 0, slots := 0, locals := 45 }
def rJ9_abs_0f7a4 : Room := { frames := 0, cells := 0, slots := 0, locals := 0 }
def rJ9_max_7cf53 : Room := { frames := 0, cells := 0, slots := 0, locals := 0 }
def rJ9_min_7cf53 : Room := { frames := 0, cells := 0, slots := 0, locals := 0 }
def rJ7_fill_d0a16 : Room := { frames := 0, cells := 0, slots := 0, locals := 0 }
def rJ7_fill_53178 : Room := { frames := 0, cells := 0, slots := 0, locals := 0 }
def rL_law : Room := { frames := 7, cells := 0, slots := 0, locals := 175 }
