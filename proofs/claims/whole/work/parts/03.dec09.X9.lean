theorem dX9_init_0 : decode cX9_init 0 = .ok (.aload_n 0, 1) := by decide +kernel
theorem dX9_init_1 : decode cX9_init 1 = .ok (.invokespecial 3, 3) := by decide +kernel
theorem dX9_init_4 : decode cX9_init 4 = .ok (.aload_n 0, 1) := by decide +kernel
theorem dX9_init_5 : decode cX9_init 5 = .ok (.sipush 4004, 3) := by decide +kernel
theorem dX9_init_8 : decode cX9_init 8 = .ok (.newarray .long, 2) := by decide +kernel
theorem dX9_init_10 : decode cX9_init 10 = .ok (.putfield 9, 3) := by decide +kernel
theorem dX9_init_13 : decode cX9_init 13 = .ok (.aload_n 0, 1) := by decide +kernel
theorem dX9_init_14 : decode cX9_init 14 = .ok (.bipush 10, 2) := by decide +kernel
theorem dX9_init_16 : decode cX9_init 16 = .ok (.newarray .long, 2) := by decide +kernel
theorem dX9_init_18 : decode cX9_init 18 = .ok (.putfield 15, 3) := by decide +kernel
theorem dX9_init_21 : decode cX9_init 21 = .ok (.aload_n 0, 1) := by decide +kernel
theorem dX9_init_22 : decode cX9_init 22 = .ok (.aload_n 1, 1) := by decide +kernel
theorem dX9_init_23 : decode cX9_init 23 = .ok (.putfield 18, 3) := by decide +kernel
theorem dX9_init_26 : decode cX9_init 26 = .ok (.aload_n 0, 1) := by decide +kernel
theorem dX9_init_27 : decode cX9_init 27 = .ok (.aload_n 2, 1) := by decide +kernel
theorem dX9_init_28 : decode cX9_init 28 = .ok (.putfield 22, 3) := by decide +kernel
theorem dX9_init_31 : decode cX9_init 31 = .ok (.return_, 1) := by decide +kernel
theorem dX9_begin_0 : decode cX9_begin 0 = .ok (.aload_n 0, 1) := by decide +kernel
theorem dX9_begin_1 : decode cX9_begin 1 = .ok (.aload_n 1, 1) := by decide +kernel
theorem dX9_begin_2 : decode cX9_begin 2 = .ok (.putfield 18, 3) := by decide +kernel
theorem dX9_begin_5 : decode cX9_begin 5 = .ok (.return_, 1) := by decide +kernel
theorem dX9_find_0 : decode cX9_find 0 = .ok (.aload_n 0, 1) := by decide +kernel
theorem dX9_find_1 : decode cX9_find 1 = .ok (.iload_n 1, 1) := by decide +kernel
theorem dX9_find_2 : decode cX9_find 2 = .ok (.putfield 26, 3) := by decide +kernel
theorem dX9_find_5 : decode cX9_find 5 = .ok (.aload_n 0, 1) := by decide +kernel
theorem dX9_find_6 : decode cX9_find 6 = .ok (.iload_n 2, 1) := by decide +kernel
theorem dX9_find_7 : decode cX9_find 7 = .ok (.putfield 30, 3) := by decide +kernel
theorem dX9_find_10 : decode cX9_find 10 = .ok (.aload_n 0, 1) := by decide +kernel
theorem dX9_find_11 : decode cX9_find 11 = .ok (.iload_n 3, 1) := by decide +kernel
theorem dX9_find_12 : decode cX9_find 12 = .ok (.putfield 33, 3) := by decide +kernel
theorem dX9_find_15 : decode cX9_find 15 = .ok (.aload_n 0, 1) := by decide +kernel
theorem dX9_find_16 : decode cX9_find 16 = .ok (.iload 4, 2) := by decide +kernel
theorem dX9_find_18 : decode cX9_find 18 = .ok (.putfield 36, 3) := by decide +kernel
theorem dX9_find_21 : decode cX9_find 21 = .ok (.aload_n 0, 1) := by decide +kernel
theorem dX9_find_22 : decode cX9_find 22 = .ok (.getfield 22, 3) := by decide +kernel
theorem dX9_find_25 : decode cX9_find 25 = .ok (.aload_n 0, 1) := by decide +kernel
theorem dX9_find_26 : decode cX9_find 26 = .ok (.getfield 26, 3) := by decide +kernel
theorem dX9_find_29 : decode cX9_find 29 = .ok (.aload_n 0, 1) := by decide +kernel
theorem dX9_find_30 : decode cX9_find 30 = .ok (.getfield 30, 3) := by decide +kernel
theorem dX9_find_33 : decode cX9_find 33 = .ok (.invokevirtual 39, 3) := by decide +kernel
theorem dX9_find_36 : decode cX9_find 36 = .ok (.istore 5, 2) := by decide +kernel
theorem dX9_find_38 : decode cX9_find 38 = .ok (.aload_n 0, 1) := by decide +kernel
theorem dX9_find_39 : decode cX9_find 39 = .ok (.getfield 33, 3) := by decide +kernel
theorem dX9_find_42 : decode cX9_find 42 = .ok (.iconst (-1), 1) := by decide +kernel
theorem dX9_find_43 : decode cX9_find 43 = .ok (.if_icmp .eq 12, 3) := by decide +kernel
theorem dX9_find_46 : decode cX9_find 46 = .ok (.aload_n 0, 1) := by decide +kernel
theorem dX9_find_47 : decode cX9_find 47 = .ok (.getfield 33, 3) := by decide +kernel
theorem dX9_find_50 : decode cX9_find 50 = .ok (.iload 5, 2) := by decide +kernel
theorem dX9_find_52 : decode cX9_find 52 = .ok (.if_icmp .ne 7, 3) := by decide +kernel
theorem dX9_find_55 : decode cX9_find 55 = .ok (.iconst 1, 1) := by decide +kernel
theorem dX9_find_56 : decode cX9_find 56 = .ok (.goto 4, 3) := by decide +kernel
theorem dX9_find_59 : decode cX9_find 59 = .ok (.iconst 0, 1) := by decide +kernel
theorem dX9_find_60 : decode cX9_find 60 = .ok (.istore 6, 2) := by decide +kernel
theorem dX9_find_62 : decode cX9_find 62 = .ok (.aload_n 0, 1) := by decide +kernel
theorem dX9_find_63 : decode cX9_find 63 = .ok (.iconst 0, 1) := by decide +kernel
theorem dX9_find_64 : decode cX9_find 64 = .ok (.invokevirtual 45, 3) := by decide +kernel
theorem dX9_find_67 : decode cX9_find 67 = .ok (.aload_n 0, 1) := by decide +kernel
theorem dX9_find_68 : decode cX9_find 68 = .ok (.iconst 2, 1) := by decide +kernel
theorem dX9_find_69 : decode cX9_find 69 = .ok (.iload 6, 2) := by decide +kernel
theorem dX9_find_71 : decode cX9_find 71 = .ok (.imul, 1) := by decide +kernel
theorem dX9_find_72 : decode cX9_find 72 = .ok (.iload 5, 2) := by decide +kernel
theorem dX9_find_74 : decode cX9_find 74 = .ok (.invokevirtual 49, 3) := by decide +kernel
theorem dX9_find_77 : decode cX9_find 77 = .ok (.aload_n 0, 1) := by decide +kernel
theorem dX9_find_78 : decode cX9_find 78 = .ok (.invokevirtual 53, 3) := by decide +kernel
theorem dX9_find_81 : decode cX9_find 81 = .ok (.istore 7, 2) := by decide +kernel
theorem dX9_find_83 : decode cX9_find 83 = .ok (.iload 7, 2) := by decide +kernel
theorem dX9_find_85 : decode cX9_find 85 = .ok (.iconst (-1), 1) := by decide +kernel
theorem dX9_find_86 : decode cX9_find 86 = .ok (.if_icmp .ne 5, 3) := by decide +kernel
theorem dX9_find_89 : decode cX9_find 89 = .ok (.iconst (-1), 1) := by decide +kernel
theorem dX9_find_90 : decode cX9_find 90 = .ok (.ireturn, 1) := by decide +kernel
theorem dX9_find_91 : decode cX9_find 91 = .ok (.aload_n 0, 1) := by decide +kernel
theorem dX9_find_92 : decode cX9_find 92 = .ok (.iload 7, 2) := by decide +kernel
theorem dX9_find_94 : decode cX9_find 94 = .ok (.invokevirtual 45, 3) := by decide +kernel
theorem dX9_find_97 : decode cX9_find 97 = .ok (.aload_n 0, 1) := by decide +kernel
theorem dX9_find_98 : decode cX9_find 98 = .ok (.iconst 4, 1) := by decide +kernel
theorem dX9_find_99 : decode cX9_find 99 = .ok (.iload 7, 2) := by decide +kernel
theorem dX9_find_101 : decode cX9_find 101 = .ok (.imul, 1) := by decide +kernel
theorem dX9_find_102 : decode cX9_find 102 = .ok (.iconst 2, 1) := by decide +kernel
theorem dX9_find_103 : decode cX9_find 103 = .ok (.iadd, 1) := by decide +kernel
theorem dX9_find_104 : decode cX9_find 104 = .ok (.aload_n 0, 1) := by decide +kernel
theorem dX9_find_105 : decode cX9_find 105 = .ok (.getfield 36, 3) := by decide +kernel
theorem dX9_find_108 : decode cX9_find 108 = .ok (.invokevirtual 49, 3) := by decide +kernel
theorem dX9_find_111 : decode cX9_find 111 = .ok (.iload 7, 2) := by decide +kernel
theorem dX9_find_113 : decode cX9_find 113 = .ok (.iconst 1, 1) := by decide +kernel
theorem dX9_find_114 : decode cX9_find 114 = .ok (.isub, 1) := by decide +kernel
theorem dX9_find_115 : decode cX9_find 115 = .ok (.istore 8, 2) := by decide +kernel
theorem dX9_find_117 : decode cX9_find 117 = .ok (.iload 8, 2) := by decide +kernel
theorem dX9_find_119 : decode cX9_find 119 = .ok (.ifCond .le 21, 3) := by decide +kernel
theorem dX9_find_122 : decode cX9_find 122 = .ok (.aload_n 0, 1) := by decide +kernel
theorem dX9_find_123 : decode cX9_find 123 = .ok (.iload 8, 2) := by decide +kernel
theorem dX9_find_125 : decode cX9_find 125 = .ok (.invokevirtual 57, 3) := by decide +kernel
theorem dX9_find_128 : decode cX9_find 128 = .ok (.aload_n 0, 1) := by decide +kernel
theorem dX9_find_129 : decode cX9_find 129 = .ok (.iload 8, 2) := by decide +kernel
theorem dX9_find_131 : decode cX9_find 131 = .ok (.invokevirtual 60, 3) := by decide +kernel
theorem dX9_find_134 : decode cX9_find 134 = .ok (.iinc 8 (-1), 3) := by decide +kernel
theorem dX9_find_137 : decode cX9_find 137 = .ok (.goto (-20), 3) := by decide +kernel
theorem dX9_find_140 : decode cX9_find 140 = .ok (.aload_n 0, 1) := by decide +kernel
theorem dX9_find_141 : decode cX9_find 141 = .ok (.iload 5, 2) := by decide +kernel
theorem dX9_find_143 : decode cX9_find 143 = .ok (.iload 6, 2) := by decide +kernel
theorem dX9_find_145 : decode cX9_find 145 = .ok (.iload 7, 2) := by decide +kernel
theorem dX9_find_147 : decode cX9_find 147 = .ok (.invokevirtual 63, 3) := by decide +kernel
theorem dX9_find_150 : decode cX9_find 150 = .ok (.iload 7, 2) := by decide +kernel
theorem dX9_find_152 : decode cX9_find 152 = .ok (.ireturn, 1) := by decide +kernel
theorem dX9_reachGoal_0 : decode cX9_reachGoal 0 = .ok (.aload_n 0, 1) := by decide +kernel
theorem dX9_reachGoal_1 : decode cX9_reachGoal 1 = .ok (.invokevirtual 67, 3) := by decide +kernel
theorem dX9_reachGoal_4 : decode cX9_reachGoal 4 = .ok (.istore_n 1, 1) := by decide +kernel
theorem dX9_reachGoal_5 : decode cX9_reachGoal 5 = .ok (.iconst 0, 1) := by decide +kernel
theorem dX9_reachGoal_6 : decode cX9_reachGoal 6 = .ok (.istore_n 2, 1) := by decide +kernel
theorem dX9_reachGoal_7 : decode cX9_reachGoal 7 = .ok (.iload_n 2, 1) := by decide +kernel
theorem dX9_reachGoal_8 : decode cX9_reachGoal 8 = .ok (.sipush 1000, 3) := by decide +kernel
theorem dX9_reachGoal_11 : decode cX9_reachGoal 11 = .ok (.if_icmp .ge 42, 3) := by decide +kernel
theorem dX9_reachGoal_14 : decode cX9_reachGoal 14 = .ok (.iload_n 2, 1) := by decide +kernel
theorem dX9_reachGoal_15 : decode cX9_reachGoal 15 = .ok (.iload_n 1, 1) := by decide +kernel
theorem dX9_reachGoal_16 : decode cX9_reachGoal 16 = .ok (.if_icmp .lt 21, 3) := by decide +kernel
theorem dX9_reachGoal_19 : decode cX9_reachGoal 19 = .ok (.aload_n 0, 1) := by decide +kernel
theorem dX9_reachGoal_20 : decode cX9_reachGoal 20 = .ok (.iconst 4, 1) := by decide +kernel
theorem dX9_reachGoal_21 : decode cX9_reachGoal 21 = .ok (.iload_n 2, 1) := by decide +kernel
theorem dX9_reachGoal_22 : decode cX9_reachGoal 22 = .ok (.imul, 1) := by decide +kernel
theorem dX9_reachGoal_23 : decode cX9_reachGoal 23 = .ok (.iconst 2, 1) := by decide +kernel
theorem dX9_reachGoal_24 : decode cX9_reachGoal 24 = .ok (.iadd, 1) := by decide +kernel
theorem dX9_reachGoal_25 : decode cX9_reachGoal 25 = .ok (.aload_n 0, 1) := by decide +kernel
theorem dX9_reachGoal_26 : decode cX9_reachGoal 26 = .ok (.getfield 36, 3) := by decide +kernel
theorem dX9_reachGoal_29 : decode cX9_reachGoal 29 = .ok (.invokevirtual 70, 3) := by decide +kernel
theorem dX9_reachGoal_32 : decode cX9_reachGoal 32 = .ok (.ifCond .eq 5, 3) := by decide +kernel
theorem dX9_reachGoal_35 : decode cX9_reachGoal 35 = .ok (.iload_n 2, 1) := by decide +kernel
theorem dX9_reachGoal_36 : decode cX9_reachGoal 36 = .ok (.ireturn, 1) := by decide +kernel
theorem dX9_reachGoal_37 : decode cX9_reachGoal 37 = .ok (.aload_n 0, 1) := by decide +kernel
theorem dX9_reachGoal_38 : decode cX9_reachGoal 38 = .ok (.iload_n 2, 1) := by decide +kernel
theorem dX9_reachGoal_39 : decode cX9_reachGoal 39 = .ok (.invokevirtual 57, 3) := by decide +kernel
theorem dX9_reachGoal_42 : decode cX9_reachGoal 42 = .ok (.aload_n 0, 1) := by decide +kernel
theorem dX9_reachGoal_43 : decode cX9_reachGoal 43 = .ok (.iload_n 2, 1) := by decide +kernel
theorem dX9_reachGoal_44 : decode cX9_reachGoal 44 = .ok (.invokevirtual 74, 3) := by decide +kernel
theorem dX9_reachGoal_47 : decode cX9_reachGoal 47 = .ok (.iinc 2 1, 3) := by decide +kernel
theorem dX9_reachGoal_50 : decode cX9_reachGoal 50 = .ok (.goto (-43), 3) := by decide +kernel
theorem dX9_reachGoal_53 : decode cX9_reachGoal 53 = .ok (.iconst (-1), 1) := by decide +kernel
theorem dX9_reachGoal_54 : decode cX9_reachGoal 54 = .ok (.ireturn, 1) := by decide +kernel
theorem dX9_ticksUntilGoalIsClear_0 : decode cX9_ticksUntilGoalIsClear 0 = .ok (.iconst 0, 1) := by decide +kernel
theorem dX9_ticksUntilGoalIsClear_1 : decode cX9_ticksUntilGoalIsClear 1 = .ok (.istore_n 1, 1) := by decide +kernel
theorem dX9_ticksUntilGoalIsClear_2 : decode cX9_ticksUntilGoalIsClear 2 = .ok (.iconst 0, 1) := by decide +kernel
theorem dX9_ticksUntilGoalIsClear_3 : decode cX9_ticksUntilGoalIsClear 3 = .ok (.istore_n 2, 1) := by decide +kernel
theorem dX9_ticksUntilGoalIsClear_4 : decode cX9_ticksUntilGoalIsClear 4 = .ok (.iload_n 2, 1) := by decide +kernel
theorem dX9_ticksUntilGoalIsClear_5 : decode cX9_ticksUntilGoalIsClear 5 = .ok (.aload_n 0, 1) := by decide +kernel
theorem dX9_ticksUntilGoalIsClear_6 : decode cX9_ticksUntilGoalIsClear 6 = .ok (.getfield 22, 3) := by decide +kernel
theorem dX9_ticksUntilGoalIsClear_9 : decode cX9_ticksUntilGoalIsClear 9 = .ok (.invokevirtual 77, 3) := by decide +kernel
theorem dX9_ticksUntilGoalIsClear_12 : decode cX9_ticksUntilGoalIsClear 12 = .ok (.if_icmp .ge 69, 3) := by decide +kernel
theorem dX9_ticksUntilGoalIsClear_15 : decode cX9_ticksUntilGoalIsClear 15 = .ok (.aload_n 0, 1) := by decide +kernel
theorem dX9_ticksUntilGoalIsClear_16 : decode cX9_ticksUntilGoalIsClear 16 = .ok (.getfield 22, 3) := by decide +kernel
theorem dX9_ticksUntilGoalIsClear_19 : decode cX9_ticksUntilGoalIsClear 19 = .ok (.iload_n 2, 1) := by decide +kernel
theorem dX9_ticksUntilGoalIsClear_20 : decode cX9_ticksUntilGoalIsClear 20 = .ok (.invokevirtual 80, 3) := by decide +kernel
theorem dX9_ticksUntilGoalIsClear_23 : decode cX9_ticksUntilGoalIsClear 23 = .ok (.iconst 1, 1) := by decide +kernel
theorem dX9_ticksUntilGoalIsClear_24 : decode cX9_ticksUntilGoalIsClear 24 = .ok (.isub, 1) := by decide +kernel
theorem dX9_ticksUntilGoalIsClear_25 : decode cX9_ticksUntilGoalIsClear 25 = .ok (.istore_n 3, 1) := by decide +kernel
theorem dX9_ticksUntilGoalIsClear_26 : decode cX9_ticksUntilGoalIsClear 26 = .ok (.iload_n 2, 1) := by decide +kernel
theorem dX9_ticksUntilGoalIsClear_27 : decode cX9_ticksUntilGoalIsClear 27 = .ok (.aload_n 0, 1) := by decide +kernel
theorem dX9_ticksUntilGoalIsClear_28 : decode cX9_ticksUntilGoalIsClear 28 = .ok (.getfield 26, 3) := by decide +kernel
theorem dX9_ticksUntilGoalIsClear_31 : decode cX9_ticksUntilGoalIsClear 31 = .ok (.if_icmp .eq 44, 3) := by decide +kernel
theorem dX9_ticksUntilGoalIsClear_34 : decode cX9_ticksUntilGoalIsClear 34 = .ok (.iload_n 3, 1) := by decide +kernel
theorem dX9_ticksUntilGoalIsClear_35 : decode cX9_ticksUntilGoalIsClear 35 = .ok (.aload_n 0, 1) := by decide +kernel
theorem dX9_ticksUntilGoalIsClear_36 : decode cX9_ticksUntilGoalIsClear 36 = .ok (.getfield 30, 3) := by decide +kernel
theorem dX9_ticksUntilGoalIsClear_39 : decode cX9_ticksUntilGoalIsClear 39 = .ok (.iload_n 1, 1) := by decide +kernel
theorem dX9_ticksUntilGoalIsClear_40 : decode cX9_ticksUntilGoalIsClear 40 = .ok (.iadd, 1) := by decide +kernel
theorem dX9_ticksUntilGoalIsClear_41 : decode cX9_ticksUntilGoalIsClear 41 = .ok (.if_icmp .lt 34, 3) := by decide +kernel
theorem dX9_ticksUntilGoalIsClear_44 : decode cX9_ticksUntilGoalIsClear 44 = .ok (.aload_n 0, 1) := by decide +kernel
theorem dX9_ticksUntilGoalIsClear_45 : decode cX9_ticksUntilGoalIsClear 45 = .ok (.getfield 22, 3) := by decide +kernel
theorem dX9_ticksUntilGoalIsClear_48 : decode cX9_ticksUntilGoalIsClear 48 = .ok (.iload_n 2, 1) := by decide +kernel
theorem dX9_ticksUntilGoalIsClear_49 : decode cX9_ticksUntilGoalIsClear 49 = .ok (.iload_n 3, 1) := by decide +kernel
theorem dX9_ticksUntilGoalIsClear_50 : decode cX9_ticksUntilGoalIsClear 50 = .ok (.invokevirtual 39, 3) := by decide +kernel
theorem dX9_ticksUntilGoalIsClear_53 : decode cX9_ticksUntilGoalIsClear 53 = .ok (.aload_n 0, 1) := by decide +kernel
theorem dX9_ticksUntilGoalIsClear_54 : decode cX9_ticksUntilGoalIsClear 54 = .ok (.getfield 36, 3) := by decide +kernel
theorem dX9_ticksUntilGoalIsClear_57 : decode cX9_ticksUntilGoalIsClear 57 = .ok (.if_icmp .ne 12, 3) := by decide +kernel
theorem dX9_ticksUntilGoalIsClear_60 : decode cX9_ticksUntilGoalIsClear 60 = .ok (.iload_n 3, 1) := by decide +kernel
theorem dX9_ticksUntilGoalIsClear_61 : decode cX9_ticksUntilGoalIsClear 61 = .ok (.iconst 1, 1) := by decide +kernel
theorem dX9_ticksUntilGoalIsClear_62 : decode cX9_ticksUntilGoalIsClear 62 = .ok (.iadd, 1) := by decide +kernel
theorem dX9_ticksUntilGoalIsClear_63 : decode cX9_ticksUntilGoalIsClear 63 = .ok (.aload_n 0, 1) := by decide +kernel
theorem dX9_ticksUntilGoalIsClear_64 : decode cX9_ticksUntilGoalIsClear 64 = .ok (.getfield 30, 3) := by decide +kernel
theorem dX9_ticksUntilGoalIsClear_67 : decode cX9_ticksUntilGoalIsClear 67 = .ok (.isub, 1) := by decide +kernel
theorem dX9_ticksUntilGoalIsClear_68 : decode cX9_ticksUntilGoalIsClear 68 = .ok (.istore_n 1, 1) := by decide +kernel
theorem dX9_ticksUntilGoalIsClear_69 : decode cX9_ticksUntilGoalIsClear 69 = .ok (.iinc 3 (-1), 3) := by decide +kernel
theorem dX9_ticksUntilGoalIsClear_72 : decode cX9_ticksUntilGoalIsClear 72 = .ok (.goto (-46), 3) := by decide +kernel
theorem dX9_ticksUntilGoalIsClear_75 : decode cX9_ticksUntilGoalIsClear 75 = .ok (.iinc 2 1, 3) := by decide +kernel
theorem dX9_ticksUntilGoalIsClear_78 : decode cX9_ticksUntilGoalIsClear 78 = .ok (.goto (-74), 3) := by decide +kernel
theorem dX9_ticksUntilGoalIsClear_81 : decode cX9_ticksUntilGoalIsClear 81 = .ok (.iload_n 1, 1) := by decide +kernel
theorem dX9_ticksUntilGoalIsClear_82 : decode cX9_ticksUntilGoalIsClear 82 = .ok (.ireturn, 1) := by decide +kernel
theorem dX9_lookAtOthers_0 : decode cX9_lookAtOthers 0 = .ok (.aload_n 0, 1) := by decide +kernel
theorem dX9_lookAtOthers_1 : decode cX9_lookAtOthers 1 = .ok (.getfield 18, 3) := by decide +kernel
theorem dX9_lookAtOthers_4 : decode cX9_lookAtOthers 4 = .ok (.getfield 84, 3) := by decide +kernel
theorem dX9_lookAtOthers_7 : decode cX9_lookAtOthers 7 = .ok (.iconst 0, 1) := by decide +kernel
theorem dX9_lookAtOthers_8 : decode cX9_lookAtOthers 8 = .ok (.aload_n 0, 1) := by decide +kernel
theorem dX9_lookAtOthers_9 : decode cX9_lookAtOthers 9 = .ok (.getfield 15, 3) := by decide +kernel
theorem dX9_lookAtOthers_12 : decode cX9_lookAtOthers 12 = .ok (.iconst 0, 1) := by decide +kernel
theorem dX9_lookAtOthers_13 : decode cX9_lookAtOthers 13 = .ok (.bipush 10, 2) := by decide +kernel
theorem dX9_lookAtOthers_15 : decode cX9_lookAtOthers 15 = .ok (.invokestatic 89, 3) := by decide +kernel
theorem dX9_lookAtOthers_18 : decode cX9_lookAtOthers 18 = .ok (.aload_n 0, 1) := by decide +kernel
theorem dX9_lookAtOthers_19 : decode cX9_lookAtOthers 19 = .ok (.lconst 0, 1) := by decide +kernel
theorem dX9_lookAtOthers_20 : decode cX9_lookAtOthers 20 = .ok (.putfield 95, 3) := by decide +kernel
theorem dX9_lookAtOthers_23 : decode cX9_lookAtOthers 23 = .ok (.aload_n 0, 1) := by decide +kernel
theorem dX9_lookAtOthers_24 : decode cX9_lookAtOthers 24 = .ok (.lconst 0, 1) := by decide +kernel
theorem dX9_lookAtOthers_25 : decode cX9_lookAtOthers 25 = .ok (.putfield 99, 3) := by decide +kernel
theorem dX9_lookAtOthers_28 : decode cX9_lookAtOthers 28 = .ok (.iconst 0, 1) := by decide +kernel
theorem dX9_lookAtOthers_29 : decode cX9_lookAtOthers 29 = .ok (.istore_n 2, 1) := by decide +kernel
theorem dX9_lookAtOthers_30 : decode cX9_lookAtOthers 30 = .ok (.iload_n 2, 1) := by decide +kernel
theorem dX9_lookAtOthers_31 : decode cX9_lookAtOthers 31 = .ok (.aload_n 0, 1) := by decide +kernel
theorem dX9_lookAtOthers_32 : decode cX9_lookAtOthers 32 = .ok (.getfield 22, 3) := by decide +kernel
theorem dX9_lookAtOthers_35 : decode cX9_lookAtOthers 35 = .ok (.invokevirtual 77, 3) := by decide +kernel
theorem dX9_lookAtOthers_38 : decode cX9_lookAtOthers 38 = .ok (.if_icmp .ge 51, 3) := by decide +kernel
theorem dX9_lookAtOthers_41 : decode cX9_lookAtOthers 41 = .ok (.iload_n 2, 1) := by decide +kernel
theorem dX9_lookAtOthers_42 : decode cX9_lookAtOthers 42 = .ok (.aload_n 0, 1) := by decide +kernel
theorem dX9_lookAtOthers_43 : decode cX9_lookAtOthers 43 = .ok (.getfield 26, 3) := by decide +kernel
theorem dX9_lookAtOthers_46 : decode cX9_lookAtOthers 46 = .ok (.if_icmp .eq 37, 3) := by decide +kernel
theorem dX9_lookAtOthers_49 : decode cX9_lookAtOthers 49 = .ok (.aload_n 0, 1) := by decide +kernel
theorem dX9_lookAtOthers_50 : decode cX9_lookAtOthers 50 = .ok (.aload_n 0, 1) := by decide +kernel
theorem dX9_lookAtOthers_51 : decode cX9_lookAtOthers 51 = .ok (.getfield 22, 3) := by decide +kernel
theorem dX9_lookAtOthers_54 : decode cX9_lookAtOthers 54 = .ok (.iload_n 2, 1) := by decide +kernel
theorem dX9_lookAtOthers_55 : decode cX9_lookAtOthers 55 = .ok (.aload_n 0, 1) := by decide +kernel
theorem dX9_lookAtOthers_56 : decode cX9_lookAtOthers 56 = .ok (.getfield 30, 3) := by decide +kernel
theorem dX9_lookAtOthers_59 : decode cX9_lookAtOthers 59 = .ok (.iload_n 1, 1) := by decide +kernel
theorem dX9_lookAtOthers_60 : decode cX9_lookAtOthers 60 = .ok (.iadd, 1) := by decide +kernel
theorem dX9_lookAtOthers_61 : decode cX9_lookAtOthers 61 = .ok (.invokevirtual 39, 3) := by decide +kernel
theorem dX9_lookAtOthers_64 : decode cX9_lookAtOthers 64 = .ok (.aload_n 0, 1) := by decide +kernel
theorem dX9_lookAtOthers_65 : decode cX9_lookAtOthers 65 = .ok (.getfield 22, 3) := by decide +kernel
theorem dX9_lookAtOthers_68 : decode cX9_lookAtOthers 68 = .ok (.iload_n 2, 1) := by decide +kernel
theorem dX9_lookAtOthers_69 : decode cX9_lookAtOthers 69 = .ok (.aload_n 0, 1) := by decide +kernel
theorem dX9_lookAtOthers_70 : decode cX9_lookAtOthers 70 = .ok (.getfield 30, 3) := by decide +kernel
theorem dX9_lookAtOthers_73 : decode cX9_lookAtOthers 73 = .ok (.iload_n 1, 1) := by decide +kernel
theorem dX9_lookAtOthers_74 : decode cX9_lookAtOthers 74 = .ok (.iadd, 1) := by decide +kernel
theorem dX9_lookAtOthers_75 : decode cX9_lookAtOthers 75 = .ok (.iconst 1, 1) := by decide +kernel
theorem dX9_lookAtOthers_76 : decode cX9_lookAtOthers 76 = .ok (.iadd, 1) := by decide +kernel
theorem dX9_lookAtOthers_77 : decode cX9_lookAtOthers 77 = .ok (.invokevirtual 39, 3) := by decide +kernel
theorem dX9_lookAtOthers_80 : decode cX9_lookAtOthers 80 = .ok (.invokevirtual 102, 3) := by decide +kernel
theorem dX9_lookAtOthers_83 : decode cX9_lookAtOthers 83 = .ok (.iinc 2 1, 3) := by decide +kernel
theorem dX9_lookAtOthers_86 : decode cX9_lookAtOthers 86 = .ok (.goto (-56), 3) := by decide +kernel
theorem dX9_lookAtOthers_89 : decode cX9_lookAtOthers 89 = .ok (.return_, 1) := by decide +kernel
theorem dX9_avoid_0 : decode cX9_avoid 0 = .ok (.lconst 1, 1) := by decide +kernel
theorem dX9_avoid_1 : decode cX9_avoid 1 = .ok (.iload_n 2, 1) := by decide +kernel
theorem dX9_avoid_2 : decode cX9_avoid 2 = .ok (.lshl, 1) := by decide +kernel
theorem dX9_avoid_3 : decode cX9_avoid 3 = .ok (.lstore_n 3, 1) := by decide +kernel
theorem dX9_avoid_4 : decode cX9_avoid 4 = .ok (.iload_n 2, 1) := by decide +kernel
theorem dX9_avoid_5 : decode cX9_avoid 5 = .ok (.bipush 64, 2) := by decide +kernel
theorem dX9_avoid_7 : decode cX9_avoid 7 = .ok (.if_icmp .ge 16, 3) := by decide +kernel
theorem dX9_avoid_10 : decode cX9_avoid 10 = .ok (.aload_n 0, 1) := by decide +kernel
theorem dX9_avoid_11 : decode cX9_avoid 11 = .ok (.dup, 1) := by decide +kernel
theorem dX9_avoid_12 : decode cX9_avoid 12 = .ok (.getfield 95, 3) := by decide +kernel
theorem dX9_avoid_15 : decode cX9_avoid 15 = .ok (.lload_n 3, 1) := by decide +kernel
theorem dX9_avoid_16 : decode cX9_avoid 16 = .ok (.lor, 1) := by decide +kernel
theorem dX9_avoid_17 : decode cX9_avoid 17 = .ok (.putfield 95, 3) := by decide +kernel
theorem dX9_avoid_20 : decode cX9_avoid 20 = .ok (.goto 13, 3) := by decide +kernel
theorem dX9_avoid_23 : decode cX9_avoid 23 = .ok (.aload_n 0, 1) := by decide +kernel
theorem dX9_avoid_24 : decode cX9_avoid 24 = .ok (.dup, 1) := by decide +kernel
theorem dX9_avoid_25 : decode cX9_avoid 25 = .ok (.getfield 99, 3) := by decide +kernel
theorem dX9_avoid_28 : decode cX9_avoid 28 = .ok (.lload_n 3, 1) := by decide +kernel
theorem dX9_avoid_29 : decode cX9_avoid 29 = .ok (.lor, 1) := by decide +kernel
theorem dX9_avoid_30 : decode cX9_avoid 30 = .ok (.putfield 99, 3) := by decide +kernel
theorem dX9_avoid_33 : decode cX9_avoid 33 = .ok (.iconst 1, 1) := by decide +kernel
theorem dX9_avoid_34 : decode cX9_avoid 34 = .ok (.istore 5, 2) := by decide +kernel
theorem dX9_avoid_36 : decode cX9_avoid 36 = .ok (.iload 5, 2) := by decide +kernel
theorem dX9_avoid_38 : decode cX9_avoid 38 = .ok (.iconst 5, 1) := by decide +kernel
theorem dX9_avoid_39 : decode cX9_avoid 39 = .ok (.if_icmp .ge 47, 3) := by decide +kernel
theorem dX9_avoid_42 : decode cX9_avoid 42 = .ok (.iload_n 2, 1) := by decide +kernel
theorem dX9_avoid_43 : decode cX9_avoid 43 = .ok (.aload_n 0, 1) := by decide +kernel
theorem dX9_avoid_44 : decode cX9_avoid 44 = .ok (.getfield 18, 3) := by decide +kernel
theorem dX9_avoid_47 : decode cX9_avoid 47 = .ok (.getfield 105, 3) := by decide +kernel
theorem dX9_avoid_50 : decode cX9_avoid 50 = .ok (.iload 5, 2) := by decide +kernel
theorem dX9_avoid_52 : decode cX9_avoid 52 = .ok (.iaload, 1) := by decide +kernel
theorem dX9_avoid_53 : decode cX9_avoid 53 = .ok (.iadd, 1) := by decide +kernel
theorem dX9_avoid_54 : decode cX9_avoid 54 = .ok (.iload_n 1, 1) := by decide +kernel
theorem dX9_avoid_55 : decode cX9_avoid 55 = .ok (.if_icmp .ne 25, 3) := by decide +kernel
theorem dX9_avoid_58 : decode cX9_avoid 58 = .ok (.aload_n 0, 1) := by decide +kernel
theorem dX9_avoid_59 : decode cX9_avoid 59 = .ok (.getfield 15, 3) := by decide +kernel
theorem dX9_avoid_62 : decode cX9_avoid 62 = .ok (.iconst 2, 1) := by decide +kernel
theorem dX9_avoid_63 : decode cX9_avoid 63 = .ok (.iload 5, 2) := by decide +kernel
theorem dX9_avoid_65 : decode cX9_avoid 65 = .ok (.imul, 1) := by decide +kernel
theorem dX9_avoid_66 : decode cX9_avoid 66 = .ok (.iload_n 2, 1) := by decide +kernel
theorem dX9_avoid_67 : decode cX9_avoid 67 = .ok (.bipush 6, 2) := by decide +kernel
theorem dX9_avoid_69 : decode cX9_avoid 69 = .ok (.ishr, 1) := by decide +kernel
theorem dX9_avoid_70 : decode cX9_avoid 70 = .ok (.iadd, 1) := by decide +kernel
theorem dX9_avoid_71 : decode cX9_avoid 71 = .ok (.dup2, 1) := by decide +kernel
theorem dX9_avoid_72 : decode cX9_avoid 72 = .ok (.laload, 1) := by decide +kernel
theorem dX9_avoid_73 : decode cX9_avoid 73 = .ok (.lload_n 3, 1) := by decide +kernel
theorem dX9_avoid_74 : decode cX9_avoid 74 = .ok (.ldc2_w 109, 3) := by decide +kernel
theorem dX9_avoid_77 : decode cX9_avoid 77 = .ok (.lxor, 1) := by decide +kernel
theorem dX9_avoid_78 : decode cX9_avoid 78 = .ok (.land, 1) := by decide +kernel
theorem dX9_avoid_79 : decode cX9_avoid 79 = .ok (.lastore, 1) := by decide +kernel
theorem dX9_avoid_80 : decode cX9_avoid 80 = .ok (.iinc 5 1, 3) := by decide +kernel
theorem dX9_avoid_83 : decode cX9_avoid 83 = .ok (.goto (-47), 3) := by decide +kernel
theorem dX9_avoid_86 : decode cX9_avoid 86 = .ok (.return_, 1) := by decide +kernel
theorem dX9_spread_0 : decode cX9_spread 0 = .ok (.iconst 0, 1) := by decide +kernel
theorem dX9_spread_1 : decode cX9_spread 1 = .ok (.istore_n 2, 1) := by decide +kernel
theorem dX9_spread_2 : decode cX9_spread 2 = .ok (.iload_n 2, 1) := by decide +kernel
theorem dX9_spread_3 : decode cX9_spread 3 = .ok (.iconst 2, 1) := by decide +kernel
theorem dX9_spread_4 : decode cX9_spread 4 = .ok (.if_icmp .ge 172, 3) := by decide +kernel
theorem dX9_spread_7 : decode cX9_spread 7 = .ok (.iconst 4, 1) := by decide +kernel
theorem dX9_spread_8 : decode cX9_spread 8 = .ok (.iload_n 1, 1) := by decide +kernel
theorem dX9_spread_9 : decode cX9_spread 9 = .ok (.imul, 1) := by decide +kernel
theorem dX9_spread_10 : decode cX9_spread 10 = .ok (.iconst 2, 1) := by decide +kernel
theorem dX9_spread_11 : decode cX9_spread 11 = .ok (.iload_n 2, 1) := by decide +kernel
theorem dX9_spread_12 : decode cX9_spread 12 = .ok (.imul, 1) := by decide +kernel
theorem dX9_spread_13 : decode cX9_spread 13 = .ok (.iadd, 1) := by decide +kernel
theorem dX9_spread_14 : decode cX9_spread 14 = .ok (.istore_n 3, 1) := by decide +kernel
theorem dX9_spread_15 : decode cX9_spread 15 = .ok (.aload_n 0, 1) := by decide +kernel
theorem dX9_spread_16 : decode cX9_spread 16 = .ok (.getfield 9, 3) := by decide +kernel
theorem dX9_spread_19 : decode cX9_spread 19 = .ok (.iload_n 3, 1) := by decide +kernel
theorem dX9_spread_20 : decode cX9_spread 20 = .ok (.laload, 1) := by decide +kernel
theorem dX9_spread_21 : decode cX9_spread 21 = .ok (.lstore 4, 2) := by decide +kernel
theorem dX9_spread_23 : decode cX9_spread 23 = .ok (.aload_n 0, 1) := by decide +kernel
theorem dX9_spread_24 : decode cX9_spread 24 = .ok (.getfield 9, 3) := by decide +kernel
theorem dX9_spread_27 : decode cX9_spread 27 = .ok (.iload_n 3, 1) := by decide +kernel
theorem dX9_spread_28 : decode cX9_spread 28 = .ok (.iconst 1, 1) := by decide +kernel
theorem dX9_spread_29 : decode cX9_spread 29 = .ok (.iadd, 1) := by decide +kernel
theorem dX9_spread_30 : decode cX9_spread 30 = .ok (.laload, 1) := by decide +kernel
theorem dX9_spread_31 : decode cX9_spread 31 = .ok (.lstore 6, 2) := by decide +kernel
theorem dX9_spread_33 : decode cX9_spread 33 = .ok (.iconst 1, 1) := by decide +kernel
theorem dX9_spread_34 : decode cX9_spread 34 = .ok (.istore 8, 2) := by decide +kernel
theorem dX9_spread_36 : decode cX9_spread 36 = .ok (.iload 8, 2) := by decide +kernel
theorem dX9_spread_38 : decode cX9_spread 38 = .ok (.iconst 5, 1) := by decide +kernel
theorem dX9_spread_39 : decode cX9_spread 39 = .ok (.if_icmp .ge 93, 3) := by decide +kernel
theorem dX9_spread_42 : decode cX9_spread 42 = .ok (.aload_n 0, 1) := by decide +kernel
theorem dX9_spread_43 : decode cX9_spread 43 = .ok (.getfield 9, 3) := by decide +kernel
theorem dX9_spread_46 : decode cX9_spread 46 = .ok (.iload_n 3, 1) := by decide +kernel
theorem dX9_spread_47 : decode cX9_spread 47 = .ok (.laload, 1) := by decide +kernel
theorem dX9_spread_48 : decode cX9_spread 48 = .ok (.aload_n 0, 1) := by decide +kernel
theorem dX9_spread_49 : decode cX9_spread 49 = .ok (.getfield 15, 3) := by decide +kernel
theorem dX9_spread_52 : decode cX9_spread 52 = .ok (.iconst 2, 1) := by decide +kernel
theorem dX9_spread_53 : decode cX9_spread 53 = .ok (.iload 8, 2) := by decide +kernel
theorem dX9_spread_55 : decode cX9_spread 55 = .ok (.imul, 1) := by decide +kernel
theorem dX9_spread_56 : decode cX9_spread 56 = .ok (.laload, 1) := by decide +kernel
theorem dX9_spread_57 : decode cX9_spread 57 = .ok (.land, 1) := by decide +kernel
theorem dX9_spread_58 : decode cX9_spread 58 = .ok (.lstore 9, 2) := by decide +kernel
theorem dX9_spread_60 : decode cX9_spread 60 = .ok (.aload_n 0, 1) := by decide +kernel
theorem dX9_spread_61 : decode cX9_spread 61 = .ok (.getfield 9, 3) := by decide +kernel
theorem dX9_spread_64 : decode cX9_spread 64 = .ok (.iload_n 3, 1) := by decide +kernel
theorem dX9_spread_65 : decode cX9_spread 65 = .ok (.iconst 1, 1) := by decide +kernel
theorem dX9_spread_66 : decode cX9_spread 66 = .ok (.iadd, 1) := by decide +kernel
theorem dX9_spread_67 : decode cX9_spread 67 = .ok (.laload, 1) := by decide +kernel
theorem dX9_spread_68 : decode cX9_spread 68 = .ok (.aload_n 0, 1) := by decide +kernel
theorem dX9_spread_69 : decode cX9_spread 69 = .ok (.getfield 15, 3) := by decide +kernel
theorem dX9_spread_72 : decode cX9_spread 72 = .ok (.iconst 2, 1) := by decide +kernel
theorem dX9_spread_73 : decode cX9_spread 73 = .ok (.iload 8, 2) := by decide +kernel
theorem dX9_spread_75 : decode cX9_spread 75 = .ok (.imul, 1) := by decide +kernel
theorem dX9_spread_76 : decode cX9_spread 76 = .ok (.iconst 1, 1) := by decide +kernel
theorem dX9_spread_77 : decode cX9_spread 77 = .ok (.iadd, 1) := by decide +kernel
theorem dX9_spread_78 : decode cX9_spread 78 = .ok (.laload, 1) := by decide +kernel
theorem dX9_spread_79 : decode cX9_spread 79 = .ok (.land, 1) := by decide +kernel
theorem dX9_spread_80 : decode cX9_spread 80 = .ok (.lstore 11, 2) := by decide +kernel
theorem dX9_spread_82 : decode cX9_spread 82 = .ok (.lload 4, 2) := by decide +kernel
theorem dX9_spread_84 : decode cX9_spread 84 = .ok (.lload 9, 2) := by decide +kernel
theorem dX9_spread_86 : decode cX9_spread 86 = .ok (.lload 11, 2) := by decide +kernel
theorem dX9_spread_88 : decode cX9_spread 88 = .ok (.aload_n 0, 1) := by decide +kernel
theorem dX9_spread_89 : decode cX9_spread 89 = .ok (.getfield 18, 3) := by decide +kernel
theorem dX9_spread_92 : decode cX9_spread 92 = .ok (.getfield 105, 3) := by decide +kernel
theorem dX9_spread_95 : decode cX9_spread 95 = .ok (.iload 8, 2) := by decide +kernel
theorem dX9_spread_97 : decode cX9_spread 97 = .ok (.iaload, 1) := by decide +kernel
theorem dX9_spread_98 : decode cX9_spread 98 = .ok (.invokestatic 111, 3) := by decide +kernel
theorem dX9_spread_101 : decode cX9_spread 101 = .ok (.lor, 1) := by decide +kernel
theorem dX9_spread_102 : decode cX9_spread 102 = .ok (.lstore 4, 2) := by decide +kernel
theorem dX9_spread_104 : decode cX9_spread 104 = .ok (.lload 6, 2) := by decide +kernel
theorem dX9_spread_106 : decode cX9_spread 106 = .ok (.lload 9, 2) := by decide +kernel
theorem dX9_spread_108 : decode cX9_spread 108 = .ok (.lload 11, 2) := by decide +kernel
theorem dX9_spread_110 : decode cX9_spread 110 = .ok (.aload_n 0, 1) := by decide +kernel
theorem dX9_spread_111 : decode cX9_spread 111 = .ok (.getfield 18, 3) := by decide +kernel
theorem dX9_spread_114 : decode cX9_spread 114 = .ok (.getfield 105, 3) := by decide +kernel
theorem dX9_spread_117 : decode cX9_spread 117 = .ok (.iload 8, 2) := by decide +kernel
theorem dX9_spread_119 : decode cX9_spread 119 = .ok (.iaload, 1) := by decide +kernel
theorem dX9_spread_120 : decode cX9_spread 120 = .ok (.invokestatic 115, 3) := by decide +kernel
theorem dX9_spread_123 : decode cX9_spread 123 = .ok (.lor, 1) := by decide +kernel
theorem dX9_spread_124 : decode cX9_spread 124 = .ok (.lstore 6, 2) := by decide +kernel
theorem dX9_spread_126 : decode cX9_spread 126 = .ok (.iinc 8 1, 3) := by decide +kernel
theorem dX9_spread_129 : decode cX9_spread 129 = .ok (.goto (-93), 3) := by decide +kernel
theorem dX9_spread_132 : decode cX9_spread 132 = .ok (.aload_n 0, 1) := by decide +kernel
theorem dX9_spread_133 : decode cX9_spread 133 = .ok (.getfield 9, 3) := by decide +kernel
theorem dX9_spread_136 : decode cX9_spread 136 = .ok (.iload_n 3, 1) := by decide +kernel
theorem dX9_spread_137 : decode cX9_spread 137 = .ok (.iconst 4, 1) := by decide +kernel
theorem dX9_spread_138 : decode cX9_spread 138 = .ok (.iadd, 1) := by decide +kernel
theorem dX9_spread_139 : decode cX9_spread 139 = .ok (.lload 4, 2) := by decide +kernel
theorem dX9_spread_141 : decode cX9_spread 141 = .ok (.aload_n 0, 1) := by decide +kernel
theorem dX9_spread_142 : decode cX9_spread 142 = .ok (.getfield 95, 3) := by decide +kernel
theorem dX9_spread_145 : decode cX9_spread 145 = .ok (.ldc2_w 109, 3) := by decide +kernel
theorem dX9_spread_148 : decode cX9_spread 148 = .ok (.lxor, 1) := by decide +kernel
theorem dX9_spread_149 : decode cX9_spread 149 = .ok (.land, 1) := by decide +kernel
theorem dX9_spread_150 : decode cX9_spread 150 = .ok (.lastore, 1) := by decide +kernel
theorem dX9_spread_151 : decode cX9_spread 151 = .ok (.aload_n 0, 1) := by decide +kernel
theorem dX9_spread_152 : decode cX9_spread 152 = .ok (.getfield 9, 3) := by decide +kernel
theorem dX9_spread_155 : decode cX9_spread 155 = .ok (.iload_n 3, 1) := by decide +kernel
theorem dX9_spread_156 : decode cX9_spread 156 = .ok (.iconst 5, 1) := by decide +kernel
theorem dX9_spread_157 : decode cX9_spread 157 = .ok (.iadd, 1) := by decide +kernel
theorem dX9_spread_158 : decode cX9_spread 158 = .ok (.lload 6, 2) := by decide +kernel
theorem dX9_spread_160 : decode cX9_spread 160 = .ok (.aload_n 0, 1) := by decide +kernel
theorem dX9_spread_161 : decode cX9_spread 161 = .ok (.getfield 99, 3) := by decide +kernel
theorem dX9_spread_164 : decode cX9_spread 164 = .ok (.ldc2_w 109, 3) := by decide +kernel
theorem dX9_spread_167 : decode cX9_spread 167 = .ok (.lxor, 1) := by decide +kernel
theorem dX9_spread_168 : decode cX9_spread 168 = .ok (.land, 1) := by decide +kernel
theorem dX9_spread_169 : decode cX9_spread 169 = .ok (.lastore, 1) := by decide +kernel
theorem dX9_spread_170 : decode cX9_spread 170 = .ok (.iinc 2 1, 3) := by decide +kernel
theorem dX9_spread_173 : decode cX9_spread 173 = .ok (.goto (-171), 3) := by decide +kernel
theorem dX9_spread_176 : decode cX9_spread 176 = .ok (.aload_n 0, 1) := by decide +kernel
theorem dX9_spread_177 : decode cX9_spread 177 = .ok (.getfield 33, 3) := by decide +kernel
theorem dX9_spread_180 : decode cX9_spread 180 = .ok (.iconst (-1), 1) := by decide +kernel
theorem dX9_spread_181 : decode cX9_spread 181 = .ok (.if_icmp .eq 64, 3) := by decide +kernel
theorem dX9_spread_184 : decode cX9_spread 184 = .ok (.aload_n 0, 1) := by decide +kernel
theorem dX9_spread_185 : decode cX9_spread 185 = .ok (.iconst 4, 1) := by decide +kernel
theorem dX9_spread_186 : decode cX9_spread 186 = .ok (.iload_n 1, 1) := by decide +kernel
theorem dX9_spread_187 : decode cX9_spread 187 = .ok (.imul, 1) := by decide +kernel
theorem dX9_spread_188 : decode cX9_spread 188 = .ok (.iconst 4, 1) := by decide +kernel
theorem dX9_spread_189 : decode cX9_spread 189 = .ok (.iadd, 1) := by decide +kernel
theorem dX9_spread_190 : decode cX9_spread 190 = .ok (.aload_n 0, 1) := by decide +kernel
theorem dX9_spread_191 : decode cX9_spread 191 = .ok (.getfield 33, 3) := by decide +kernel
theorem dX9_spread_194 : decode cX9_spread 194 = .ok (.invokevirtual 70, 3) := by decide +kernel
theorem dX9_spread_197 : decode cX9_spread 197 = .ok (.ifCond .eq 48, 3) := by decide +kernel
theorem dX9_spread_200 : decode cX9_spread 200 = .ok (.aload_n 0, 1) := by decide +kernel
theorem dX9_spread_201 : decode cX9_spread 201 = .ok (.getfield 9, 3) := by decide +kernel
theorem dX9_spread_204 : decode cX9_spread 204 = .ok (.iconst 4, 1) := by decide +kernel
theorem dX9_spread_205 : decode cX9_spread 205 = .ok (.iload_n 1, 1) := by decide +kernel
theorem dX9_spread_206 : decode cX9_spread 206 = .ok (.imul, 1) := by decide +kernel
theorem dX9_spread_207 : decode cX9_spread 207 = .ok (.iconst 4, 1) := by decide +kernel
theorem dX9_spread_208 : decode cX9_spread 208 = .ok (.iadd, 1) := by decide +kernel
theorem dX9_spread_209 : decode cX9_spread 209 = .ok (.aload_n 0, 1) := by decide +kernel
theorem dX9_spread_210 : decode cX9_spread 210 = .ok (.getfield 33, 3) := by decide +kernel
theorem dX9_spread_213 : decode cX9_spread 213 = .ok (.bipush 6, 2) := by decide +kernel
theorem dX9_spread_215 : decode cX9_spread 215 = .ok (.ishr, 1) := by decide +kernel
theorem dX9_spread_216 : decode cX9_spread 216 = .ok (.iadd, 1) := by decide +kernel
theorem dX9_spread_217 : decode cX9_spread 217 = .ok (.dup2, 1) := by decide +kernel
theorem dX9_spread_218 : decode cX9_spread 218 = .ok (.laload, 1) := by decide +kernel
theorem dX9_spread_219 : decode cX9_spread 219 = .ok (.lconst 1, 1) := by decide +kernel
theorem dX9_spread_220 : decode cX9_spread 220 = .ok (.aload_n 0, 1) := by decide +kernel
theorem dX9_spread_221 : decode cX9_spread 221 = .ok (.getfield 33, 3) := by decide +kernel
theorem dX9_spread_224 : decode cX9_spread 224 = .ok (.lshl, 1) := by decide +kernel
theorem dX9_spread_225 : decode cX9_spread 225 = .ok (.ldc2_w 109, 3) := by decide +kernel
theorem dX9_spread_228 : decode cX9_spread 228 = .ok (.lxor, 1) := by decide +kernel
theorem dX9_spread_229 : decode cX9_spread 229 = .ok (.land, 1) := by decide +kernel
theorem dX9_spread_230 : decode cX9_spread 230 = .ok (.lastore, 1) := by decide +kernel
theorem dX9_spread_231 : decode cX9_spread 231 = .ok (.aload_n 0, 1) := by decide +kernel
theorem dX9_spread_232 : decode cX9_spread 232 = .ok (.iconst 4, 1) := by decide +kernel
theorem dX9_spread_233 : decode cX9_spread 233 = .ok (.iload_n 1, 1) := by decide +kernel
theorem dX9_spread_234 : decode cX9_spread 234 = .ok (.imul, 1) := by decide +kernel
theorem dX9_spread_235 : decode cX9_spread 235 = .ok (.bipush 6, 2) := by decide +kernel
theorem dX9_spread_237 : decode cX9_spread 237 = .ok (.iadd, 1) := by decide +kernel
theorem dX9_spread_238 : decode cX9_spread 238 = .ok (.aload_n 0, 1) := by decide +kernel
theorem dX9_spread_239 : decode cX9_spread 239 = .ok (.getfield 33, 3) := by decide +kernel
theorem dX9_spread_242 : decode cX9_spread 242 = .ok (.invokevirtual 49, 3) := by decide +kernel
theorem dX9_spread_245 : decode cX9_spread 245 = .ok (.return_, 1) := by decide +kernel
theorem dX9_narrow_0 : decode cX9_narrow 0 = .ok (.iconst 0, 1) := by decide +kernel
theorem dX9_narrow_1 : decode cX9_narrow 1 = .ok (.istore_n 2, 1) := by decide +kernel
theorem dX9_narrow_2 : decode cX9_narrow 2 = .ok (.iload_n 2, 1) := by decide +kernel
theorem dX9_narrow_3 : decode cX9_narrow 3 = .ok (.iconst 2, 1) := by decide +kernel
theorem dX9_narrow_4 : decode cX9_narrow 4 = .ok (.if_icmp .ge 232, 3) := by decide +kernel
theorem dX9_narrow_7 : decode cX9_narrow 7 = .ok (.iconst 4, 1) := by decide +kernel
theorem dX9_narrow_8 : decode cX9_narrow 8 = .ok (.iload_n 1, 1) := by decide +kernel
theorem dX9_narrow_9 : decode cX9_narrow 9 = .ok (.imul, 1) := by decide +kernel
theorem dX9_narrow_10 : decode cX9_narrow 10 = .ok (.iconst 2, 1) := by decide +kernel
theorem dX9_narrow_11 : decode cX9_narrow 11 = .ok (.iload_n 2, 1) := by decide +kernel
theorem dX9_narrow_12 : decode cX9_narrow 12 = .ok (.imul, 1) := by decide +kernel
theorem dX9_narrow_13 : decode cX9_narrow 13 = .ok (.iadd, 1) := by decide +kernel
theorem dX9_narrow_14 : decode cX9_narrow 14 = .ok (.istore_n 3, 1) := by decide +kernel
theorem dX9_narrow_15 : decode cX9_narrow 15 = .ok (.aload_n 0, 1) := by decide +kernel
theorem dX9_narrow_16 : decode cX9_narrow 16 = .ok (.getfield 9, 3) := by decide +kernel
theorem dX9_narrow_19 : decode cX9_narrow 19 = .ok (.iload_n 3, 1) := by decide +kernel
theorem dX9_narrow_20 : decode cX9_narrow 20 = .ok (.iconst 4, 1) := by decide +kernel
theorem dX9_narrow_21 : decode cX9_narrow 21 = .ok (.iadd, 1) := by decide +kernel
theorem dX9_narrow_22 : decode cX9_narrow 22 = .ok (.laload, 1) := by decide +kernel
theorem dX9_narrow_23 : decode cX9_narrow 23 = .ok (.lstore 4, 2) := by decide +kernel
theorem dX9_narrow_25 : decode cX9_narrow 25 = .ok (.aload_n 0, 1) := by decide +kernel
theorem dX9_narrow_26 : decode cX9_narrow 26 = .ok (.getfield 9, 3) := by decide +kernel
theorem dX9_narrow_29 : decode cX9_narrow 29 = .ok (.iload_n 3, 1) := by decide +kernel
theorem dX9_narrow_30 : decode cX9_narrow 30 = .ok (.iconst 5, 1) := by decide +kernel
theorem dX9_narrow_31 : decode cX9_narrow 31 = .ok (.iadd, 1) := by decide +kernel
theorem dX9_narrow_32 : decode cX9_narrow 32 = .ok (.laload, 1) := by decide +kernel
theorem dX9_narrow_33 : decode cX9_narrow 33 = .ok (.lstore 6, 2) := by decide +kernel
theorem dX9_narrow_35 : decode cX9_narrow 35 = .ok (.iload_n 2, 1) := by decide +kernel
theorem dX9_narrow_36 : decode cX9_narrow 36 = .ok (.ifCond .ne 79, 3) := by decide +kernel
theorem dX9_narrow_39 : decode cX9_narrow 39 = .ok (.aload_n 0, 1) := by decide +kernel
theorem dX9_narrow_40 : decode cX9_narrow 40 = .ok (.getfield 33, 3) := by decide +kernel
theorem dX9_narrow_43 : decode cX9_narrow 43 = .ok (.iconst (-1), 1) := by decide +kernel
theorem dX9_narrow_44 : decode cX9_narrow 44 = .ok (.if_icmp .eq 71, 3) := by decide +kernel
theorem dX9_narrow_47 : decode cX9_narrow 47 = .ok (.aload_n 0, 1) := by decide +kernel
theorem dX9_narrow_48 : decode cX9_narrow 48 = .ok (.getfield 9, 3) := by decide +kernel
theorem dX9_narrow_51 : decode cX9_narrow 51 = .ok (.iconst 4, 1) := by decide +kernel
theorem dX9_narrow_52 : decode cX9_narrow 52 = .ok (.iload_n 1, 1) := by decide +kernel
theorem dX9_narrow_53 : decode cX9_narrow 53 = .ok (.imul, 1) := by decide +kernel
theorem dX9_narrow_54 : decode cX9_narrow 54 = .ok (.bipush 6, 2) := by decide +kernel
theorem dX9_narrow_56 : decode cX9_narrow 56 = .ok (.iadd, 1) := by decide +kernel
theorem dX9_narrow_57 : decode cX9_narrow 57 = .ok (.aload_n 0, 1) := by decide +kernel
theorem dX9_narrow_58 : decode cX9_narrow 58 = .ok (.getfield 33, 3) := by decide +kernel
theorem dX9_narrow_61 : decode cX9_narrow 61 = .ok (.bipush 6, 2) := by decide +kernel
theorem dX9_narrow_63 : decode cX9_narrow 63 = .ok (.ishr, 1) := by decide +kernel
theorem dX9_narrow_64 : decode cX9_narrow 64 = .ok (.iadd, 1) := by decide +kernel
theorem dX9_narrow_65 : decode cX9_narrow 65 = .ok (.laload, 1) := by decide +kernel
theorem dX9_narrow_66 : decode cX9_narrow 66 = .ok (.lconst 1, 1) := by decide +kernel
theorem dX9_narrow_67 : decode cX9_narrow 67 = .ok (.aload_n 0, 1) := by decide +kernel
theorem dX9_narrow_68 : decode cX9_narrow 68 = .ok (.getfield 33, 3) := by decide +kernel
theorem dX9_narrow_71 : decode cX9_narrow 71 = .ok (.lshl, 1) := by decide +kernel
theorem dX9_narrow_72 : decode cX9_narrow 72 = .ok (.land, 1) := by decide +kernel
theorem dX9_narrow_73 : decode cX9_narrow 73 = .ok (.lstore 8, 2) := by decide +kernel
theorem dX9_narrow_75 : decode cX9_narrow 75 = .ok (.lload 4, 2) := by decide +kernel
theorem dX9_narrow_77 : decode cX9_narrow 77 = .ok (.aload_n 0, 1) := by decide +kernel
theorem dX9_narrow_78 : decode cX9_narrow 78 = .ok (.getfield 33, 3) := by decide +kernel
theorem dX9_narrow_81 : decode cX9_narrow 81 = .ok (.bipush 64, 2) := by decide +kernel
theorem dX9_narrow_83 : decode cX9_narrow 83 = .ok (.if_icmp .ge 8, 3) := by decide +kernel
theorem dX9_narrow_86 : decode cX9_narrow 86 = .ok (.lload 8, 2) := by decide +kernel
theorem dX9_narrow_88 : decode cX9_narrow 88 = .ok (.goto 4, 3) := by decide +kernel
theorem dX9_narrow_91 : decode cX9_narrow 91 = .ok (.lconst 0, 1) := by decide +kernel
theorem dX9_narrow_92 : decode cX9_narrow 92 = .ok (.lor, 1) := by decide +kernel
theorem dX9_narrow_93 : decode cX9_narrow 93 = .ok (.lstore 4, 2) := by decide +kernel
theorem dX9_narrow_95 : decode cX9_narrow 95 = .ok (.lload 6, 2) := by decide +kernel
theorem dX9_narrow_97 : decode cX9_narrow 97 = .ok (.aload_n 0, 1) := by decide +kernel
theorem dX9_narrow_98 : decode cX9_narrow 98 = .ok (.getfield 33, 3) := by decide +kernel
theorem dX9_narrow_101 : decode cX9_narrow 101 = .ok (.bipush 64, 2) := by decide +kernel
theorem dX9_narrow_103 : decode cX9_narrow 103 = .ok (.if_icmp .ge 7, 3) := by decide +kernel
theorem dX9_narrow_106 : decode cX9_narrow 106 = .ok (.lconst 0, 1) := by decide +kernel
theorem dX9_narrow_107 : decode cX9_narrow 107 = .ok (.goto 5, 3) := by decide +kernel
theorem dX9_narrow_110 : decode cX9_narrow 110 = .ok (.lload 8, 2) := by decide +kernel
theorem dX9_narrow_112 : decode cX9_narrow 112 = .ok (.lor, 1) := by decide +kernel
theorem dX9_narrow_113 : decode cX9_narrow 113 = .ok (.lstore 6, 2) := by decide +kernel
theorem dX9_narrow_115 : decode cX9_narrow 115 = .ok (.lload 4, 2) := by decide +kernel
theorem dX9_narrow_117 : decode cX9_narrow 117 = .ok (.lstore 8, 2) := by decide +kernel
theorem dX9_narrow_119 : decode cX9_narrow 119 = .ok (.lload 6, 2) := by decide +kernel
theorem dX9_narrow_121 : decode cX9_narrow 121 = .ok (.lstore 10, 2) := by decide +kernel
theorem dX9_narrow_123 : decode cX9_narrow 123 = .ok (.iconst 1, 1) := by decide +kernel
theorem dX9_narrow_124 : decode cX9_narrow 124 = .ok (.istore 12, 2) := by decide +kernel
theorem dX9_narrow_126 : decode cX9_narrow 126 = .ok (.iload 12, 2) := by decide +kernel
theorem dX9_narrow_128 : decode cX9_narrow 128 = .ok (.iconst 5, 1) := by decide +kernel
theorem dX9_narrow_129 : decode cX9_narrow 129 = .ok (.if_icmp .ge 77, 3) := by decide +kernel
theorem dX9_narrow_132 : decode cX9_narrow 132 = .ok (.lload 8, 2) := by decide +kernel
theorem dX9_narrow_134 : decode cX9_narrow 134 = .ok (.lload 4, 2) := by decide +kernel
theorem dX9_narrow_136 : decode cX9_narrow 136 = .ok (.lload 6, 2) := by decide +kernel
theorem dX9_narrow_138 : decode cX9_narrow 138 = .ok (.aload_n 0, 1) := by decide +kernel
theorem dX9_narrow_139 : decode cX9_narrow 139 = .ok (.getfield 18, 3) := by decide +kernel
theorem dX9_narrow_142 : decode cX9_narrow 142 = .ok (.getfield 105, 3) := by decide +kernel
theorem dX9_narrow_145 : decode cX9_narrow 145 = .ok (.iload 12, 2) := by decide +kernel
theorem dX9_narrow_147 : decode cX9_narrow 147 = .ok (.iaload, 1) := by decide +kernel
theorem dX9_narrow_148 : decode cX9_narrow 148 = .ok (.ineg, 1) := by decide +kernel
theorem dX9_narrow_149 : decode cX9_narrow 149 = .ok (.invokestatic 111, 3) := by decide +kernel
theorem dX9_narrow_152 : decode cX9_narrow 152 = .ok (.aload_n 0, 1) := by decide +kernel
theorem dX9_narrow_153 : decode cX9_narrow 153 = .ok (.getfield 15, 3) := by decide +kernel
theorem dX9_narrow_156 : decode cX9_narrow 156 = .ok (.iconst 2, 1) := by decide +kernel
theorem dX9_narrow_157 : decode cX9_narrow 157 = .ok (.iload 12, 2) := by decide +kernel
theorem dX9_narrow_159 : decode cX9_narrow 159 = .ok (.imul, 1) := by decide +kernel
theorem dX9_narrow_160 : decode cX9_narrow 160 = .ok (.laload, 1) := by decide +kernel
theorem dX9_narrow_161 : decode cX9_narrow 161 = .ok (.land, 1) := by decide +kernel
theorem dX9_narrow_162 : decode cX9_narrow 162 = .ok (.lor, 1) := by decide +kernel
theorem dX9_narrow_163 : decode cX9_narrow 163 = .ok (.lstore 8, 2) := by decide +kernel
theorem dX9_narrow_165 : decode cX9_narrow 165 = .ok (.lload 10, 2) := by decide +kernel
theorem dX9_narrow_167 : decode cX9_narrow 167 = .ok (.lload 4, 2) := by decide +kernel
theorem dX9_narrow_169 : decode cX9_narrow 169 = .ok (.lload 6, 2) := by decide +kernel
theorem dX9_narrow_171 : decode cX9_narrow 171 = .ok (.aload_n 0, 1) := by decide +kernel
theorem dX9_narrow_172 : decode cX9_narrow 172 = .ok (.getfield 18, 3) := by decide +kernel
theorem dX9_narrow_175 : decode cX9_narrow 175 = .ok (.getfield 105, 3) := by decide +kernel
theorem dX9_narrow_178 : decode cX9_narrow 178 = .ok (.iload 12, 2) := by decide +kernel
theorem dX9_narrow_180 : decode cX9_narrow 180 = .ok (.iaload, 1) := by decide +kernel
theorem dX9_narrow_181 : decode cX9_narrow 181 = .ok (.ineg, 1) := by decide +kernel
theorem dX9_narrow_182 : decode cX9_narrow 182 = .ok (.invokestatic 115, 3) := by decide +kernel
theorem dX9_narrow_185 : decode cX9_narrow 185 = .ok (.aload_n 0, 1) := by decide +kernel
theorem dX9_narrow_186 : decode cX9_narrow 186 = .ok (.getfield 15, 3) := by decide +kernel
theorem dX9_narrow_189 : decode cX9_narrow 189 = .ok (.iconst 2, 1) := by decide +kernel
theorem dX9_narrow_190 : decode cX9_narrow 190 = .ok (.iload 12, 2) := by decide +kernel
theorem dX9_narrow_192 : decode cX9_narrow 192 = .ok (.imul, 1) := by decide +kernel
theorem dX9_narrow_193 : decode cX9_narrow 193 = .ok (.iconst 1, 1) := by decide +kernel
theorem dX9_narrow_194 : decode cX9_narrow 194 = .ok (.iadd, 1) := by decide +kernel
theorem dX9_narrow_195 : decode cX9_narrow 195 = .ok (.laload, 1) := by decide +kernel
theorem dX9_narrow_196 : decode cX9_narrow 196 = .ok (.land, 1) := by decide +kernel
theorem dX9_narrow_197 : decode cX9_narrow 197 = .ok (.lor, 1) := by decide +kernel
theorem dX9_narrow_198 : decode cX9_narrow 198 = .ok (.lstore 10, 2) := by decide +kernel
theorem dX9_narrow_200 : decode cX9_narrow 200 = .ok (.iinc 12 1, 3) := by decide +kernel
theorem dX9_narrow_203 : decode cX9_narrow 203 = .ok (.goto (-77), 3) := by decide +kernel
theorem dX9_narrow_206 : decode cX9_narrow 206 = .ok (.aload_n 0, 1) := by decide +kernel
theorem dX9_narrow_207 : decode cX9_narrow 207 = .ok (.getfield 9, 3) := by decide +kernel
theorem dX9_narrow_210 : decode cX9_narrow 210 = .ok (.iload_n 3, 1) := by decide +kernel
theorem dX9_narrow_211 : decode cX9_narrow 211 = .ok (.dup2, 1) := by decide +kernel
theorem dX9_narrow_212 : decode cX9_narrow 212 = .ok (.laload, 1) := by decide +kernel
theorem dX9_narrow_213 : decode cX9_narrow 213 = .ok (.lload 8, 2) := by decide +kernel
theorem dX9_narrow_215 : decode cX9_narrow 215 = .ok (.land, 1) := by decide +kernel
theorem dX9_narrow_216 : decode cX9_narrow 216 = .ok (.lastore, 1) := by decide +kernel
theorem dX9_narrow_217 : decode cX9_narrow 217 = .ok (.aload_n 0, 1) := by decide +kernel
theorem dX9_narrow_218 : decode cX9_narrow 218 = .ok (.getfield 9, 3) := by decide +kernel
theorem dX9_narrow_221 : decode cX9_narrow 221 = .ok (.iload_n 3, 1) := by decide +kernel
theorem dX9_narrow_222 : decode cX9_narrow 222 = .ok (.iconst 1, 1) := by decide +kernel
theorem dX9_narrow_223 : decode cX9_narrow 223 = .ok (.iadd, 1) := by decide +kernel
theorem dX9_narrow_224 : decode cX9_narrow 224 = .ok (.dup2, 1) := by decide +kernel
theorem dX9_narrow_225 : decode cX9_narrow 225 = .ok (.laload, 1) := by decide +kernel
theorem dX9_narrow_226 : decode cX9_narrow 226 = .ok (.lload 10, 2) := by decide +kernel
theorem dX9_narrow_228 : decode cX9_narrow 228 = .ok (.land, 1) := by decide +kernel
theorem dX9_narrow_229 : decode cX9_narrow 229 = .ok (.lastore, 1) := by decide +kernel
theorem dX9_narrow_230 : decode cX9_narrow 230 = .ok (.iinc 2 1, 3) := by decide +kernel
theorem dX9_narrow_233 : decode cX9_narrow 233 = .ok (.goto (-231), 3) := by decide +kernel
theorem dX9_narrow_236 : decode cX9_narrow 236 = .ok (.return_, 1) := by decide +kernel
theorem dX9_follow_0 : decode cX9_follow 0 = .ok (.iload_n 1, 1) := by decide +kernel
theorem dX9_follow_1 : decode cX9_follow 1 = .ok (.istore 4, 2) := by decide +kernel
theorem dX9_follow_3 : decode cX9_follow 3 = .ok (.iload_n 2, 1) := by decide +kernel
theorem dX9_follow_4 : decode cX9_follow 4 = .ok (.istore 5, 2) := by decide +kernel
theorem dX9_follow_6 : decode cX9_follow 6 = .ok (.iconst 0, 1) := by decide +kernel
theorem dX9_follow_7 : decode cX9_follow 7 = .ok (.istore 6, 2) := by decide +kernel
theorem dX9_follow_9 : decode cX9_follow 9 = .ok (.iload 6, 2) := by decide +kernel
theorem dX9_follow_11 : decode cX9_follow 11 = .ok (.iload_n 3, 1) := by decide +kernel
theorem dX9_follow_12 : decode cX9_follow 12 = .ok (.if_icmp .ge 77, 3) := by decide +kernel
theorem dX9_follow_15 : decode cX9_follow 15 = .ok (.aload_n 0, 1) := by decide +kernel
theorem dX9_follow_16 : decode cX9_follow 16 = .ok (.iload 6, 2) := by decide +kernel
theorem dX9_follow_18 : decode cX9_follow 18 = .ok (.invokevirtual 57, 3) := by decide +kernel
theorem dX9_follow_21 : decode cX9_follow 21 = .ok (.iload 4, 2) := by decide +kernel
theorem dX9_follow_23 : decode cX9_follow 23 = .ok (.aload_n 0, 1) := by decide +kernel
theorem dX9_follow_24 : decode cX9_follow 24 = .ok (.getfield 18, 3) := by decide +kernel
theorem dX9_follow_27 : decode cX9_follow 27 = .ok (.getfield 105, 3) := by decide +kernel
theorem dX9_follow_30 : decode cX9_follow 30 = .ok (.aload_n 0, 1) := by decide +kernel
theorem dX9_follow_31 : decode cX9_follow 31 = .ok (.iload 4, 2) := by decide +kernel
theorem dX9_follow_33 : decode cX9_follow 33 = .ok (.iload 5, 2) := by decide +kernel
theorem dX9_follow_35 : decode cX9_follow 35 = .ok (.iload 6, 2) := by decide +kernel
theorem dX9_follow_37 : decode cX9_follow 37 = .ok (.invokevirtual 118, 3) := by decide +kernel
theorem dX9_follow_40 : decode cX9_follow 40 = .ok (.iaload, 1) := by decide +kernel
theorem dX9_follow_41 : decode cX9_follow 41 = .ok (.iadd, 1) := by decide +kernel
theorem dX9_follow_42 : decode cX9_follow 42 = .ok (.istore 4, 2) := by decide +kernel
theorem dX9_follow_44 : decode cX9_follow 44 = .ok (.iload 4, 2) := by decide +kernel
theorem dX9_follow_46 : decode cX9_follow 46 = .ok (.aload_n 0, 1) := by decide +kernel
theorem dX9_follow_47 : decode cX9_follow 47 = .ok (.getfield 33, 3) := by decide +kernel
theorem dX9_follow_50 : decode cX9_follow 50 = .ok (.if_icmp .ne 7, 3) := by decide +kernel
theorem dX9_follow_53 : decode cX9_follow 53 = .ok (.iconst 1, 1) := by decide +kernel
theorem dX9_follow_54 : decode cX9_follow 54 = .ok (.goto 5, 3) := by decide +kernel
theorem dX9_follow_57 : decode cX9_follow 57 = .ok (.iload 5, 2) := by decide +kernel
theorem dX9_follow_59 : decode cX9_follow 59 = .ok (.istore 5, 2) := by decide +kernel
theorem dX9_follow_61 : decode cX9_follow 61 = .ok (.aload_n 0, 1) := by decide +kernel
theorem dX9_follow_62 : decode cX9_follow 62 = .ok (.getfield 22, 3) := by decide +kernel
theorem dX9_follow_65 : decode cX9_follow 65 = .ok (.aload_n 0, 1) := by decide +kernel
theorem dX9_follow_66 : decode cX9_follow 66 = .ok (.getfield 26, 3) := by decide +kernel
theorem dX9_follow_69 : decode cX9_follow 69 = .ok (.aload_n 0, 1) := by decide +kernel
theorem dX9_follow_70 : decode cX9_follow 70 = .ok (.getfield 30, 3) := by decide +kernel
theorem dX9_follow_73 : decode cX9_follow 73 = .ok (.iload 6, 2) := by decide +kernel
theorem dX9_follow_75 : decode cX9_follow 75 = .ok (.iadd, 1) := by decide +kernel
theorem dX9_follow_76 : decode cX9_follow 76 = .ok (.iconst 1, 1) := by decide +kernel
theorem dX9_follow_77 : decode cX9_follow 77 = .ok (.iadd, 1) := by decide +kernel
theorem dX9_follow_78 : decode cX9_follow 78 = .ok (.iload 4, 2) := by decide +kernel
theorem dX9_follow_80 : decode cX9_follow 80 = .ok (.invokevirtual 122, 3) := by decide +kernel
theorem dX9_follow_83 : decode cX9_follow 83 = .ok (.iinc 6 1, 3) := by decide +kernel
theorem dX9_follow_86 : decode cX9_follow 86 = .ok (.goto (-77), 3) := by decide +kernel
theorem dX9_follow_89 : decode cX9_follow 89 = .ok (.aload_n 0, 1) := by decide +kernel
theorem dX9_follow_90 : decode cX9_follow 90 = .ok (.getfield 22, 3) := by decide +kernel
theorem dX9_follow_93 : decode cX9_follow 93 = .ok (.aload_n 0, 1) := by decide +kernel
theorem dX9_follow_94 : decode cX9_follow 94 = .ok (.getfield 26, 3) := by decide +kernel
theorem dX9_follow_97 : decode cX9_follow 97 = .ok (.aload_n 0, 1) := by decide +kernel
theorem dX9_follow_98 : decode cX9_follow 98 = .ok (.getfield 30, 3) := by decide +kernel
theorem dX9_follow_101 : decode cX9_follow 101 = .ok (.iload_n 3, 1) := by decide +kernel
theorem dX9_follow_102 : decode cX9_follow 102 = .ok (.iadd, 1) := by decide +kernel
theorem dX9_follow_103 : decode cX9_follow 103 = .ok (.aload_n 0, 1) := by decide +kernel
theorem dX9_follow_104 : decode cX9_follow 104 = .ok (.getfield 36, 3) := by decide +kernel
theorem dX9_follow_107 : decode cX9_follow 107 = .ok (.invokevirtual 125, 3) := by decide +kernel
theorem dX9_follow_110 : decode cX9_follow 110 = .ok (.return_, 1) := by decide +kernel
theorem dX9_leastMove_0 : decode cX9_leastMove 0 = .ok (.iconst 0, 1) := by decide +kernel
theorem dX9_leastMove_1 : decode cX9_leastMove 1 = .ok (.istore 4, 2) := by decide +kernel
theorem dX9_leastMove_3 : decode cX9_leastMove 3 = .ok (.iload 4, 2) := by decide +kernel
theorem dX9_leastMove_5 : decode cX9_leastMove 5 = .ok (.iconst 5, 1) := by decide +kernel
theorem dX9_leastMove_6 : decode cX9_leastMove 6 = .ok (.if_icmp .ge 96, 3) := by decide +kernel
theorem dX9_leastMove_9 : decode cX9_leastMove 9 = .ok (.iload_n 1, 1) := by decide +kernel
theorem dX9_leastMove_10 : decode cX9_leastMove 10 = .ok (.aload_n 0, 1) := by decide +kernel
theorem dX9_leastMove_11 : decode cX9_leastMove 11 = .ok (.getfield 18, 3) := by decide +kernel
theorem dX9_leastMove_14 : decode cX9_leastMove 14 = .ok (.getfield 105, 3) := by decide +kernel
theorem dX9_leastMove_17 : decode cX9_leastMove 17 = .ok (.iload 4, 2) := by decide +kernel
theorem dX9_leastMove_19 : decode cX9_leastMove 19 = .ok (.iaload, 1) := by decide +kernel
theorem dX9_leastMove_20 : decode cX9_leastMove 20 = .ok (.iadd, 1) := by decide +kernel
theorem dX9_leastMove_21 : decode cX9_leastMove 21 = .ok (.istore 5, 2) := by decide +kernel
theorem dX9_leastMove_23 : decode cX9_leastMove 23 = .ok (.aload_n 0, 1) := by decide +kernel
theorem dX9_leastMove_24 : decode cX9_leastMove 24 = .ok (.getfield 15, 3) := by decide +kernel
theorem dX9_leastMove_27 : decode cX9_leastMove 27 = .ok (.iconst 2, 1) := by decide +kernel
theorem dX9_leastMove_28 : decode cX9_leastMove 28 = .ok (.iload 4, 2) := by decide +kernel
theorem dX9_leastMove_30 : decode cX9_leastMove 30 = .ok (.imul, 1) := by decide +kernel
theorem dX9_leastMove_31 : decode cX9_leastMove 31 = .ok (.iload_n 1, 1) := by decide +kernel
theorem dX9_leastMove_32 : decode cX9_leastMove 32 = .ok (.bipush 6, 2) := by decide +kernel
theorem dX9_leastMove_34 : decode cX9_leastMove 34 = .ok (.ishr, 1) := by decide +kernel
theorem dX9_leastMove_35 : decode cX9_leastMove 35 = .ok (.iadd, 1) := by decide +kernel
theorem dX9_leastMove_36 : decode cX9_leastMove 36 = .ok (.laload, 1) := by decide +kernel
theorem dX9_leastMove_37 : decode cX9_leastMove 37 = .ok (.iload_n 1, 1) := by decide +kernel
theorem dX9_leastMove_38 : decode cX9_leastMove 38 = .ok (.lushr, 1) := by decide +kernel
theorem dX9_leastMove_39 : decode cX9_leastMove 39 = .ok (.lconst 1, 1) := by decide +kernel
theorem dX9_leastMove_40 : decode cX9_leastMove 40 = .ok (.land, 1) := by decide +kernel
theorem dX9_leastMove_41 : decode cX9_leastMove 41 = .ok (.lconst 0, 1) := by decide +kernel
theorem dX9_leastMove_42 : decode cX9_leastMove 42 = .ok (.lcmp, 1) := by decide +kernel
theorem dX9_leastMove_43 : decode cX9_leastMove 43 = .ok (.ifCond .eq 7, 3) := by decide +kernel
theorem dX9_leastMove_46 : decode cX9_leastMove 46 = .ok (.iconst 1, 1) := by decide +kernel
theorem dX9_leastMove_47 : decode cX9_leastMove 47 = .ok (.goto 4, 3) := by decide +kernel
theorem dX9_leastMove_50 : decode cX9_leastMove 50 = .ok (.iconst 0, 1) := by decide +kernel
theorem dX9_leastMove_51 : decode cX9_leastMove 51 = .ok (.istore 6, 2) := by decide +kernel
theorem dX9_leastMove_53 : decode cX9_leastMove 53 = .ok (.iload 5, 2) := by decide +kernel
theorem dX9_leastMove_55 : decode cX9_leastMove 55 = .ok (.aload_n 0, 1) := by decide +kernel
theorem dX9_leastMove_56 : decode cX9_leastMove 56 = .ok (.getfield 33, 3) := by decide +kernel
theorem dX9_leastMove_59 : decode cX9_leastMove 59 = .ok (.if_icmp .ne 7, 3) := by decide +kernel
theorem dX9_leastMove_62 : decode cX9_leastMove 62 = .ok (.iconst 1, 1) := by decide +kernel
theorem dX9_leastMove_63 : decode cX9_leastMove 63 = .ok (.goto 4, 3) := by decide +kernel
theorem dX9_leastMove_66 : decode cX9_leastMove 66 = .ok (.iload_n 2, 1) := by decide +kernel
theorem dX9_leastMove_67 : decode cX9_leastMove 67 = .ok (.istore 7, 2) := by decide +kernel
theorem dX9_leastMove_69 : decode cX9_leastMove 69 = .ok (.iload 6, 2) := by decide +kernel
theorem dX9_leastMove_71 : decode cX9_leastMove 71 = .ok (.ifCond .eq 25, 3) := by decide +kernel
theorem dX9_leastMove_74 : decode cX9_leastMove 74 = .ok (.aload_n 0, 1) := by decide +kernel
theorem dX9_leastMove_75 : decode cX9_leastMove 75 = .ok (.iconst 4, 1) := by decide +kernel
theorem dX9_leastMove_76 : decode cX9_leastMove 76 = .ok (.iload_n 3, 1) := by decide +kernel
theorem dX9_leastMove_77 : decode cX9_leastMove 77 = .ok (.imul, 1) := by decide +kernel
theorem dX9_leastMove_78 : decode cX9_leastMove 78 = .ok (.iconst 4, 1) := by decide +kernel
theorem dX9_leastMove_79 : decode cX9_leastMove 79 = .ok (.iadd, 1) := by decide +kernel
theorem dX9_leastMove_80 : decode cX9_leastMove 80 = .ok (.iconst 2, 1) := by decide +kernel
theorem dX9_leastMove_81 : decode cX9_leastMove 81 = .ok (.iload 7, 2) := by decide +kernel
theorem dX9_leastMove_83 : decode cX9_leastMove 83 = .ok (.imul, 1) := by decide +kernel
theorem dX9_leastMove_84 : decode cX9_leastMove 84 = .ok (.iadd, 1) := by decide +kernel
theorem dX9_leastMove_85 : decode cX9_leastMove 85 = .ok (.iload 5, 2) := by decide +kernel
theorem dX9_leastMove_87 : decode cX9_leastMove 87 = .ok (.invokevirtual 70, 3) := by decide +kernel
theorem dX9_leastMove_90 : decode cX9_leastMove 90 = .ok (.ifCond .eq 6, 3) := by decide +kernel
theorem dX9_leastMove_93 : decode cX9_leastMove 93 = .ok (.iload 4, 2) := by decide +kernel
theorem dX9_leastMove_95 : decode cX9_leastMove 95 = .ok (.ireturn, 1) := by decide +kernel
