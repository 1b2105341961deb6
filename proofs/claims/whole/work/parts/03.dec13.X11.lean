theorem dX11_measure_137 : decode cX11_measure 137 = .ok (.ifCond .ge 20, 3) := by decide +kernel
theorem dX11_measure_140 : decode cX11_measure 140 = .ok (.aload_n 0, 1) := by decide +kernel
theorem dX11_measure_141 : decode cX11_measure 141 = .ok (.getfield 23, 3) := by decide +kernel
theorem dX11_measure_144 : decode cX11_measure 144 = .ok (.bipush 80, 2) := by decide +kernel
theorem dX11_measure_146 : decode cX11_measure 146 = .ok (.iload_n 1, 1) := by decide +kernel
theorem dX11_measure_147 : decode cX11_measure 147 = .ok (.imul, 1) := by decide +kernel
theorem dX11_measure_148 : decode cX11_measure 148 = .ok (.iload 6, 2) := by decide +kernel
theorem dX11_measure_150 : decode cX11_measure 150 = .ok (.iadd, 1) := by decide +kernel
theorem dX11_measure_151 : decode cX11_measure 151 = .ok (.iload_n 3, 1) := by decide +kernel
theorem dX11_measure_152 : decode cX11_measure 152 = .ok (.iconst 1, 1) := by decide +kernel
theorem dX11_measure_153 : decode cX11_measure 153 = .ok (.iadd, 1) := by decide +kernel
theorem dX11_measure_154 : decode cX11_measure 154 = .ok (.iastore, 1) := by decide +kernel
theorem dX11_measure_155 : decode cX11_measure 155 = .ok (.iconst 1, 1) := by decide +kernel
theorem dX11_measure_156 : decode cX11_measure 156 = .ok (.istore_n 2, 1) := by decide +kernel
theorem dX11_measure_157 : decode cX11_measure 157 = .ok (.iinc 5 1, 3) := by decide +kernel
theorem dX11_measure_160 : decode cX11_measure 160 = .ok (.goto (-89), 3) := by decide +kernel
theorem dX11_measure_163 : decode cX11_measure 163 = .ok (.iinc 4 1, 3) := by decide +kernel
theorem dX11_measure_166 : decode cX11_measure 166 = .ok (.goto (-107), 3) := by decide +kernel
theorem dX11_measure_169 : decode cX11_measure 169 = .ok (.iinc 3 1, 3) := by decide +kernel
theorem dX11_measure_172 : decode cX11_measure 172 = .ok (.goto (-122), 3) := by decide +kernel
theorem dX11_measure_175 : decode cX11_measure 175 = .ok (.return_, 1) := by decide +kernel
theorem dX11_place_0 : decode cX11_place 0 = .ok (.aload_n 0, 1) := by decide +kernel
theorem dX11_place_1 : decode cX11_place 1 = .ok (.getfield 13, 3) := by decide +kernel
theorem dX11_place_4 : decode cX11_place 4 = .ok (.ireturn, 1) := by decide +kernel
theorem dX11_cell_0 : decode cX11_cell 0 = .ok (.iload_n 1, 1) := by decide +kernel
theorem dX11_cell_1 : decode cX11_cell 1 = .ok (.iconst 0, 1) := by decide +kernel
theorem dX11_cell_2 : decode cX11_cell 2 = .ok (.aload_n 0, 1) := by decide +kernel
theorem dX11_cell_3 : decode cX11_cell 3 = .ok (.getfield 132, 3) := by decide +kernel
theorem dX11_cell_6 : decode cX11_cell 6 = .ok (.iconst 1, 1) := by decide +kernel
theorem dX11_cell_7 : decode cX11_cell 7 = .ok (.isub, 1) := by decide +kernel
theorem dX11_cell_8 : decode cX11_cell 8 = .ok (.invokestatic 162, 3) := by decide +kernel
theorem dX11_cell_11 : decode cX11_cell 11 = .ok (.ifCond .eq 12, 3) := by decide +kernel
theorem dX11_cell_14 : decode cX11_cell 14 = .ok (.aload_n 0, 1) := by decide +kernel
theorem dX11_cell_15 : decode cX11_cell 15 = .ok (.getfield 17, 3) := by decide +kernel
theorem dX11_cell_18 : decode cX11_cell 18 = .ok (.iload_n 1, 1) := by decide +kernel
theorem dX11_cell_19 : decode cX11_cell 19 = .ok (.iaload, 1) := by decide +kernel
theorem dX11_cell_20 : decode cX11_cell 20 = .ok (.goto 4, 3) := by decide +kernel
theorem dX11_cell_23 : decode cX11_cell 23 = .ok (.iconst (-1), 1) := by decide +kernel
theorem dX11_cell_24 : decode cX11_cell 24 = .ok (.ireturn, 1) := by decide +kernel
theorem dX11_distance_0 : decode cX11_distance 0 = .ok (.iload_n 1, 1) := by decide +kernel
theorem dX11_distance_1 : decode cX11_distance 1 = .ok (.iconst 0, 1) := by decide +kernel
theorem dX11_distance_2 : decode cX11_distance 2 = .ok (.aload_n 0, 1) := by decide +kernel
theorem dX11_distance_3 : decode cX11_distance 3 = .ok (.getfield 132, 3) := by decide +kernel
theorem dX11_distance_6 : decode cX11_distance 6 = .ok (.iconst 1, 1) := by decide +kernel
theorem dX11_distance_7 : decode cX11_distance 7 = .ok (.isub, 1) := by decide +kernel
theorem dX11_distance_8 : decode cX11_distance 8 = .ok (.invokestatic 162, 3) := by decide +kernel
theorem dX11_distance_11 : decode cX11_distance 11 = .ok (.ifCond .eq 31, 3) := by decide +kernel
theorem dX11_distance_14 : decode cX11_distance 14 = .ok (.iload_n 2, 1) := by decide +kernel
theorem dX11_distance_15 : decode cX11_distance 15 = .ok (.iconst 0, 1) := by decide +kernel
theorem dX11_distance_16 : decode cX11_distance 16 = .ok (.aload_n 0, 1) := by decide +kernel
theorem dX11_distance_17 : decode cX11_distance 17 = .ok (.getfield 132, 3) := by decide +kernel
theorem dX11_distance_20 : decode cX11_distance 20 = .ok (.iconst 1, 1) := by decide +kernel
theorem dX11_distance_21 : decode cX11_distance 21 = .ok (.isub, 1) := by decide +kernel
theorem dX11_distance_22 : decode cX11_distance 22 = .ok (.invokestatic 162, 3) := by decide +kernel
theorem dX11_distance_25 : decode cX11_distance 25 = .ok (.ifCond .eq 17, 3) := by decide +kernel
theorem dX11_distance_28 : decode cX11_distance 28 = .ok (.aload_n 0, 1) := by decide +kernel
theorem dX11_distance_29 : decode cX11_distance 29 = .ok (.getfield 23, 3) := by decide +kernel
theorem dX11_distance_32 : decode cX11_distance 32 = .ok (.bipush 80, 2) := by decide +kernel
theorem dX11_distance_34 : decode cX11_distance 34 = .ok (.iload_n 1, 1) := by decide +kernel
theorem dX11_distance_35 : decode cX11_distance 35 = .ok (.imul, 1) := by decide +kernel
theorem dX11_distance_36 : decode cX11_distance 36 = .ok (.iload_n 2, 1) := by decide +kernel
theorem dX11_distance_37 : decode cX11_distance 37 = .ok (.iadd, 1) := by decide +kernel
theorem dX11_distance_38 : decode cX11_distance 38 = .ok (.iaload, 1) := by decide +kernel
theorem dX11_distance_39 : decode cX11_distance 39 = .ok (.goto 5, 3) := by decide +kernel
theorem dX11_distance_42 : decode cX11_distance 42 = .ok (.bipush (-2), 2) := by decide +kernel
theorem dX11_distance_44 : decode cX11_distance 44 = .ok (.ireturn, 1) := by decide +kernel
theorem dX11_isKind_0 : decode cX11_isKind 0 = .ok (.iload_n 1, 1) := by decide +kernel
theorem dX11_isKind_1 : decode cX11_isKind 1 = .ok (.iconst 0, 1) := by decide +kernel
theorem dX11_isKind_2 : decode cX11_isKind 2 = .ok (.aload_n 0, 1) := by decide +kernel
theorem dX11_isKind_3 : decode cX11_isKind 3 = .ok (.getfield 132, 3) := by decide +kernel
theorem dX11_isKind_6 : decode cX11_isKind 6 = .ok (.iconst 1, 1) := by decide +kernel
theorem dX11_isKind_7 : decode cX11_isKind 7 = .ok (.isub, 1) := by decide +kernel
theorem dX11_isKind_8 : decode cX11_isKind 8 = .ok (.invokestatic 162, 3) := by decide +kernel
theorem dX11_isKind_11 : decode cX11_isKind 11 = .ok (.ifCond .eq 17, 3) := by decide +kernel
theorem dX11_isKind_14 : decode cX11_isKind 14 = .ok (.aload_n 0, 1) := by decide +kernel
theorem dX11_isKind_15 : decode cX11_isKind 15 = .ok (.getfield 17, 3) := by decide +kernel
theorem dX11_isKind_18 : decode cX11_isKind 18 = .ok (.iload_n 1, 1) := by decide +kernel
theorem dX11_isKind_19 : decode cX11_isKind 19 = .ok (.iaload, 1) := by decide +kernel
theorem dX11_isKind_20 : decode cX11_isKind 20 = .ok (.iload_n 2, 1) := by decide +kernel
theorem dX11_isKind_21 : decode cX11_isKind 21 = .ok (.if_icmp .ne 7, 3) := by decide +kernel
theorem dX11_isKind_24 : decode cX11_isKind 24 = .ok (.iconst 1, 1) := by decide +kernel
theorem dX11_isKind_25 : decode cX11_isKind 25 = .ok (.goto 4, 3) := by decide +kernel
theorem dX11_isKind_28 : decode cX11_isKind 28 = .ok (.iconst 0, 1) := by decide +kernel
theorem dX11_isKind_29 : decode cX11_isKind 29 = .ok (.ireturn, 1) := by decide +kernel
theorem dX11_at_0 : decode cX11_at 0 = .ok (.aload_n 0, 1) := by decide +kernel
theorem dX11_at_1 : decode cX11_at 1 = .ok (.getfield 30, 3) := by decide +kernel
theorem dX11_at_4 : decode cX11_at 4 = .ok (.sipush 5200, 3) := by decide +kernel
theorem dX11_at_7 : decode cX11_at 7 = .ok (.iload_n 1, 1) := by decide +kernel
theorem dX11_at_8 : decode cX11_at 8 = .ok (.imul, 1) := by decide +kernel
theorem dX11_at_9 : decode cX11_at 9 = .ok (.iload_n 2, 1) := by decide +kernel
theorem dX11_at_10 : decode cX11_at 10 = .ok (.aload_n 0, 1) := by decide +kernel
theorem dX11_at_11 : decode cX11_at 11 = .ok (.getfield 33, 3) := by decide +kernel
theorem dX11_at_14 : decode cX11_at 14 = .ok (.iload_n 1, 1) := by decide +kernel
theorem dX11_at_15 : decode cX11_at 15 = .ok (.iaload, 1) := by decide +kernel
theorem dX11_at_16 : decode cX11_at 16 = .ok (.if_icmp .ge 7, 3) := by decide +kernel
theorem dX11_at_19 : decode cX11_at 19 = .ok (.iload_n 2, 1) := by decide +kernel
theorem dX11_at_20 : decode cX11_at 20 = .ok (.goto 9, 3) := by decide +kernel
theorem dX11_at_23 : decode cX11_at 23 = .ok (.aload_n 0, 1) := by decide +kernel
theorem dX11_at_24 : decode cX11_at 24 = .ok (.getfield 33, 3) := by decide +kernel
theorem dX11_at_27 : decode cX11_at 27 = .ok (.iload_n 1, 1) := by decide +kernel
theorem dX11_at_28 : decode cX11_at 28 = .ok (.iaload, 1) := by decide +kernel
theorem dX11_at_29 : decode cX11_at 29 = .ok (.iadd, 1) := by decide +kernel
theorem dX11_at_30 : decode cX11_at 30 = .ok (.iaload, 1) := by decide +kernel
theorem dX11_at_31 : decode cX11_at 31 = .ok (.ireturn, 1) := by decide +kernel
theorem dX11_endOf_0 : decode cX11_endOf 0 = .ok (.aload_n 0, 1) := by decide +kernel
theorem dX11_endOf_1 : decode cX11_endOf 1 = .ok (.iload_n 1, 1) := by decide +kernel
theorem dX11_endOf_2 : decode cX11_endOf 2 = .ok (.aload_n 0, 1) := by decide +kernel
theorem dX11_endOf_3 : decode cX11_endOf 3 = .ok (.getfield 33, 3) := by decide +kernel
theorem dX11_endOf_6 : decode cX11_endOf 6 = .ok (.iload_n 1, 1) := by decide +kernel
theorem dX11_endOf_7 : decode cX11_endOf 7 = .ok (.iaload, 1) := by decide +kernel
theorem dX11_endOf_8 : decode cX11_endOf 8 = .ok (.invokevirtual 166, 3) := by decide +kernel
theorem dX11_endOf_11 : decode cX11_endOf 11 = .ok (.ireturn, 1) := by decide +kernel
theorem dX11_robot_0 : decode cX11_robot 0 = .ok (.aload_n 0, 1) := by decide +kernel
theorem dX11_robot_1 : decode cX11_robot 1 = .ok (.getfield 132, 3) := by decide +kernel
theorem dX11_robot_4 : decode cX11_robot 4 = .ok (.ifCond .eq 10, 3) := by decide +kernel
theorem dX11_robot_7 : decode cX11_robot 7 = .ok (.aload_n 0, 1) := by decide +kernel
theorem dX11_robot_8 : decode cX11_robot 8 = .ok (.getfield 141, 3) := by decide +kernel
theorem dX11_robot_11 : decode cX11_robot 11 = .ok (.ifCond .le 6, 3) := by decide +kernel
theorem dX11_robot_14 : decode cX11_robot 14 = .ok (.bipush (-4), 2) := by decide +kernel
theorem dX11_robot_16 : decode cX11_robot 16 = .ok (.ireturn, 1) := by decide +kernel
theorem dX11_robot_17 : decode cX11_robot 17 = .ok (.aload_n 0, 1) := by decide +kernel
theorem dX11_robot_18 : decode cX11_robot 18 = .ok (.iload_n 1, 1) := by decide +kernel
theorem dX11_robot_19 : decode cX11_robot 19 = .ok (.iconst 4, 1) := by decide +kernel
theorem dX11_robot_20 : decode cX11_robot 20 = .ok (.invokevirtual 169, 3) := by decide +kernel
theorem dX11_robot_23 : decode cX11_robot 23 = .ok (.ifCond .ne 6, 3) := by decide +kernel
theorem dX11_robot_26 : decode cX11_robot 26 = .ok (.bipush (-2), 2) := by decide +kernel
theorem dX11_robot_28 : decode cX11_robot 28 = .ok (.ireturn, 1) := by decide +kernel
theorem dX11_robot_29 : decode cX11_robot 29 = .ok (.aload_n 0, 1) := by decide +kernel
theorem dX11_robot_30 : decode cX11_robot 30 = .ok (.getfield 144, 3) := by decide +kernel
theorem dX11_robot_33 : decode cX11_robot 33 = .ok (.bipush 6, 2) := by decide +kernel
theorem dX11_robot_35 : decode cX11_robot 35 = .ok (.if_icmp .ne 6, 3) := by decide +kernel
theorem dX11_robot_38 : decode cX11_robot 38 = .ok (.bipush (-3), 2) := by decide +kernel
theorem dX11_robot_40 : decode cX11_robot 40 = .ok (.ireturn, 1) := by decide +kernel
theorem dX11_robot_41 : decode cX11_robot 41 = .ok (.iconst 0, 1) := by decide +kernel
theorem dX11_robot_42 : decode cX11_robot 42 = .ok (.istore_n 2, 1) := by decide +kernel
theorem dX11_robot_43 : decode cX11_robot 43 = .ok (.iload_n 2, 1) := by decide +kernel
theorem dX11_robot_44 : decode cX11_robot 44 = .ok (.aload_n 0, 1) := by decide +kernel
theorem dX11_robot_45 : decode cX11_robot 45 = .ok (.getfield 144, 3) := by decide +kernel
theorem dX11_robot_48 : decode cX11_robot 48 = .ok (.if_icmp .ge 21, 3) := by decide +kernel
theorem dX11_robot_51 : decode cX11_robot 51 = .ok (.aload_n 0, 1) := by decide +kernel
theorem dX11_robot_52 : decode cX11_robot 52 = .ok (.iload_n 2, 1) := by decide +kernel
theorem dX11_robot_53 : decode cX11_robot 53 = .ok (.iconst 0, 1) := by decide +kernel
theorem dX11_robot_54 : decode cX11_robot 54 = .ok (.invokevirtual 166, 3) := by decide +kernel
theorem dX11_robot_57 : decode cX11_robot 57 = .ok (.iload_n 1, 1) := by decide +kernel
theorem dX11_robot_58 : decode cX11_robot 58 = .ok (.if_icmp .ne 5, 3) := by decide +kernel
theorem dX11_robot_61 : decode cX11_robot 61 = .ok (.iconst (-1), 1) := by decide +kernel
theorem dX11_robot_62 : decode cX11_robot 62 = .ok (.ireturn, 1) := by decide +kernel
theorem dX11_robot_63 : decode cX11_robot 63 = .ok (.iinc 2 1, 3) := by decide +kernel
theorem dX11_robot_66 : decode cX11_robot 66 = .ok (.goto (-23), 3) := by decide +kernel
theorem dX11_robot_69 : decode cX11_robot 69 = .ok (.aload_n 0, 1) := by decide +kernel
theorem dX11_robot_70 : decode cX11_robot 70 = .ok (.getfield 30, 3) := by decide +kernel
theorem dX11_robot_73 : decode cX11_robot 73 = .ok (.sipush 5200, 3) := by decide +kernel
theorem dX11_robot_76 : decode cX11_robot 76 = .ok (.aload_n 0, 1) := by decide +kernel
theorem dX11_robot_77 : decode cX11_robot 77 = .ok (.getfield 144, 3) := by decide +kernel
theorem dX11_robot_80 : decode cX11_robot 80 = .ok (.imul, 1) := by decide +kernel
theorem dX11_robot_81 : decode cX11_robot 81 = .ok (.iload_n 1, 1) := by decide +kernel
theorem dX11_robot_82 : decode cX11_robot 82 = .ok (.iastore, 1) := by decide +kernel
theorem dX11_robot_83 : decode cX11_robot 83 = .ok (.aload_n 0, 1) := by decide +kernel
theorem dX11_robot_84 : decode cX11_robot 84 = .ok (.getfield 33, 3) := by decide +kernel
theorem dX11_robot_87 : decode cX11_robot 87 = .ok (.aload_n 0, 1) := by decide +kernel
theorem dX11_robot_88 : decode cX11_robot 88 = .ok (.getfield 144, 3) := by decide +kernel
theorem dX11_robot_91 : decode cX11_robot 91 = .ok (.iconst 0, 1) := by decide +kernel
theorem dX11_robot_92 : decode cX11_robot 92 = .ok (.iastore, 1) := by decide +kernel
theorem dX11_robot_93 : decode cX11_robot 93 = .ok (.aload_n 0, 1) := by decide +kernel
theorem dX11_robot_94 : decode cX11_robot 94 = .ok (.getfield 36, 3) := by decide +kernel
theorem dX11_robot_97 : decode cX11_robot 97 = .ok (.aload_n 0, 1) := by decide +kernel
theorem dX11_robot_98 : decode cX11_robot 98 = .ok (.getfield 144, 3) := by decide +kernel
theorem dX11_robot_101 : decode cX11_robot 101 = .ok (.iconst (-1), 1) := by decide +kernel
theorem dX11_robot_102 : decode cX11_robot 102 = .ok (.iastore, 1) := by decide +kernel
theorem dX11_robot_103 : decode cX11_robot 103 = .ok (.aload_n 0, 1) := by decide +kernel
theorem dX11_robot_104 : decode cX11_robot 104 = .ok (.getfield 39, 3) := by decide +kernel
theorem dX11_robot_107 : decode cX11_robot 107 = .ok (.aload_n 0, 1) := by decide +kernel
theorem dX11_robot_108 : decode cX11_robot 108 = .ok (.getfield 144, 3) := by decide +kernel
theorem dX11_robot_111 : decode cX11_robot 111 = .ok (.iconst 0, 1) := by decide +kernel
theorem dX11_robot_112 : decode cX11_robot 112 = .ok (.iastore, 1) := by decide +kernel
theorem dX11_robot_113 : decode cX11_robot 113 = .ok (.aload_n 0, 1) := by decide +kernel
theorem dX11_robot_114 : decode cX11_robot 114 = .ok (.getfield 42, 3) := by decide +kernel
theorem dX11_robot_117 : decode cX11_robot 117 = .ok (.aload_n 0, 1) := by decide +kernel
theorem dX11_robot_118 : decode cX11_robot 118 = .ok (.getfield 144, 3) := by decide +kernel
theorem dX11_robot_121 : decode cX11_robot 121 = .ok (.iconst 0, 1) := by decide +kernel
theorem dX11_robot_122 : decode cX11_robot 122 = .ok (.iastore, 1) := by decide +kernel
theorem dX11_robot_123 : decode cX11_robot 123 = .ok (.aload_n 0, 1) := by decide +kernel
theorem dX11_robot_124 : decode cX11_robot 124 = .ok (.getfield 45, 3) := by decide +kernel
theorem dX11_robot_127 : decode cX11_robot 127 = .ok (.aload_n 0, 1) := by decide +kernel
theorem dX11_robot_128 : decode cX11_robot 128 = .ok (.getfield 144, 3) := by decide +kernel
theorem dX11_robot_131 : decode cX11_robot 131 = .ok (.iconst 0, 1) := by decide +kernel
theorem dX11_robot_132 : decode cX11_robot 132 = .ok (.iastore, 1) := by decide +kernel
theorem dX11_robot_133 : decode cX11_robot 133 = .ok (.aload_n 0, 1) := by decide +kernel
theorem dX11_robot_134 : decode cX11_robot 134 = .ok (.dup, 1) := by decide +kernel
theorem dX11_robot_135 : decode cX11_robot 135 = .ok (.getfield 144, 3) := by decide +kernel
theorem dX11_robot_138 : decode cX11_robot 138 = .ok (.iconst 1, 1) := by decide +kernel
theorem dX11_robot_139 : decode cX11_robot 139 = .ok (.iadd, 1) := by decide +kernel
theorem dX11_robot_140 : decode cX11_robot 140 = .ok (.putfield 144, 3) := by decide +kernel
theorem dX11_robot_143 : decode cX11_robot 143 = .ok (.aload_n 0, 1) := by decide +kernel
theorem dX11_robot_144 : decode cX11_robot 144 = .ok (.getfield 144, 3) := by decide +kernel
theorem dX11_robot_147 : decode cX11_robot 147 = .ok (.iconst 1, 1) := by decide +kernel
theorem dX11_robot_148 : decode cX11_robot 148 = .ok (.isub, 1) := by decide +kernel
theorem dX11_robot_149 : decode cX11_robot 149 = .ok (.ireturn, 1) := by decide +kernel
theorem dX11_addTask_0 : decode cX11_addTask 0 = .ok (.aload_n 0, 1) := by decide +kernel
theorem dX11_addTask_1 : decode cX11_addTask 1 = .ok (.getfield 63, 3) := by decide +kernel
theorem dX11_addTask_4 : decode cX11_addTask 4 = .ok (.aload_n 0, 1) := by decide +kernel
theorem dX11_addTask_5 : decode cX11_addTask 5 = .ok (.getfield 150, 3) := by decide +kernel
theorem dX11_addTask_8 : decode cX11_addTask 8 = .ok (.aload_n 0, 1) := by decide +kernel
theorem dX11_addTask_9 : decode cX11_addTask 9 = .ok (.getfield 147, 3) := by decide +kernel
theorem dX11_addTask_12 : decode cX11_addTask 12 = .ok (.iastore, 1) := by decide +kernel
theorem dX11_addTask_13 : decode cX11_addTask 13 = .ok (.aload_n 0, 1) := by decide +kernel
theorem dX11_addTask_14 : decode cX11_addTask 14 = .ok (.getfield 66, 3) := by decide +kernel
theorem dX11_addTask_17 : decode cX11_addTask 17 = .ok (.aload_n 0, 1) := by decide +kernel
theorem dX11_addTask_18 : decode cX11_addTask 18 = .ok (.getfield 150, 3) := by decide +kernel
theorem dX11_addTask_21 : decode cX11_addTask 21 = .ok (.iload_n 1, 1) := by decide +kernel
theorem dX11_addTask_22 : decode cX11_addTask 22 = .ok (.iastore, 1) := by decide +kernel
theorem dX11_addTask_23 : decode cX11_addTask 23 = .ok (.aload_n 0, 1) := by decide +kernel
theorem dX11_addTask_24 : decode cX11_addTask 24 = .ok (.getfield 69, 3) := by decide +kernel
theorem dX11_addTask_27 : decode cX11_addTask 27 = .ok (.aload_n 0, 1) := by decide +kernel
theorem dX11_addTask_28 : decode cX11_addTask 28 = .ok (.getfield 150, 3) := by decide +kernel
theorem dX11_addTask_31 : decode cX11_addTask 31 = .ok (.iconst 0, 1) := by decide +kernel
theorem dX11_addTask_32 : decode cX11_addTask 32 = .ok (.iastore, 1) := by decide +kernel
theorem dX11_addTask_33 : decode cX11_addTask 33 = .ok (.aload_n 0, 1) := by decide +kernel
theorem dX11_addTask_34 : decode cX11_addTask 34 = .ok (.getfield 72, 3) := by decide +kernel
theorem dX11_addTask_37 : decode cX11_addTask 37 = .ok (.aload_n 0, 1) := by decide +kernel
theorem dX11_addTask_38 : decode cX11_addTask 38 = .ok (.getfield 150, 3) := by decide +kernel
theorem dX11_addTask_41 : decode cX11_addTask 41 = .ok (.iconst (-1), 1) := by decide +kernel
theorem dX11_addTask_42 : decode cX11_addTask 42 = .ok (.iastore, 1) := by decide +kernel
theorem dX11_addTask_43 : decode cX11_addTask 43 = .ok (.aload_n 0, 1) := by decide +kernel
theorem dX11_addTask_44 : decode cX11_addTask 44 = .ok (.getfield 75, 3) := by decide +kernel
theorem dX11_addTask_47 : decode cX11_addTask 47 = .ok (.aload_n 0, 1) := by decide +kernel
theorem dX11_addTask_48 : decode cX11_addTask 48 = .ok (.getfield 150, 3) := by decide +kernel
theorem dX11_addTask_51 : decode cX11_addTask 51 = .ok (.aload_n 0, 1) := by decide +kernel
theorem dX11_addTask_52 : decode cX11_addTask 52 = .ok (.getfield 141, 3) := by decide +kernel
theorem dX11_addTask_55 : decode cX11_addTask 55 = .ok (.iastore, 1) := by decide +kernel
theorem dX11_addTask_56 : decode cX11_addTask 56 = .ok (.aload_n 0, 1) := by decide +kernel
theorem dX11_addTask_57 : decode cX11_addTask 57 = .ok (.getfield 78, 3) := by decide +kernel
theorem dX11_addTask_60 : decode cX11_addTask 60 = .ok (.aload_n 0, 1) := by decide +kernel
theorem dX11_addTask_61 : decode cX11_addTask 61 = .ok (.getfield 150, 3) := by decide +kernel
theorem dX11_addTask_64 : decode cX11_addTask 64 = .ok (.iconst (-1), 1) := by decide +kernel
theorem dX11_addTask_65 : decode cX11_addTask 65 = .ok (.iastore, 1) := by decide +kernel
theorem dX11_addTask_66 : decode cX11_addTask 66 = .ok (.aload_n 0, 1) := by decide +kernel
theorem dX11_addTask_67 : decode cX11_addTask 67 = .ok (.getfield 81, 3) := by decide +kernel
theorem dX11_addTask_70 : decode cX11_addTask 70 = .ok (.aload_n 0, 1) := by decide +kernel
theorem dX11_addTask_71 : decode cX11_addTask 71 = .ok (.getfield 150, 3) := by decide +kernel
theorem dX11_addTask_74 : decode cX11_addTask 74 = .ok (.iconst (-1), 1) := by decide +kernel
theorem dX11_addTask_75 : decode cX11_addTask 75 = .ok (.iastore, 1) := by decide +kernel
theorem dX11_addTask_76 : decode cX11_addTask 76 = .ok (.aload_n 0, 1) := by decide +kernel
theorem dX11_addTask_77 : decode cX11_addTask 77 = .ok (.getfield 84, 3) := by decide +kernel
theorem dX11_addTask_80 : decode cX11_addTask 80 = .ok (.aload_n 0, 1) := by decide +kernel
theorem dX11_addTask_81 : decode cX11_addTask 81 = .ok (.getfield 150, 3) := by decide +kernel
theorem dX11_addTask_84 : decode cX11_addTask 84 = .ok (.iconst (-1), 1) := by decide +kernel
theorem dX11_addTask_85 : decode cX11_addTask 85 = .ok (.iastore, 1) := by decide +kernel
theorem dX11_addTask_86 : decode cX11_addTask 86 = .ok (.aload_n 0, 1) := by decide +kernel
theorem dX11_addTask_87 : decode cX11_addTask 87 = .ok (.dup, 1) := by decide +kernel
theorem dX11_addTask_88 : decode cX11_addTask 88 = .ok (.getfield 150, 3) := by decide +kernel
theorem dX11_addTask_91 : decode cX11_addTask 91 = .ok (.iconst 1, 1) := by decide +kernel
theorem dX11_addTask_92 : decode cX11_addTask 92 = .ok (.iadd, 1) := by decide +kernel
theorem dX11_addTask_93 : decode cX11_addTask 93 = .ok (.putfield 150, 3) := by decide +kernel
theorem dX11_addTask_96 : decode cX11_addTask 96 = .ok (.return_, 1) := by decide +kernel
theorem dX11_order_0 : decode cX11_order 0 = .ok (.aload_n 0, 1) := by decide +kernel
theorem dX11_order_1 : decode cX11_order 1 = .ok (.getfield 132, 3) := by decide +kernel
theorem dX11_order_4 : decode cX11_order 4 = .ok (.ifCond .ne 6, 3) := by decide +kernel
theorem dX11_order_7 : decode cX11_order 7 = .ok (.bipush (-4), 2) := by decide +kernel
theorem dX11_order_9 : decode cX11_order 9 = .ok (.ireturn, 1) := by decide +kernel
theorem dX11_order_10 : decode cX11_order 10 = .ok (.aload_n 0, 1) := by decide +kernel
theorem dX11_order_11 : decode cX11_order 11 = .ok (.iload_n 1, 1) := by decide +kernel
theorem dX11_order_12 : decode cX11_order 12 = .ok (.iconst 3, 1) := by decide +kernel
theorem dX11_order_13 : decode cX11_order 13 = .ok (.invokevirtual 169, 3) := by decide +kernel
theorem dX11_order_16 : decode cX11_order 16 = .ok (.ifCond .eq 55, 3) := by decide +kernel
theorem dX11_order_19 : decode cX11_order 19 = .ok (.aload_n 0, 1) := by decide +kernel
theorem dX11_order_20 : decode cX11_order 20 = .ok (.iload_n 2, 1) := by decide +kernel
theorem dX11_order_21 : decode cX11_order 21 = .ok (.iconst 2, 1) := by decide +kernel
theorem dX11_order_22 : decode cX11_order 22 = .ok (.invokevirtual 169, 3) := by decide +kernel
theorem dX11_order_25 : decode cX11_order 25 = .ok (.ifCond .eq 46, 3) := by decide +kernel
theorem dX11_order_28 : decode cX11_order 28 = .ok (.iload_n 3, 1) := by decide +kernel
theorem dX11_order_29 : decode cX11_order 29 = .ok (.iconst (-1), 1) := by decide +kernel
theorem dX11_order_30 : decode cX11_order 30 = .ok (.if_icmp .ne 12, 3) := by decide +kernel
theorem dX11_order_33 : decode cX11_order 33 = .ok (.iload 4, 2) := by decide +kernel
theorem dX11_order_35 : decode cX11_order 35 = .ok (.iconst (-1), 1) := by decide +kernel
theorem dX11_order_36 : decode cX11_order 36 = .ok (.if_icmp .ne 35, 3) := by decide +kernel
theorem dX11_order_39 : decode cX11_order 39 = .ok (.goto 28, 3) := by decide +kernel
theorem dX11_order_42 : decode cX11_order 42 = .ok (.aload_n 0, 1) := by decide +kernel
theorem dX11_order_43 : decode cX11_order 43 = .ok (.iload_n 3, 1) := by decide +kernel
theorem dX11_order_44 : decode cX11_order 44 = .ok (.iconst 2, 1) := by decide +kernel
theorem dX11_order_45 : decode cX11_order 45 = .ok (.invokevirtual 169, 3) := by decide +kernel
theorem dX11_order_48 : decode cX11_order 48 = .ok (.ifCond .eq 23, 3) := by decide +kernel
theorem dX11_order_51 : decode cX11_order 51 = .ok (.iload 4, 2) := by decide +kernel
theorem dX11_order_53 : decode cX11_order 53 = .ok (.iconst (-1), 1) := by decide +kernel
theorem dX11_order_54 : decode cX11_order 54 = .ok (.if_icmp .eq 13, 3) := by decide +kernel
theorem dX11_order_57 : decode cX11_order 57 = .ok (.aload_n 0, 1) := by decide +kernel
theorem dX11_order_58 : decode cX11_order 58 = .ok (.iload 4, 2) := by decide +kernel
theorem dX11_order_60 : decode cX11_order 60 = .ok (.iconst 2, 1) := by decide +kernel
theorem dX11_order_61 : decode cX11_order 61 = .ok (.invokevirtual 169, 3) := by decide +kernel
theorem dX11_order_64 : decode cX11_order 64 = .ok (.ifCond .eq 7, 3) := by decide +kernel
theorem dX11_order_67 : decode cX11_order 67 = .ok (.iconst 1, 1) := by decide +kernel
theorem dX11_order_68 : decode cX11_order 68 = .ok (.goto 4, 3) := by decide +kernel
theorem dX11_order_71 : decode cX11_order 71 = .ok (.iconst 0, 1) := by decide +kernel
theorem dX11_order_72 : decode cX11_order 72 = .ok (.istore 5, 2) := by decide +kernel
theorem dX11_order_74 : decode cX11_order 74 = .ok (.iload 5, 2) := by decide +kernel
theorem dX11_order_76 : decode cX11_order 76 = .ok (.ifCond .ne 6, 3) := by decide +kernel
theorem dX11_order_79 : decode cX11_order 79 = .ok (.bipush (-2), 2) := by decide +kernel
theorem dX11_order_81 : decode cX11_order 81 = .ok (.ireturn, 1) := by decide +kernel
theorem dX11_order_82 : decode cX11_order 82 = .ok (.iload_n 3, 1) := by decide +kernel
theorem dX11_order_83 : decode cX11_order 83 = .ok (.iconst (-1), 1) := by decide +kernel
theorem dX11_order_84 : decode cX11_order 84 = .ok (.if_icmp .ne 7, 3) := by decide +kernel
theorem dX11_order_87 : decode cX11_order 87 = .ok (.iconst 1, 1) := by decide +kernel
theorem dX11_order_88 : decode cX11_order 88 = .ok (.goto 14, 3) := by decide +kernel
theorem dX11_order_91 : decode cX11_order 91 = .ok (.iload 4, 2) := by decide +kernel
theorem dX11_order_93 : decode cX11_order 93 = .ok (.iconst (-1), 1) := by decide +kernel
theorem dX11_order_94 : decode cX11_order 94 = .ok (.if_icmp .ne 7, 3) := by decide +kernel
theorem dX11_order_97 : decode cX11_order 97 = .ok (.iconst 2, 1) := by decide +kernel
theorem dX11_order_98 : decode cX11_order 98 = .ok (.goto 4, 3) := by decide +kernel
theorem dX11_order_101 : decode cX11_order 101 = .ok (.iconst 3, 1) := by decide +kernel
theorem dX11_order_102 : decode cX11_order 102 = .ok (.istore 6, 2) := by decide +kernel
theorem dX11_order_104 : decode cX11_order 104 = .ok (.aload_n 0, 1) := by decide +kernel
theorem dX11_order_105 : decode cX11_order 105 = .ok (.getfield 147, 3) := by decide +kernel
theorem dX11_order_108 : decode cX11_order 108 = .ok (.bipush 40, 2) := by decide +kernel
theorem dX11_order_110 : decode cX11_order 110 = .ok (.if_icmp .eq 15, 3) := by decide +kernel
theorem dX11_order_113 : decode cX11_order 113 = .ok (.aload_n 0, 1) := by decide +kernel
theorem dX11_order_114 : decode cX11_order 114 = .ok (.getfield 150, 3) := by decide +kernel
theorem dX11_order_117 : decode cX11_order 117 = .ok (.iload 6, 2) := by decide +kernel
theorem dX11_order_119 : decode cX11_order 119 = .ok (.iadd, 1) := by decide +kernel
theorem dX11_order_120 : decode cX11_order 120 = .ok (.bipush 90, 2) := by decide +kernel
theorem dX11_order_122 : decode cX11_order 122 = .ok (.if_icmp .le 6, 3) := by decide +kernel
theorem dX11_order_125 : decode cX11_order 125 = .ok (.bipush (-3), 2) := by decide +kernel
theorem dX11_order_127 : decode cX11_order 127 = .ok (.ireturn, 1) := by decide +kernel
theorem dX11_order_128 : decode cX11_order 128 = .ok (.aload_n 0, 1) := by decide +kernel
theorem dX11_order_129 : decode cX11_order 129 = .ok (.getfield 48, 3) := by decide +kernel
theorem dX11_order_132 : decode cX11_order 132 = .ok (.aload_n 0, 1) := by decide +kernel
theorem dX11_order_133 : decode cX11_order 133 = .ok (.getfield 147, 3) := by decide +kernel
theorem dX11_order_136 : decode cX11_order 136 = .ok (.iload_n 1, 1) := by decide +kernel
theorem dX11_order_137 : decode cX11_order 137 = .ok (.iastore, 1) := by decide +kernel
theorem dX11_order_138 : decode cX11_order 138 = .ok (.aload_n 0, 1) := by decide +kernel
theorem dX11_order_139 : decode cX11_order 139 = .ok (.getfield 51, 3) := by decide +kernel
theorem dX11_order_142 : decode cX11_order 142 = .ok (.aload_n 0, 1) := by decide +kernel
theorem dX11_order_143 : decode cX11_order 143 = .ok (.getfield 147, 3) := by decide +kernel
theorem dX11_order_146 : decode cX11_order 146 = .ok (.iload 6, 2) := by decide +kernel
theorem dX11_order_148 : decode cX11_order 148 = .ok (.iastore, 1) := by decide +kernel
theorem dX11_order_149 : decode cX11_order 149 = .ok (.aload_n 0, 1) := by decide +kernel
theorem dX11_order_150 : decode cX11_order 150 = .ok (.getfield 54, 3) := by decide +kernel
theorem dX11_order_153 : decode cX11_order 153 = .ok (.aload_n 0, 1) := by decide +kernel
theorem dX11_order_154 : decode cX11_order 154 = .ok (.getfield 147, 3) := by decide +kernel
theorem dX11_order_157 : decode cX11_order 157 = .ok (.aload_n 0, 1) := by decide +kernel
theorem dX11_order_158 : decode cX11_order 158 = .ok (.getfield 150, 3) := by decide +kernel
theorem dX11_order_161 : decode cX11_order 161 = .ok (.iastore, 1) := by decide +kernel
theorem dX11_order_162 : decode cX11_order 162 = .ok (.aload_n 0, 1) := by decide +kernel
theorem dX11_order_163 : decode cX11_order 163 = .ok (.getfield 57, 3) := by decide +kernel
theorem dX11_order_166 : decode cX11_order 166 = .ok (.aload_n 0, 1) := by decide +kernel
theorem dX11_order_167 : decode cX11_order 167 = .ok (.getfield 147, 3) := by decide +kernel
theorem dX11_order_170 : decode cX11_order 170 = .ok (.aload_n 0, 1) := by decide +kernel
theorem dX11_order_171 : decode cX11_order 171 = .ok (.getfield 141, 3) := by decide +kernel
theorem dX11_order_174 : decode cX11_order 174 = .ok (.iastore, 1) := by decide +kernel
theorem dX11_order_175 : decode cX11_order 175 = .ok (.aload_n 0, 1) := by decide +kernel
theorem dX11_order_176 : decode cX11_order 176 = .ok (.getfield 60, 3) := by decide +kernel
theorem dX11_order_179 : decode cX11_order 179 = .ok (.aload_n 0, 1) := by decide +kernel
theorem dX11_order_180 : decode cX11_order 180 = .ok (.getfield 147, 3) := by decide +kernel
theorem dX11_order_183 : decode cX11_order 183 = .ok (.iconst (-1), 1) := by decide +kernel
theorem dX11_order_184 : decode cX11_order 184 = .ok (.iastore, 1) := by decide +kernel
theorem dX11_order_185 : decode cX11_order 185 = .ok (.aload_n 0, 1) := by decide +kernel
theorem dX11_order_186 : decode cX11_order 186 = .ok (.iload_n 2, 1) := by decide +kernel
theorem dX11_order_187 : decode cX11_order 187 = .ok (.invokevirtual 173, 3) := by decide +kernel
theorem dX11_order_190 : decode cX11_order 190 = .ok (.iload 6, 2) := by decide +kernel
theorem dX11_order_192 : decode cX11_order 192 = .ok (.iconst 1, 1) := by decide +kernel
theorem dX11_order_193 : decode cX11_order 193 = .ok (.if_icmp .le 8, 3) := by decide +kernel
theorem dX11_order_196 : decode cX11_order 196 = .ok (.aload_n 0, 1) := by decide +kernel
theorem dX11_order_197 : decode cX11_order 197 = .ok (.iload_n 3, 1) := by decide +kernel
theorem dX11_order_198 : decode cX11_order 198 = .ok (.invokevirtual 173, 3) := by decide +kernel
theorem dX11_order_201 : decode cX11_order 201 = .ok (.iload 6, 2) := by decide +kernel
theorem dX11_order_203 : decode cX11_order 203 = .ok (.iconst 2, 1) := by decide +kernel
theorem dX11_order_204 : decode cX11_order 204 = .ok (.if_icmp .le 9, 3) := by decide +kernel
theorem dX11_order_207 : decode cX11_order 207 = .ok (.aload_n 0, 1) := by decide +kernel
theorem dX11_order_208 : decode cX11_order 208 = .ok (.iload 4, 2) := by decide +kernel
theorem dX11_order_210 : decode cX11_order 210 = .ok (.invokevirtual 173, 3) := by decide +kernel
theorem dX11_order_213 : decode cX11_order 213 = .ok (.aload_n 0, 1) := by decide +kernel
theorem dX11_order_214 : decode cX11_order 214 = .ok (.dup, 1) := by decide +kernel
theorem dX11_order_215 : decode cX11_order 215 = .ok (.getfield 147, 3) := by decide +kernel
theorem dX11_order_218 : decode cX11_order 218 = .ok (.iconst 1, 1) := by decide +kernel
theorem dX11_order_219 : decode cX11_order 219 = .ok (.iadd, 1) := by decide +kernel
theorem dX11_order_220 : decode cX11_order 220 = .ok (.putfield 147, 3) := by decide +kernel
theorem dX11_order_223 : decode cX11_order 223 = .ok (.aload_n 0, 1) := by decide +kernel
theorem dX11_order_224 : decode cX11_order 224 = .ok (.getfield 147, 3) := by decide +kernel
theorem dX11_order_227 : decode cX11_order 227 = .ok (.iconst 1, 1) := by decide +kernel
theorem dX11_order_228 : decode cX11_order 228 = .ok (.isub, 1) := by decide +kernel
theorem dX11_order_229 : decode cX11_order 229 = .ok (.ireturn, 1) := by decide +kernel
theorem dX11_isOpen_0 : decode cX11_isOpen 0 = .ok (.iconst 0, 1) := by decide +kernel
theorem dX11_isOpen_1 : decode cX11_isOpen 1 = .ok (.istore_n 2, 1) := by decide +kernel
theorem dX11_isOpen_2 : decode cX11_isOpen 2 = .ok (.aload_n 0, 1) := by decide +kernel
theorem dX11_isOpen_3 : decode cX11_isOpen 3 = .ok (.getfield 54, 3) := by decide +kernel
theorem dX11_isOpen_6 : decode cX11_isOpen 6 = .ok (.iload_n 1, 1) := by decide +kernel
theorem dX11_isOpen_7 : decode cX11_isOpen 7 = .ok (.iaload, 1) := by decide +kernel
theorem dX11_isOpen_8 : decode cX11_isOpen 8 = .ok (.istore_n 3, 1) := by decide +kernel
theorem dX11_isOpen_9 : decode cX11_isOpen 9 = .ok (.iload_n 3, 1) := by decide +kernel
theorem dX11_isOpen_10 : decode cX11_isOpen 10 = .ok (.aload_n 0, 1) := by decide +kernel
theorem dX11_isOpen_11 : decode cX11_isOpen 11 = .ok (.getfield 54, 3) := by decide +kernel
theorem dX11_isOpen_14 : decode cX11_isOpen 14 = .ok (.iload_n 1, 1) := by decide +kernel
theorem dX11_isOpen_15 : decode cX11_isOpen 15 = .ok (.iaload, 1) := by decide +kernel
theorem dX11_isOpen_16 : decode cX11_isOpen 16 = .ok (.aload_n 0, 1) := by decide +kernel
theorem dX11_isOpen_17 : decode cX11_isOpen 17 = .ok (.getfield 51, 3) := by decide +kernel
theorem dX11_isOpen_20 : decode cX11_isOpen 20 = .ok (.iload_n 1, 1) := by decide +kernel
theorem dX11_isOpen_21 : decode cX11_isOpen 21 = .ok (.iaload, 1) := by decide +kernel
theorem dX11_isOpen_22 : decode cX11_isOpen 22 = .ok (.iadd, 1) := by decide +kernel
theorem dX11_isOpen_23 : decode cX11_isOpen 23 = .ok (.if_icmp .ge 29, 3) := by decide +kernel
theorem dX11_isOpen_26 : decode cX11_isOpen 26 = .ok (.iload_n 2, 1) := by decide +kernel
theorem dX11_isOpen_27 : decode cX11_isOpen 27 = .ok (.ifCond .ne 13, 3) := by decide +kernel
theorem dX11_isOpen_30 : decode cX11_isOpen 30 = .ok (.aload_n 0, 1) := by decide +kernel
theorem dX11_isOpen_31 : decode cX11_isOpen 31 = .ok (.getfield 69, 3) := by decide +kernel
theorem dX11_isOpen_34 : decode cX11_isOpen 34 = .ok (.iload_n 3, 1) := by decide +kernel
theorem dX11_isOpen_35 : decode cX11_isOpen 35 = .ok (.iaload, 1) := by decide +kernel
theorem dX11_isOpen_36 : decode cX11_isOpen 36 = .ok (.iconst 3, 1) := by decide +kernel
theorem dX11_isOpen_37 : decode cX11_isOpen 37 = .ok (.if_icmp .ge 7, 3) := by decide +kernel
theorem dX11_isOpen_40 : decode cX11_isOpen 40 = .ok (.iconst 1, 1) := by decide +kernel
theorem dX11_isOpen_41 : decode cX11_isOpen 41 = .ok (.goto 4, 3) := by decide +kernel
theorem dX11_isOpen_44 : decode cX11_isOpen 44 = .ok (.iconst 0, 1) := by decide +kernel
theorem dX11_isOpen_45 : decode cX11_isOpen 45 = .ok (.istore_n 2, 1) := by decide +kernel
theorem dX11_isOpen_46 : decode cX11_isOpen 46 = .ok (.iinc 3 1, 3) := by decide +kernel
theorem dX11_isOpen_49 : decode cX11_isOpen 49 = .ok (.goto (-40), 3) := by decide +kernel
theorem dX11_isOpen_52 : decode cX11_isOpen 52 = .ok (.iload_n 2, 1) := by decide +kernel
theorem dX11_isOpen_53 : decode cX11_isOpen 53 = .ok (.ireturn, 1) := by decide +kernel
theorem dX11_close_0 : decode cX11_close 0 = .ok (.aload_n 0, 1) := by decide +kernel
theorem dX11_close_1 : decode cX11_close 1 = .ok (.getfield 60, 3) := by decide +kernel
theorem dX11_close_4 : decode cX11_close 4 = .ok (.iload_n 1, 1) := by decide +kernel
theorem dX11_close_5 : decode cX11_close 5 = .ok (.iaload, 1) := by decide +kernel
theorem dX11_close_6 : decode cX11_close 6 = .ok (.ifCond .ge 21, 3) := by decide +kernel
theorem dX11_close_9 : decode cX11_close 9 = .ok (.aload_n 0, 1) := by decide +kernel
theorem dX11_close_10 : decode cX11_close 10 = .ok (.iload_n 1, 1) := by decide +kernel
theorem dX11_close_11 : decode cX11_close 11 = .ok (.invokevirtual 176, 3) := by decide +kernel
theorem dX11_close_14 : decode cX11_close 14 = .ok (.ifCond .ne 13, 3) := by decide +kernel
theorem dX11_close_17 : decode cX11_close 17 = .ok (.aload_n 0, 1) := by decide +kernel
theorem dX11_close_18 : decode cX11_close 18 = .ok (.getfield 60, 3) := by decide +kernel
theorem dX11_close_21 : decode cX11_close 21 = .ok (.iload_n 1, 1) := by decide +kernel
theorem dX11_close_22 : decode cX11_close 22 = .ok (.aload_n 0, 1) := by decide +kernel
theorem dX11_close_23 : decode cX11_close 23 = .ok (.getfield 141, 3) := by decide +kernel
theorem dX11_close_26 : decode cX11_close 26 = .ok (.iastore, 1) := by decide +kernel
theorem dX11_close_27 : decode cX11_close 27 = .ok (.return_, 1) := by decide +kernel
theorem dX11_cancel_0 : decode cX11_cancel 0 = .ok (.iload_n 1, 1) := by decide +kernel
theorem dX11_cancel_1 : decode cX11_cancel 1 = .ok (.iconst 0, 1) := by decide +kernel
theorem dX11_cancel_2 : decode cX11_cancel 2 = .ok (.aload_n 0, 1) := by decide +kernel
theorem dX11_cancel_3 : decode cX11_cancel 3 = .ok (.getfield 147, 3) := by decide +kernel
theorem dX11_cancel_6 : decode cX11_cancel 6 = .ok (.iconst 1, 1) := by decide +kernel
theorem dX11_cancel_7 : decode cX11_cancel 7 = .ok (.isub, 1) := by decide +kernel
theorem dX11_cancel_8 : decode cX11_cancel 8 = .ok (.invokestatic 162, 3) := by decide +kernel
theorem dX11_cancel_11 : decode cX11_cancel 11 = .ok (.ifCond .ne 6, 3) := by decide +kernel
theorem dX11_cancel_14 : decode cX11_cancel 14 = .ok (.bipush (-2), 2) := by decide +kernel
theorem dX11_cancel_16 : decode cX11_cancel 16 = .ok (.ireturn, 1) := by decide +kernel
theorem dX11_cancel_17 : decode cX11_cancel 17 = .ok (.iconst 0, 1) := by decide +kernel
theorem dX11_cancel_18 : decode cX11_cancel 18 = .ok (.istore_n 2, 1) := by decide +kernel
theorem dX11_cancel_19 : decode cX11_cancel 19 = .ok (.aload_n 0, 1) := by decide +kernel
theorem dX11_cancel_20 : decode cX11_cancel 20 = .ok (.getfield 54, 3) := by decide +kernel
theorem dX11_cancel_23 : decode cX11_cancel 23 = .ok (.iload_n 1, 1) := by decide +kernel
theorem dX11_cancel_24 : decode cX11_cancel 24 = .ok (.iaload, 1) := by decide +kernel
theorem dX11_cancel_25 : decode cX11_cancel 25 = .ok (.istore_n 3, 1) := by decide +kernel
theorem dX11_cancel_26 : decode cX11_cancel 26 = .ok (.iload_n 3, 1) := by decide +kernel
theorem dX11_cancel_27 : decode cX11_cancel 27 = .ok (.aload_n 0, 1) := by decide +kernel
theorem dX11_cancel_28 : decode cX11_cancel 28 = .ok (.getfield 54, 3) := by decide +kernel
theorem dX11_cancel_31 : decode cX11_cancel 31 = .ok (.iload_n 1, 1) := by decide +kernel
theorem dX11_cancel_32 : decode cX11_cancel 32 = .ok (.iaload, 1) := by decide +kernel
theorem dX11_cancel_33 : decode cX11_cancel 33 = .ok (.aload_n 0, 1) := by decide +kernel
theorem dX11_cancel_34 : decode cX11_cancel 34 = .ok (.getfield 51, 3) := by decide +kernel
theorem dX11_cancel_37 : decode cX11_cancel 37 = .ok (.iload_n 1, 1) := by decide +kernel
theorem dX11_cancel_38 : decode cX11_cancel 38 = .ok (.iaload, 1) := by decide +kernel
theorem dX11_cancel_39 : decode cX11_cancel 39 = .ok (.iadd, 1) := by decide +kernel
theorem dX11_cancel_40 : decode cX11_cancel 40 = .ok (.if_icmp .ge 28, 3) := by decide +kernel
theorem dX11_cancel_43 : decode cX11_cancel 43 = .ok (.aload_n 0, 1) := by decide +kernel
theorem dX11_cancel_44 : decode cX11_cancel 44 = .ok (.getfield 69, 3) := by decide +kernel
theorem dX11_cancel_47 : decode cX11_cancel 47 = .ok (.iload_n 3, 1) := by decide +kernel
theorem dX11_cancel_48 : decode cX11_cancel 48 = .ok (.iaload, 1) := by decide +kernel
theorem dX11_cancel_49 : decode cX11_cancel 49 = .ok (.ifCond .ne 13, 3) := by decide +kernel
theorem dX11_cancel_52 : decode cX11_cancel 52 = .ok (.aload_n 0, 1) := by decide +kernel
theorem dX11_cancel_53 : decode cX11_cancel 53 = .ok (.getfield 69, 3) := by decide +kernel
theorem dX11_cancel_56 : decode cX11_cancel 56 = .ok (.iload_n 3, 1) := by decide +kernel
theorem dX11_cancel_57 : decode cX11_cancel 57 = .ok (.iconst 4, 1) := by decide +kernel
theorem dX11_cancel_58 : decode cX11_cancel 58 = .ok (.iastore, 1) := by decide +kernel
theorem dX11_cancel_59 : decode cX11_cancel 59 = .ok (.iinc 2 1, 3) := by decide +kernel
theorem dX11_cancel_62 : decode cX11_cancel 62 = .ok (.iinc 3 1, 3) := by decide +kernel
theorem dX11_cancel_65 : decode cX11_cancel 65 = .ok (.goto (-39), 3) := by decide +kernel
theorem dX11_cancel_68 : decode cX11_cancel 68 = .ok (.aload_n 0, 1) := by decide +kernel
theorem dX11_cancel_69 : decode cX11_cancel 69 = .ok (.iload_n 1, 1) := by decide +kernel
theorem dX11_cancel_70 : decode cX11_cancel 70 = .ok (.invokevirtual 179, 3) := by decide +kernel
theorem dX11_cancel_73 : decode cX11_cancel 73 = .ok (.iload_n 2, 1) := by decide +kernel
theorem dX11_cancel_74 : decode cX11_cancel 74 = .ok (.ireturn, 1) := by decide +kernel
theorem dX11_lastIn_0 : decode cX11_lastIn 0 = .ok (.iconst (-1), 1) := by decide +kernel
theorem dX11_lastIn_1 : decode cX11_lastIn 1 = .ok (.istore_n 3, 1) := by decide +kernel
theorem dX11_lastIn_2 : decode cX11_lastIn 2 = .ok (.iconst 0, 1) := by decide +kernel
theorem dX11_lastIn_3 : decode cX11_lastIn 3 = .ok (.istore 4, 2) := by decide +kernel
theorem dX11_lastIn_5 : decode cX11_lastIn 5 = .ok (.iload 4, 2) := by decide +kernel
theorem dX11_lastIn_7 : decode cX11_lastIn 7 = .ok (.aload_n 0, 1) := by decide +kernel
theorem dX11_lastIn_8 : decode cX11_lastIn 8 = .ok (.getfield 144, 3) := by decide +kernel
theorem dX11_lastIn_11 : decode cX11_lastIn 11 = .ok (.if_icmp .ge 84, 3) := by decide +kernel
theorem dX11_lastIn_14 : decode cX11_lastIn 14 = .ok (.iload 4, 2) := by decide +kernel
theorem dX11_lastIn_16 : decode cX11_lastIn 16 = .ok (.iload_n 1, 1) := by decide +kernel
theorem dX11_lastIn_17 : decode cX11_lastIn 17 = .ok (.if_icmp .eq 17, 3) := by decide +kernel
theorem dX11_lastIn_20 : decode cX11_lastIn 20 = .ok (.aload_n 0, 1) := by decide +kernel
theorem dX11_lastIn_21 : decode cX11_lastIn 21 = .ok (.iload 4, 2) := by decide +kernel
theorem dX11_lastIn_23 : decode cX11_lastIn 23 = .ok (.invokevirtual 182, 3) := by decide +kernel
theorem dX11_lastIn_26 : decode cX11_lastIn 26 = .ok (.iload_n 2, 1) := by decide +kernel
theorem dX11_lastIn_27 : decode cX11_lastIn 27 = .ok (.if_icmp .ne 7, 3) := by decide +kernel
theorem dX11_lastIn_30 : decode cX11_lastIn 30 = .ok (.sipush 5200, 3) := by decide +kernel
theorem dX11_lastIn_33 : decode cX11_lastIn 33 = .ok (.istore_n 3, 1) := by decide +kernel
theorem dX11_lastIn_34 : decode cX11_lastIn 34 = .ok (.aload_n 0, 1) := by decide +kernel
theorem dX11_lastIn_35 : decode cX11_lastIn 35 = .ok (.getfield 141, 3) := by decide +kernel
theorem dX11_lastIn_38 : decode cX11_lastIn 38 = .ok (.istore 5, 2) := by decide +kernel
theorem dX11_lastIn_40 : decode cX11_lastIn 40 = .ok (.iload 4, 2) := by decide +kernel
theorem dX11_lastIn_42 : decode cX11_lastIn 42 = .ok (.iload_n 1, 1) := by decide +kernel
theorem dX11_lastIn_43 : decode cX11_lastIn 43 = .ok (.if_icmp .eq 46, 3) := by decide +kernel
theorem dX11_lastIn_46 : decode cX11_lastIn 46 = .ok (.iload 5, 2) := by decide +kernel
theorem dX11_lastIn_48 : decode cX11_lastIn 48 = .ok (.aload_n 0, 1) := by decide +kernel
theorem dX11_lastIn_49 : decode cX11_lastIn 49 = .ok (.getfield 33, 3) := by decide +kernel
theorem dX11_lastIn_52 : decode cX11_lastIn 52 = .ok (.iload 4, 2) := by decide +kernel
theorem dX11_lastIn_54 : decode cX11_lastIn 54 = .ok (.iaload, 1) := by decide +kernel
theorem dX11_lastIn_55 : decode cX11_lastIn 55 = .ok (.if_icmp .ge 34, 3) := by decide +kernel
theorem dX11_lastIn_58 : decode cX11_lastIn 58 = .ok (.aload_n 0, 1) := by decide +kernel
theorem dX11_lastIn_59 : decode cX11_lastIn 59 = .ok (.iload 4, 2) := by decide +kernel
theorem dX11_lastIn_61 : decode cX11_lastIn 61 = .ok (.iload 5, 2) := by decide +kernel
theorem dX11_lastIn_63 : decode cX11_lastIn 63 = .ok (.invokevirtual 166, 3) := by decide +kernel
theorem dX11_lastIn_66 : decode cX11_lastIn 66 = .ok (.iload_n 2, 1) := by decide +kernel
theorem dX11_lastIn_67 : decode cX11_lastIn 67 = .ok (.if_icmp .ne 14, 3) := by decide +kernel
theorem dX11_lastIn_70 : decode cX11_lastIn 70 = .ok (.iload 5, 2) := by decide +kernel
theorem dX11_lastIn_72 : decode cX11_lastIn 72 = .ok (.iload_n 3, 1) := by decide +kernel
theorem dX11_lastIn_73 : decode cX11_lastIn 73 = .ok (.if_icmp .le 8, 3) := by decide +kernel
theorem dX11_lastIn_76 : decode cX11_lastIn 76 = .ok (.iload 5, 2) := by decide +kernel
theorem dX11_lastIn_78 : decode cX11_lastIn 78 = .ok (.goto 4, 3) := by decide +kernel
theorem dX11_lastIn_81 : decode cX11_lastIn 81 = .ok (.iload_n 3, 1) := by decide +kernel
theorem dX11_lastIn_82 : decode cX11_lastIn 82 = .ok (.istore_n 3, 1) := by decide +kernel
theorem dX11_lastIn_83 : decode cX11_lastIn 83 = .ok (.iinc 5 1, 3) := by decide +kernel
theorem dX11_lastIn_86 : decode cX11_lastIn 86 = .ok (.goto (-46), 3) := by decide +kernel
theorem dX11_lastIn_89 : decode cX11_lastIn 89 = .ok (.iinc 4 1, 3) := by decide +kernel
theorem dX11_lastIn_92 : decode cX11_lastIn 92 = .ok (.goto (-87), 3) := by decide +kernel
theorem dX11_lastIn_95 : decode cX11_lastIn 95 = .ok (.iload_n 3, 1) := by decide +kernel
theorem dX11_lastIn_96 : decode cX11_lastIn 96 = .ok (.ireturn, 1) := by decide +kernel
theorem dX11_mayGo_0 : decode cX11_mayGo 0 = .ok (.iload_n 3, 1) := by decide +kernel
theorem dX11_mayGo_1 : decode cX11_mayGo 1 = .ok (.ifCond .lt 16, 3) := by decide +kernel
theorem dX11_mayGo_4 : decode cX11_mayGo 4 = .ok (.aload_n 0, 1) := by decide +kernel
theorem dX11_mayGo_5 : decode cX11_mayGo 5 = .ok (.getfield 17, 3) := by decide +kernel
theorem dX11_mayGo_8 : decode cX11_mayGo 8 = .ok (.iload_n 3, 1) := by decide +kernel
theorem dX11_mayGo_9 : decode cX11_mayGo 9 = .ok (.iaload, 1) := by decide +kernel
theorem dX11_mayGo_10 : decode cX11_mayGo 10 = .ok (.ifCond .eq 7, 3) := by decide +kernel
theorem dX11_mayGo_13 : decode cX11_mayGo 13 = .ok (.iconst 1, 1) := by decide +kernel
theorem dX11_mayGo_14 : decode cX11_mayGo 14 = .ok (.goto 4, 3) := by decide +kernel
theorem dX11_mayGo_17 : decode cX11_mayGo 17 = .ok (.iconst 0, 1) := by decide +kernel
theorem dX11_mayGo_18 : decode cX11_mayGo 18 = .ok (.istore 5, 2) := by decide +kernel
theorem dX11_mayGo_20 : decode cX11_mayGo 20 = .ok (.iconst 0, 1) := by decide +kernel
theorem dX11_mayGo_21 : decode cX11_mayGo 21 = .ok (.istore 6, 2) := by decide +kernel
theorem dX11_mayGo_23 : decode cX11_mayGo 23 = .ok (.iload 6, 2) := by decide +kernel
theorem dX11_mayGo_25 : decode cX11_mayGo 25 = .ok (.aload_n 0, 1) := by decide +kernel
theorem dX11_mayGo_26 : decode cX11_mayGo 26 = .ok (.getfield 144, 3) := by decide +kernel
theorem dX11_mayGo_29 : decode cX11_mayGo 29 = .ok (.if_icmp .ge 67, 3) := by decide +kernel
theorem dX11_mayGo_32 : decode cX11_mayGo 32 = .ok (.iload 5, 2) := by decide +kernel
theorem dX11_mayGo_34 : decode cX11_mayGo 34 = .ok (.ifCond .eq 62, 3) := by decide +kernel
theorem dX11_mayGo_37 : decode cX11_mayGo 37 = .ok (.iload 6, 2) := by decide +kernel
theorem dX11_mayGo_39 : decode cX11_mayGo 39 = .ok (.iload_n 1, 1) := by decide +kernel
theorem dX11_mayGo_40 : decode cX11_mayGo 40 = .ok (.if_icmp .eq 43, 3) := by decide +kernel
theorem dX11_mayGo_43 : decode cX11_mayGo 43 = .ok (.aload_n 0, 1) := by decide +kernel
theorem dX11_mayGo_44 : decode cX11_mayGo 44 = .ok (.iload 6, 2) := by decide +kernel
theorem dX11_mayGo_46 : decode cX11_mayGo 46 = .ok (.iload 4, 2) := by decide +kernel
theorem dX11_mayGo_48 : decode cX11_mayGo 48 = .ok (.iconst 1, 1) := by decide +kernel
theorem dX11_mayGo_49 : decode cX11_mayGo 49 = .ok (.iadd, 1) := by decide +kernel
theorem dX11_mayGo_50 : decode cX11_mayGo 50 = .ok (.invokevirtual 166, 3) := by decide +kernel
theorem dX11_mayGo_53 : decode cX11_mayGo 53 = .ok (.iload_n 3, 1) := by decide +kernel
theorem dX11_mayGo_54 : decode cX11_mayGo 54 = .ok (.if_icmp .eq 33, 3) := by decide +kernel
theorem dX11_mayGo_57 : decode cX11_mayGo 57 = .ok (.aload_n 0, 1) := by decide +kernel
theorem dX11_mayGo_58 : decode cX11_mayGo 58 = .ok (.iload 6, 2) := by decide +kernel
theorem dX11_mayGo_60 : decode cX11_mayGo 60 = .ok (.iload 4, 2) := by decide +kernel
theorem dX11_mayGo_62 : decode cX11_mayGo 62 = .ok (.invokevirtual 166, 3) := by decide +kernel
theorem dX11_mayGo_65 : decode cX11_mayGo 65 = .ok (.iload_n 3, 1) := by decide +kernel
theorem dX11_mayGo_66 : decode cX11_mayGo 66 = .ok (.if_icmp .ne 17, 3) := by decide +kernel
theorem dX11_mayGo_69 : decode cX11_mayGo 69 = .ok (.aload_n 0, 1) := by decide +kernel
theorem dX11_mayGo_70 : decode cX11_mayGo 70 = .ok (.iload 6, 2) := by decide +kernel
theorem dX11_mayGo_72 : decode cX11_mayGo 72 = .ok (.iload 4, 2) := by decide +kernel
theorem dX11_mayGo_74 : decode cX11_mayGo 74 = .ok (.iconst 1, 1) := by decide +kernel
theorem dX11_mayGo_75 : decode cX11_mayGo 75 = .ok (.iadd, 1) := by decide +kernel
theorem dX11_mayGo_76 : decode cX11_mayGo 76 = .ok (.invokevirtual 166, 3) := by decide +kernel
theorem dX11_mayGo_79 : decode cX11_mayGo 79 = .ok (.iload_n 2, 1) := by decide +kernel
theorem dX11_mayGo_80 : decode cX11_mayGo 80 = .ok (.if_icmp .eq 7, 3) := by decide +kernel
theorem dX11_mayGo_83 : decode cX11_mayGo 83 = .ok (.iconst 1, 1) := by decide +kernel
theorem dX11_mayGo_84 : decode cX11_mayGo 84 = .ok (.goto 4, 3) := by decide +kernel
theorem dX11_mayGo_87 : decode cX11_mayGo 87 = .ok (.iconst 0, 1) := by decide +kernel
theorem dX11_mayGo_88 : decode cX11_mayGo 88 = .ok (.istore 5, 2) := by decide +kernel
theorem dX11_mayGo_90 : decode cX11_mayGo 90 = .ok (.iinc 6 1, 3) := by decide +kernel
theorem dX11_mayGo_93 : decode cX11_mayGo 93 = .ok (.goto (-70), 3) := by decide +kernel
theorem dX11_mayGo_96 : decode cX11_mayGo 96 = .ok (.iload 5, 2) := by decide +kernel
theorem dX11_mayGo_98 : decode cX11_mayGo 98 = .ok (.ireturn, 1) := by decide +kernel
theorem dX11_state_0 : decode cX11_state 0 = .ok (.sipush 160, 3) := by decide +kernel
theorem dX11_state_3 : decode cX11_state 3 = .ok (.iload_n 0, 1) := by decide +kernel
theorem dX11_state_4 : decode cX11_state 4 = .ok (.imul, 1) := by decide +kernel
theorem dX11_state_5 : decode cX11_state 5 = .ok (.iload_n 1, 1) := by decide +kernel
theorem dX11_state_6 : decode cX11_state 6 = .ok (.ifCond .eq 8, 3) := by decide +kernel
theorem dX11_state_9 : decode cX11_state 9 = .ok (.bipush 80, 2) := by decide +kernel
theorem dX11_state_11 : decode cX11_state 11 = .ok (.goto 4, 3) := by decide +kernel
theorem dX11_state_14 : decode cX11_state 14 = .ok (.iconst 0, 1) := by decide +kernel
theorem dX11_state_15 : decode cX11_state 15 = .ok (.iadd, 1) := by decide +kernel
theorem dX11_state_16 : decode cX11_state 16 = .ok (.iload_n 2, 1) := by decide +kernel
theorem dX11_state_17 : decode cX11_state 17 = .ok (.iadd, 1) := by decide +kernel
theorem dX11_state_18 : decode cX11_state 18 = .ok (.ireturn, 1) := by decide +kernel
theorem dX11_spread_0 : decode cX11_spread 0 = .ok (.sipush 160, 3) := by decide +kernel
theorem dX11_spread_3 : decode cX11_spread 3 = .ok (.iload_n 2, 1) := by decide +kernel
theorem dX11_spread_4 : decode cX11_spread 4 = .ok (.iconst 1, 1) := by decide +kernel
theorem dX11_spread_5 : decode cX11_spread 5 = .ok (.iadd, 1) := by decide +kernel
theorem dX11_spread_6 : decode cX11_spread 6 = .ok (.imul, 1) := by decide +kernel
theorem dX11_spread_7 : decode cX11_spread 7 = .ok (.istore 4, 2) := by decide +kernel
theorem dX11_spread_9 : decode cX11_spread 9 = .ok (.iload 4, 2) := by decide +kernel
theorem dX11_spread_11 : decode cX11_spread 11 = .ok (.sipush 160, 3) := by decide +kernel
theorem dX11_spread_14 : decode cX11_spread 14 = .ok (.iload_n 2, 1) := by decide +kernel
theorem dX11_spread_15 : decode cX11_spread 15 = .ok (.iconst 2, 1) := by decide +kernel
theorem dX11_spread_16 : decode cX11_spread 16 = .ok (.iadd, 1) := by decide +kernel
theorem dX11_spread_17 : decode cX11_spread 17 = .ok (.imul, 1) := by decide +kernel
theorem dX11_spread_18 : decode cX11_spread 18 = .ok (.if_icmp .ge 17, 3) := by decide +kernel
theorem dX11_spread_21 : decode cX11_spread 21 = .ok (.aload_n 0, 1) := by decide +kernel
theorem dX11_spread_22 : decode cX11_spread 22 = .ok (.getfield 88, 3) := by decide +kernel
theorem dX11_spread_25 : decode cX11_spread 25 = .ok (.iload 4, 2) := by decide +kernel
theorem dX11_spread_27 : decode cX11_spread 27 = .ok (.iconst 0, 1) := by decide +kernel
theorem dX11_spread_28 : decode cX11_spread 28 = .ok (.bastore, 1) := by decide +kernel
theorem dX11_spread_29 : decode cX11_spread 29 = .ok (.iinc 4 1, 3) := by decide +kernel
theorem dX11_spread_32 : decode cX11_spread 32 = .ok (.goto (-23), 3) := by decide +kernel
theorem dX11_spread_35 : decode cX11_spread 35 = .ok (.iconst 0, 1) := by decide +kernel
theorem dX11_spread_36 : decode cX11_spread 36 = .ok (.istore 4, 2) := by decide +kernel
theorem dX11_spread_38 : decode cX11_spread 38 = .ok (.iload 4, 2) := by decide +kernel
theorem dX11_spread_40 : decode cX11_spread 40 = .ok (.sipush 160, 3) := by decide +kernel
theorem dX11_spread_43 : decode cX11_spread 43 = .ok (.if_icmp .ge 114, 3) := by decide +kernel
theorem dX11_spread_46 : decode cX11_spread 46 = .ok (.iload 4, 2) := by decide +kernel
theorem dX11_spread_48 : decode cX11_spread 48 = .ok (.bipush 80, 2) := by decide +kernel
theorem dX11_spread_50 : decode cX11_spread 50 = .ok (.irem, 1) := by decide +kernel
theorem dX11_spread_51 : decode cX11_spread 51 = .ok (.istore 5, 2) := by decide +kernel
theorem dX11_spread_53 : decode cX11_spread 53 = .ok (.iconst 0, 1) := by decide +kernel
theorem dX11_spread_54 : decode cX11_spread 54 = .ok (.istore 6, 2) := by decide +kernel
theorem dX11_spread_56 : decode cX11_spread 56 = .ok (.iload 6, 2) := by decide +kernel
theorem dX11_spread_58 : decode cX11_spread 58 = .ok (.iconst 5, 1) := by decide +kernel
theorem dX11_spread_59 : decode cX11_spread 59 = .ok (.if_icmp .ge 92, 3) := by decide +kernel
theorem dX11_spread_62 : decode cX11_spread 62 = .ok (.aload_n 0, 1) := by decide +kernel
theorem dX11_spread_63 : decode cX11_spread 63 = .ok (.getfield 88, 3) := by decide +kernel
theorem dX11_spread_66 : decode cX11_spread 66 = .ok (.sipush 160, 3) := by decide +kernel
theorem dX11_spread_69 : decode cX11_spread 69 = .ok (.iload_n 2, 1) := by decide +kernel
theorem dX11_spread_70 : decode cX11_spread 70 = .ok (.imul, 1) := by decide +kernel
theorem dX11_spread_71 : decode cX11_spread 71 = .ok (.iload 4, 2) := by decide +kernel
theorem dX11_spread_73 : decode cX11_spread 73 = .ok (.iadd, 1) := by decide +kernel
theorem dX11_spread_74 : decode cX11_spread 74 = .ok (.baload, 1) := by decide +kernel
theorem dX11_spread_75 : decode cX11_spread 75 = .ok (.ifCond .eq 76, 3) := by decide +kernel
theorem dX11_spread_78 : decode cX11_spread 78 = .ok (.iload 5, 2) := by decide +kernel
theorem dX11_spread_80 : decode cX11_spread 80 = .ok (.iload 6, 2) := by decide +kernel
theorem dX11_spread_82 : decode cX11_spread 82 = .ok (.aload_n 0, 1) := by decide +kernel
theorem dX11_spread_83 : decode cX11_spread 83 = .ok (.getfield 135, 3) := by decide +kernel
theorem dX11_spread_86 : decode cX11_spread 86 = .ok (.aload_n 0, 1) := by decide +kernel
theorem dX11_spread_87 : decode cX11_spread 87 = .ok (.getfield 132, 3) := by decide +kernel
theorem dX11_spread_90 : decode cX11_spread 90 = .ok (.invokestatic 113, 3) := by decide +kernel
theorem dX11_spread_93 : decode cX11_spread 93 = .ok (.istore 7, 2) := by decide +kernel
theorem dX11_spread_95 : decode cX11_spread 95 = .ok (.aload_n 0, 1) := by decide +kernel
theorem dX11_spread_96 : decode cX11_spread 96 = .ok (.iload_n 1, 1) := by decide +kernel
theorem dX11_spread_97 : decode cX11_spread 97 = .ok (.iload 5, 2) := by decide +kernel
theorem dX11_spread_99 : decode cX11_spread 99 = .ok (.iload 7, 2) := by decide +kernel
theorem dX11_spread_101 : decode cX11_spread 101 = .ok (.aload_n 0, 1) := by decide +kernel
theorem dX11_spread_102 : decode cX11_spread 102 = .ok (.getfield 141, 3) := by decide +kernel
theorem dX11_spread_105 : decode cX11_spread 105 = .ok (.iload_n 2, 1) := by decide +kernel
theorem dX11_spread_106 : decode cX11_spread 106 = .ok (.iadd, 1) := by decide +kernel
theorem dX11_spread_107 : decode cX11_spread 107 = .ok (.invokevirtual 185, 3) := by decide +kernel
theorem dX11_spread_110 : decode cX11_spread 110 = .ok (.ifCond .eq 35, 3) := by decide +kernel
theorem dX11_spread_113 : decode cX11_spread 113 = .ok (.aload_n 0, 1) := by decide +kernel
theorem dX11_spread_114 : decode cX11_spread 114 = .ok (.getfield 88, 3) := by decide +kernel
theorem dX11_spread_117 : decode cX11_spread 117 = .ok (.iload_n 2, 1) := by decide +kernel
theorem dX11_spread_118 : decode cX11_spread 118 = .ok (.iconst 1, 1) := by decide +kernel
theorem dX11_spread_119 : decode cX11_spread 119 = .ok (.iadd, 1) := by decide +kernel
theorem dX11_spread_120 : decode cX11_spread 120 = .ok (.iload 4, 2) := by decide +kernel
theorem dX11_spread_122 : decode cX11_spread 122 = .ok (.bipush 80, 2) := by decide +kernel
theorem dX11_spread_124 : decode cX11_spread 124 = .ok (.if_icmp .ge 9, 3) := by decide +kernel
theorem dX11_spread_127 : decode cX11_spread 127 = .ok (.iload 7, 2) := by decide +kernel
theorem dX11_spread_129 : decode cX11_spread 129 = .ok (.iload_n 3, 1) := by decide +kernel
theorem dX11_spread_130 : decode cX11_spread 130 = .ok (.if_icmp .ne 7, 3) := by decide +kernel
theorem dX11_spread_133 : decode cX11_spread 133 = .ok (.iconst 1, 1) := by decide +kernel
theorem dX11_spread_134 : decode cX11_spread 134 = .ok (.goto 4, 3) := by decide +kernel
theorem dX11_spread_137 : decode cX11_spread 137 = .ok (.iconst 0, 1) := by decide +kernel
theorem dX11_spread_138 : decode cX11_spread 138 = .ok (.iload 7, 2) := by decide +kernel
theorem dX11_spread_140 : decode cX11_spread 140 = .ok (.invokestatic 189, 3) := by decide +kernel
theorem dX11_spread_143 : decode cX11_spread 143 = .ok (.iconst 1, 1) := by decide +kernel
theorem dX11_spread_144 : decode cX11_spread 144 = .ok (.bastore, 1) := by decide +kernel
theorem dX11_spread_145 : decode cX11_spread 145 = .ok (.iinc 6 1, 3) := by decide +kernel
theorem dX11_spread_148 : decode cX11_spread 148 = .ok (.goto (-92), 3) := by decide +kernel
theorem dX11_spread_151 : decode cX11_spread 151 = .ok (.iinc 4 1, 3) := by decide +kernel
theorem dX11_spread_154 : decode cX11_spread 154 = .ok (.goto (-116), 3) := by decide +kernel
theorem dX11_spread_157 : decode cX11_spread 157 = .ok (.return_, 1) := by decide +kernel
theorem dX11_trace_0 : decode cX11_trace 0 = .ok (.iconst 0, 1) := by decide +kernel
theorem dX11_trace_1 : decode cX11_trace 1 = .ok (.istore 4, 2) := by decide +kernel
theorem dX11_trace_3 : decode cX11_trace 3 = .ok (.iload 4, 2) := by decide +kernel
theorem dX11_trace_5 : decode cX11_trace 5 = .ok (.sipush 160, 3) := by decide +kernel
theorem dX11_trace_8 : decode cX11_trace 8 = .ok (.if_icmp .ge 146, 3) := by decide +kernel
theorem dX11_trace_11 : decode cX11_trace 11 = .ok (.iload 4, 2) := by decide +kernel
theorem dX11_trace_13 : decode cX11_trace 13 = .ok (.bipush 80, 2) := by decide +kernel
theorem dX11_trace_15 : decode cX11_trace 15 = .ok (.irem, 1) := by decide +kernel
theorem dX11_trace_16 : decode cX11_trace 16 = .ok (.istore 5, 2) := by decide +kernel
theorem dX11_trace_18 : decode cX11_trace 18 = .ok (.iconst 0, 1) := by decide +kernel
theorem dX11_trace_19 : decode cX11_trace 19 = .ok (.istore 6, 2) := by decide +kernel
theorem dX11_trace_21 : decode cX11_trace 21 = .ok (.iconst 0, 1) := by decide +kernel
theorem dX11_trace_22 : decode cX11_trace 22 = .ok (.istore 7, 2) := by decide +kernel
theorem dX11_trace_24 : decode cX11_trace 24 = .ok (.iload 7, 2) := by decide +kernel
theorem dX11_trace_26 : decode cX11_trace 26 = .ok (.iconst 5, 1) := by decide +kernel
theorem dX11_trace_27 : decode cX11_trace 27 = .ok (.if_icmp .ge 106, 3) := by decide +kernel
theorem dX11_trace_30 : decode cX11_trace 30 = .ok (.aload_n 0, 1) := by decide +kernel
theorem dX11_trace_31 : decode cX11_trace 31 = .ok (.getfield 88, 3) := by decide +kernel
theorem dX11_trace_34 : decode cX11_trace 34 = .ok (.sipush 160, 3) := by decide +kernel
theorem dX11_trace_37 : decode cX11_trace 37 = .ok (.iload_n 2, 1) := by decide +kernel
theorem dX11_trace_38 : decode cX11_trace 38 = .ok (.imul, 1) := by decide +kernel
theorem dX11_trace_39 : decode cX11_trace 39 = .ok (.iload 4, 2) := by decide +kernel
theorem dX11_trace_41 : decode cX11_trace 41 = .ok (.iadd, 1) := by decide +kernel
theorem dX11_trace_42 : decode cX11_trace 42 = .ok (.baload, 1) := by decide +kernel
theorem dX11_trace_43 : decode cX11_trace 43 = .ok (.ifCond .eq 90, 3) := by decide +kernel
theorem dX11_trace_46 : decode cX11_trace 46 = .ok (.iload 5, 2) := by decide +kernel
theorem dX11_trace_48 : decode cX11_trace 48 = .ok (.iload 7, 2) := by decide +kernel
