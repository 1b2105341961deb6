theorem dX10_init_0 : decode cX10_init 0 = .ok (.aload_n 0, 1) := by decide +kernel
theorem dX10_init_1 : decode cX10_init 1 = .ok (.invokespecial 3, 3) := by decide +kernel
theorem dX10_init_4 : decode cX10_init 4 = .ok (.aload_n 0, 1) := by decide +kernel
theorem dX10_init_5 : decode cX10_init 5 = .ok (.new 9, 3) := by decide +kernel
theorem dX10_init_8 : decode cX10_init 8 = .ok (.dup, 1) := by decide +kernel
theorem dX10_init_9 : decode cX10_init 9 = .ok (.invokespecial 11, 3) := by decide +kernel
theorem dX10_init_12 : decode cX10_init 12 = .ok (.putfield 12, 3) := by decide +kernel
theorem dX10_init_15 : decode cX10_init 15 = .ok (.aload_n 0, 1) := by decide +kernel
theorem dX10_init_16 : decode cX10_init 16 = .ok (.new 9, 3) := by decide +kernel
theorem dX10_init_19 : decode cX10_init 19 = .ok (.dup, 1) := by decide +kernel
theorem dX10_init_20 : decode cX10_init 20 = .ok (.invokespecial 11, 3) := by decide +kernel
theorem dX10_init_23 : decode cX10_init 23 = .ok (.putfield 16, 3) := by decide +kernel
theorem dX10_init_26 : decode cX10_init 26 = .ok (.aload_n 0, 1) := by decide +kernel
theorem dX10_init_27 : decode cX10_init 27 = .ok (.new 19, 3) := by decide +kernel
theorem dX10_init_30 : decode cX10_init 30 = .ok (.dup, 1) := by decide +kernel
theorem dX10_init_31 : decode cX10_init 31 = .ok (.invokespecial 21, 3) := by decide +kernel
theorem dX10_init_34 : decode cX10_init 34 = .ok (.putfield 22, 3) := by decide +kernel
theorem dX10_init_37 : decode cX10_init 37 = .ok (.aload_n 0, 1) := by decide +kernel
theorem dX10_init_38 : decode cX10_init 38 = .ok (.new 26, 3) := by decide +kernel
theorem dX10_init_41 : decode cX10_init 41 = .ok (.dup, 1) := by decide +kernel
theorem dX10_init_42 : decode cX10_init 42 = .ok (.invokespecial 28, 3) := by decide +kernel
theorem dX10_init_45 : decode cX10_init 45 = .ok (.putfield 29, 3) := by decide +kernel
theorem dX10_init_48 : decode cX10_init 48 = .ok (.aload_n 0, 1) := by decide +kernel
theorem dX10_init_49 : decode cX10_init 49 = .ok (.new 33, 3) := by decide +kernel
theorem dX10_init_52 : decode cX10_init 52 = .ok (.dup, 1) := by decide +kernel
theorem dX10_init_53 : decode cX10_init 53 = .ok (.aload_n 0, 1) := by decide +kernel
theorem dX10_init_54 : decode cX10_init 54 = .ok (.getfield 12, 3) := by decide +kernel
theorem dX10_init_57 : decode cX10_init 57 = .ok (.aload_n 0, 1) := by decide +kernel
theorem dX10_init_58 : decode cX10_init 58 = .ok (.getfield 29, 3) := by decide +kernel
theorem dX10_init_61 : decode cX10_init 61 = .ok (.invokespecial 35, 3) := by decide +kernel
theorem dX10_init_64 : decode cX10_init 64 = .ok (.putfield 38, 3) := by decide +kernel
theorem dX10_init_67 : decode cX10_init 67 = .ok (.aload_n 0, 1) := by decide +kernel
theorem dX10_init_68 : decode cX10_init 68 = .ok (.iconst (-1), 1) := by decide +kernel
theorem dX10_init_69 : decode cX10_init 69 = .ok (.putfield 42, 3) := by decide +kernel
theorem dX10_init_72 : decode cX10_init 72 = .ok (.return_, 1) := by decide +kernel
theorem dX10_type_0 : decode cX10_type 0 = .ok (.aload_n 0, 1) := by decide +kernel
theorem dX10_type_1 : decode cX10_type 1 = .ok (.getfield 22, 3) := by decide +kernel
theorem dX10_type_4 : decode cX10_type 4 = .ok (.lload_n 1, 1) := by decide +kernel
theorem dX10_type_5 : decode cX10_type 5 = .ok (.invokevirtual 46, 3) := by decide +kernel
theorem dX10_type_8 : decode cX10_type 8 = .ok (.ireturn, 1) := by decide +kernel
theorem dX10_erase_0 : decode cX10_erase 0 = .ok (.aload_n 0, 1) := by decide +kernel
theorem dX10_erase_1 : decode cX10_erase 1 = .ok (.getfield 22, 3) := by decide +kernel
theorem dX10_erase_4 : decode cX10_erase 4 = .ok (.invokevirtual 50, 3) := by decide +kernel
theorem dX10_erase_7 : decode cX10_erase 7 = .ok (.ireturn, 1) := by decide +kernel
theorem dX10_read_0 : decode cX10_read 0 = .ok (.aload_n 0, 1) := by decide +kernel
theorem dX10_read_1 : decode cX10_read 1 = .ok (.invokevirtual 54, 3) := by decide +kernel
theorem dX10_read_4 : decode cX10_read 4 = .ok (.istore_n 1, 1) := by decide +kernel
theorem dX10_read_5 : decode cX10_read 5 = .ok (.iload_n 1, 1) := by decide +kernel
theorem dX10_read_6 : decode cX10_read 6 = .ok (.ifCond .eq 5, 3) := by decide +kernel
theorem dX10_read_9 : decode cX10_read 9 = .ok (.iload_n 1, 1) := by decide +kernel
theorem dX10_read_10 : decode cX10_read 10 = .ok (.ireturn, 1) := by decide +kernel
theorem dX10_read_11 : decode cX10_read 11 = .ok (.aload_n 0, 1) := by decide +kernel
theorem dX10_read_12 : decode cX10_read 12 = .ok (.getfield 16, 3) := by decide +kernel
theorem dX10_read_15 : decode cX10_read 15 = .ok (.astore_n 2, 1) := by decide +kernel
theorem dX10_read_16 : decode cX10_read 16 = .ok (.aload_n 0, 1) := by decide +kernel
theorem dX10_read_17 : decode cX10_read 17 = .ok (.aload_n 0, 1) := by decide +kernel
theorem dX10_read_18 : decode cX10_read 18 = .ok (.getfield 12, 3) := by decide +kernel
theorem dX10_read_21 : decode cX10_read 21 = .ok (.putfield 16, 3) := by decide +kernel
theorem dX10_read_24 : decode cX10_read 24 = .ok (.aload_n 0, 1) := by decide +kernel
theorem dX10_read_25 : decode cX10_read 25 = .ok (.aload_n 2, 1) := by decide +kernel
theorem dX10_read_26 : decode cX10_read 26 = .ok (.putfield 12, 3) := by decide +kernel
theorem dX10_read_29 : decode cX10_read 29 = .ok (.aload_n 0, 1) := by decide +kernel
theorem dX10_read_30 : decode cX10_read 30 = .ok (.getfield 29, 3) := by decide +kernel
theorem dX10_read_33 : decode cX10_read 33 = .ok (.invokevirtual 57, 3) := by decide +kernel
theorem dX10_read_36 : decode cX10_read 36 = .ok (.aload_n 0, 1) := by decide +kernel
theorem dX10_read_37 : decode cX10_read 37 = .ok (.getfield 38, 3) := by decide +kernel
theorem dX10_read_40 : decode cX10_read 40 = .ok (.aload_n 0, 1) := by decide +kernel
theorem dX10_read_41 : decode cX10_read 41 = .ok (.getfield 12, 3) := by decide +kernel
theorem dX10_read_44 : decode cX10_read 44 = .ok (.invokevirtual 60, 3) := by decide +kernel
theorem dX10_read_47 : decode cX10_read 47 = .ok (.aload_n 0, 1) := by decide +kernel
theorem dX10_read_48 : decode cX10_read 48 = .ok (.getfield 12, 3) := by decide +kernel
theorem dX10_read_51 : decode cX10_read 51 = .ok (.invokevirtual 64, 3) := by decide +kernel
theorem dX10_read_54 : decode cX10_read 54 = .ok (.ireturn, 1) := by decide +kernel
theorem dX10_place_0 : decode cX10_place 0 = .ok (.aload_n 0, 1) := by decide +kernel
theorem dX10_place_1 : decode cX10_place 1 = .ok (.getfield 42, 3) := by decide +kernel
theorem dX10_place_4 : decode cX10_place 4 = .ok (.ireturn, 1) := by decide +kernel
theorem dX10_cell_0 : decode cX10_cell 0 = .ok (.aload_n 0, 1) := by decide +kernel
theorem dX10_cell_1 : decode cX10_cell 1 = .ok (.getfield 12, 3) := by decide +kernel
theorem dX10_cell_4 : decode cX10_cell 4 = .ok (.iload_n 1, 1) := by decide +kernel
theorem dX10_cell_5 : decode cX10_cell 5 = .ok (.invokevirtual 67, 3) := by decide +kernel
theorem dX10_cell_8 : decode cX10_cell 8 = .ok (.ireturn, 1) := by decide +kernel
theorem dX10_distance_0 : decode cX10_distance 0 = .ok (.aload_n 0, 1) := by decide +kernel
theorem dX10_distance_1 : decode cX10_distance 1 = .ok (.getfield 12, 3) := by decide +kernel
theorem dX10_distance_4 : decode cX10_distance 4 = .ok (.iload_n 1, 1) := by decide +kernel
theorem dX10_distance_5 : decode cX10_distance 5 = .ok (.invokevirtual 71, 3) := by decide +kernel
theorem dX10_distance_8 : decode cX10_distance 8 = .ok (.ifCond .eq 14, 3) := by decide +kernel
theorem dX10_distance_11 : decode cX10_distance 11 = .ok (.aload_n 0, 1) := by decide +kernel
theorem dX10_distance_12 : decode cX10_distance 12 = .ok (.getfield 12, 3) := by decide +kernel
theorem dX10_distance_15 : decode cX10_distance 15 = .ok (.iload_n 2, 1) := by decide +kernel
theorem dX10_distance_16 : decode cX10_distance 16 = .ok (.invokevirtual 71, 3) := by decide +kernel
theorem dX10_distance_19 : decode cX10_distance 19 = .ok (.ifCond .ne 6, 3) := by decide +kernel
theorem dX10_distance_22 : decode cX10_distance 22 = .ok (.bipush (-2), 2) := by decide +kernel
theorem dX10_distance_24 : decode cX10_distance 24 = .ok (.ireturn, 1) := by decide +kernel
theorem dX10_distance_25 : decode cX10_distance 25 = .ok (.aload_n 0, 1) := by decide +kernel
theorem dX10_distance_26 : decode cX10_distance 26 = .ok (.getfield 12, 3) := by decide +kernel
theorem dX10_distance_29 : decode cX10_distance 29 = .ok (.iload_n 1, 1) := by decide +kernel
theorem dX10_distance_30 : decode cX10_distance 30 = .ok (.iconst 1, 1) := by decide +kernel
theorem dX10_distance_31 : decode cX10_distance 31 = .ok (.invokevirtual 75, 3) := by decide +kernel
theorem dX10_distance_34 : decode cX10_distance 34 = .ok (.aload_n 0, 1) := by decide +kernel
theorem dX10_distance_35 : decode cX10_distance 35 = .ok (.getfield 12, 3) := by decide +kernel
theorem dX10_distance_38 : decode cX10_distance 38 = .ok (.iload_n 2, 1) := by decide +kernel
theorem dX10_distance_39 : decode cX10_distance 39 = .ok (.invokevirtual 79, 3) := by decide +kernel
theorem dX10_distance_42 : decode cX10_distance 42 = .ok (.ireturn, 1) := by decide +kernel
theorem dX10_robot_0 : decode cX10_robot 0 = .ok (.aload_n 0, 1) := by decide +kernel
theorem dX10_robot_1 : decode cX10_robot 1 = .ok (.getfield 12, 3) := by decide +kernel
theorem dX10_robot_4 : decode cX10_robot 4 = .ok (.invokevirtual 64, 3) := by decide +kernel
theorem dX10_robot_7 : decode cX10_robot 7 = .ok (.ifCond .eq 13, 3) := by decide +kernel
theorem dX10_robot_10 : decode cX10_robot 10 = .ok (.aload_n 0, 1) := by decide +kernel
theorem dX10_robot_11 : decode cX10_robot 11 = .ok (.getfield 38, 3) := by decide +kernel
theorem dX10_robot_14 : decode cX10_robot 14 = .ok (.invokevirtual 82, 3) := by decide +kernel
theorem dX10_robot_17 : decode cX10_robot 17 = .ok (.ifCond .eq 6, 3) := by decide +kernel
theorem dX10_robot_20 : decode cX10_robot 20 = .ok (.bipush (-4), 2) := by decide +kernel
theorem dX10_robot_22 : decode cX10_robot 22 = .ok (.ireturn, 1) := by decide +kernel
theorem dX10_robot_23 : decode cX10_robot 23 = .ok (.aload_n 0, 1) := by decide +kernel
theorem dX10_robot_24 : decode cX10_robot 24 = .ok (.getfield 12, 3) := by decide +kernel
theorem dX10_robot_27 : decode cX10_robot 27 = .ok (.iload_n 1, 1) := by decide +kernel
theorem dX10_robot_28 : decode cX10_robot 28 = .ok (.invokevirtual 67, 3) := by decide +kernel
theorem dX10_robot_31 : decode cX10_robot 31 = .ok (.iconst 4, 1) := by decide +kernel
theorem dX10_robot_32 : decode cX10_robot 32 = .ok (.if_icmp .eq 6, 3) := by decide +kernel
theorem dX10_robot_35 : decode cX10_robot 35 = .ok (.bipush (-2), 2) := by decide +kernel
theorem dX10_robot_37 : decode cX10_robot 37 = .ok (.ireturn, 1) := by decide +kernel
theorem dX10_robot_38 : decode cX10_robot 38 = .ok (.aload_n 0, 1) := by decide +kernel
theorem dX10_robot_39 : decode cX10_robot 39 = .ok (.getfield 38, 3) := by decide +kernel
theorem dX10_robot_42 : decode cX10_robot 42 = .ok (.iload_n 1, 1) := by decide +kernel
theorem dX10_robot_43 : decode cX10_robot 43 = .ok (.invokevirtual 85, 3) := by decide +kernel
theorem dX10_robot_46 : decode cX10_robot 46 = .ok (.ireturn, 1) := by decide +kernel
theorem dX10_order_0 : decode cX10_order 0 = .ok (.aload_n 0, 1) := by decide +kernel
theorem dX10_order_1 : decode cX10_order 1 = .ok (.getfield 12, 3) := by decide +kernel
theorem dX10_order_4 : decode cX10_order 4 = .ok (.invokevirtual 64, 3) := by decide +kernel
theorem dX10_order_7 : decode cX10_order 7 = .ok (.ifCond .ne 6, 3) := by decide +kernel
theorem dX10_order_10 : decode cX10_order 10 = .ok (.bipush (-4), 2) := by decide +kernel
theorem dX10_order_12 : decode cX10_order 12 = .ok (.ireturn, 1) := by decide +kernel
theorem dX10_order_13 : decode cX10_order 13 = .ok (.aload_n 0, 1) := by decide +kernel
theorem dX10_order_14 : decode cX10_order 14 = .ok (.getfield 12, 3) := by decide +kernel
theorem dX10_order_17 : decode cX10_order 17 = .ok (.iload_n 1, 1) := by decide +kernel
theorem dX10_order_18 : decode cX10_order 18 = .ok (.invokevirtual 67, 3) := by decide +kernel
theorem dX10_order_21 : decode cX10_order 21 = .ok (.iconst 3, 1) := by decide +kernel
theorem dX10_order_22 : decode cX10_order 22 = .ok (.if_icmp .ne 14, 3) := by decide +kernel
theorem dX10_order_25 : decode cX10_order 25 = .ok (.aload_n 0, 1) := by decide +kernel
theorem dX10_order_26 : decode cX10_order 26 = .ok (.iload_n 2, 1) := by decide +kernel
theorem dX10_order_27 : decode cX10_order 27 = .ok (.iload_n 3, 1) := by decide +kernel
theorem dX10_order_28 : decode cX10_order 28 = .ok (.iload 4, 2) := by decide +kernel
theorem dX10_order_30 : decode cX10_order 30 = .ok (.invokevirtual 88, 3) := by decide +kernel
theorem dX10_order_33 : decode cX10_order 33 = .ok (.ifCond .ne 6, 3) := by decide +kernel
theorem dX10_order_36 : decode cX10_order 36 = .ok (.bipush (-2), 2) := by decide +kernel
theorem dX10_order_38 : decode cX10_order 38 = .ok (.ireturn, 1) := by decide +kernel
theorem dX10_order_39 : decode cX10_order 39 = .ok (.iload_n 3, 1) := by decide +kernel
theorem dX10_order_40 : decode cX10_order 40 = .ok (.iconst (-1), 1) := by decide +kernel
theorem dX10_order_41 : decode cX10_order 41 = .ok (.if_icmp .ne 7, 3) := by decide +kernel
theorem dX10_order_44 : decode cX10_order 44 = .ok (.iconst 1, 1) := by decide +kernel
theorem dX10_order_45 : decode cX10_order 45 = .ok (.goto 14, 3) := by decide +kernel
theorem dX10_order_48 : decode cX10_order 48 = .ok (.iload 4, 2) := by decide +kernel
theorem dX10_order_50 : decode cX10_order 50 = .ok (.iconst (-1), 1) := by decide +kernel
theorem dX10_order_51 : decode cX10_order 51 = .ok (.if_icmp .ne 7, 3) := by decide +kernel
theorem dX10_order_54 : decode cX10_order 54 = .ok (.iconst 2, 1) := by decide +kernel
theorem dX10_order_55 : decode cX10_order 55 = .ok (.goto 4, 3) := by decide +kernel
theorem dX10_order_58 : decode cX10_order 58 = .ok (.iconst 3, 1) := by decide +kernel
theorem dX10_order_59 : decode cX10_order 59 = .ok (.istore 5, 2) := by decide +kernel
theorem dX10_order_61 : decode cX10_order 61 = .ok (.aload_n 0, 1) := by decide +kernel
theorem dX10_order_62 : decode cX10_order 62 = .ok (.getfield 29, 3) := by decide +kernel
theorem dX10_order_65 : decode cX10_order 65 = .ok (.iload 5, 2) := by decide +kernel
theorem dX10_order_67 : decode cX10_order 67 = .ok (.invokevirtual 92, 3) := by decide +kernel
theorem dX10_order_70 : decode cX10_order 70 = .ok (.ifCond .ne 6, 3) := by decide +kernel
theorem dX10_order_73 : decode cX10_order 73 = .ok (.bipush (-3), 2) := by decide +kernel
theorem dX10_order_75 : decode cX10_order 75 = .ok (.ireturn, 1) := by decide +kernel
theorem dX10_order_76 : decode cX10_order 76 = .ok (.aload_n 0, 1) := by decide +kernel
theorem dX10_order_77 : decode cX10_order 77 = .ok (.getfield 29, 3) := by decide +kernel
theorem dX10_order_80 : decode cX10_order 80 = .ok (.iload_n 1, 1) := by decide +kernel
theorem dX10_order_81 : decode cX10_order 81 = .ok (.iload 5, 2) := by decide +kernel
theorem dX10_order_83 : decode cX10_order 83 = .ok (.aload_n 0, 1) := by decide +kernel
theorem dX10_order_84 : decode cX10_order 84 = .ok (.getfield 38, 3) := by decide +kernel
theorem dX10_order_87 : decode cX10_order 87 = .ok (.invokevirtual 82, 3) := by decide +kernel
theorem dX10_order_90 : decode cX10_order 90 = .ok (.invokevirtual 95, 3) := by decide +kernel
theorem dX10_order_93 : decode cX10_order 93 = .ok (.istore 6, 2) := by decide +kernel
theorem dX10_order_95 : decode cX10_order 95 = .ok (.aload_n 0, 1) := by decide +kernel
theorem dX10_order_96 : decode cX10_order 96 = .ok (.getfield 29, 3) := by decide +kernel
theorem dX10_order_99 : decode cX10_order 99 = .ok (.iload 6, 2) := by decide +kernel
theorem dX10_order_101 : decode cX10_order 101 = .ok (.iload_n 2, 1) := by decide +kernel
theorem dX10_order_102 : decode cX10_order 102 = .ok (.invokevirtual 99, 3) := by decide +kernel
theorem dX10_order_105 : decode cX10_order 105 = .ok (.iload 5, 2) := by decide +kernel
theorem dX10_order_107 : decode cX10_order 107 = .ok (.iconst 1, 1) := by decide +kernel
theorem dX10_order_108 : decode cX10_order 108 = .ok (.if_icmp .le 13, 3) := by decide +kernel
theorem dX10_order_111 : decode cX10_order 111 = .ok (.aload_n 0, 1) := by decide +kernel
theorem dX10_order_112 : decode cX10_order 112 = .ok (.getfield 29, 3) := by decide +kernel
theorem dX10_order_115 : decode cX10_order 115 = .ok (.iload 6, 2) := by decide +kernel
theorem dX10_order_117 : decode cX10_order 117 = .ok (.iload_n 3, 1) := by decide +kernel
theorem dX10_order_118 : decode cX10_order 118 = .ok (.invokevirtual 99, 3) := by decide +kernel
theorem dX10_order_121 : decode cX10_order 121 = .ok (.iload 5, 2) := by decide +kernel
theorem dX10_order_123 : decode cX10_order 123 = .ok (.iconst 2, 1) := by decide +kernel
theorem dX10_order_124 : decode cX10_order 124 = .ok (.if_icmp .le 14, 3) := by decide +kernel
theorem dX10_order_127 : decode cX10_order 127 = .ok (.aload_n 0, 1) := by decide +kernel
theorem dX10_order_128 : decode cX10_order 128 = .ok (.getfield 29, 3) := by decide +kernel
theorem dX10_order_131 : decode cX10_order 131 = .ok (.iload 6, 2) := by decide +kernel
theorem dX10_order_133 : decode cX10_order 133 = .ok (.iload 4, 2) := by decide +kernel
theorem dX10_order_135 : decode cX10_order 135 = .ok (.invokevirtual 99, 3) := by decide +kernel
theorem dX10_order_138 : decode cX10_order 138 = .ok (.iload 6, 2) := by decide +kernel
theorem dX10_order_140 : decode cX10_order 140 = .ok (.ireturn, 1) := by decide +kernel
theorem dX10_cancel_0 : decode cX10_cancel 0 = .ok (.aload_n 0, 1) := by decide +kernel
theorem dX10_cancel_1 : decode cX10_cancel 1 = .ok (.getfield 29, 3) := by decide +kernel
theorem dX10_cancel_4 : decode cX10_cancel 4 = .ok (.iload_n 1, 1) := by decide +kernel
theorem dX10_cancel_5 : decode cX10_cancel 5 = .ok (.aload_n 0, 1) := by decide +kernel
theorem dX10_cancel_6 : decode cX10_cancel 6 = .ok (.getfield 38, 3) := by decide +kernel
theorem dX10_cancel_9 : decode cX10_cancel 9 = .ok (.invokevirtual 82, 3) := by decide +kernel
theorem dX10_cancel_12 : decode cX10_cancel 12 = .ok (.invokevirtual 103, 3) := by decide +kernel
theorem dX10_cancel_15 : decode cX10_cancel 15 = .ok (.ireturn, 1) := by decide +kernel
theorem dX10_tick_0 : decode cX10_tick 0 = .ok (.aload_n 0, 1) := by decide +kernel
theorem dX10_tick_1 : decode cX10_tick 1 = .ok (.iload_n 1, 1) := by decide +kernel
theorem dX10_tick_2 : decode cX10_tick 2 = .ok (.invokevirtual 107, 3) := by decide +kernel
theorem dX10_tick_5 : decode cX10_tick 5 = .ok (.istore_n 2, 1) := by decide +kernel
theorem dX10_tick_6 : decode cX10_tick 6 = .ok (.iload_n 2, 1) := by decide +kernel
theorem dX10_tick_7 : decode cX10_tick 7 = .ok (.ifCond .eq 5, 3) := by decide +kernel
theorem dX10_tick_10 : decode cX10_tick 10 = .ok (.iload_n 2, 1) := by decide +kernel
theorem dX10_tick_11 : decode cX10_tick 11 = .ok (.ireturn, 1) := by decide +kernel
theorem dX10_tick_12 : decode cX10_tick 12 = .ok (.iconst 0, 1) := by decide +kernel
theorem dX10_tick_13 : decode cX10_tick 13 = .ok (.istore_n 3, 1) := by decide +kernel
theorem dX10_tick_14 : decode cX10_tick 14 = .ok (.iload_n 3, 1) := by decide +kernel
theorem dX10_tick_15 : decode cX10_tick 15 = .ok (.iload_n 1, 1) := by decide +kernel
theorem dX10_tick_16 : decode cX10_tick 16 = .ok (.if_icmp .ge 16, 3) := by decide +kernel
theorem dX10_tick_19 : decode cX10_tick 19 = .ok (.aload_n 0, 1) := by decide +kernel
theorem dX10_tick_20 : decode cX10_tick 20 = .ok (.getfield 38, 3) := by decide +kernel
theorem dX10_tick_23 : decode cX10_tick 23 = .ok (.invokevirtual 110, 3) := by decide +kernel
theorem dX10_tick_26 : decode cX10_tick 26 = .ok (.iinc 3 1, 3) := by decide +kernel
theorem dX10_tick_29 : decode cX10_tick 29 = .ok (.goto (-15), 3) := by decide +kernel
theorem dX10_tick_32 : decode cX10_tick 32 = .ok (.aload_n 0, 1) := by decide +kernel
theorem dX10_tick_33 : decode cX10_tick 33 = .ok (.getfield 38, 3) := by decide +kernel
theorem dX10_tick_36 : decode cX10_tick 36 = .ok (.invokevirtual 82, 3) := by decide +kernel
theorem dX10_tick_39 : decode cX10_tick 39 = .ok (.ireturn, 1) := by decide +kernel
theorem dX10_settle_0 : decode cX10_settle 0 = .ok (.aload_n 0, 1) := by decide +kernel
theorem dX10_settle_1 : decode cX10_settle 1 = .ok (.iload_n 1, 1) := by decide +kernel
theorem dX10_settle_2 : decode cX10_settle 2 = .ok (.invokevirtual 107, 3) := by decide +kernel
theorem dX10_settle_5 : decode cX10_settle 5 = .ok (.istore_n 2, 1) := by decide +kernel
theorem dX10_settle_6 : decode cX10_settle 6 = .ok (.iload_n 2, 1) := by decide +kernel
theorem dX10_settle_7 : decode cX10_settle 7 = .ok (.ifCond .eq 5, 3) := by decide +kernel
theorem dX10_settle_10 : decode cX10_settle 10 = .ok (.iload_n 2, 1) := by decide +kernel
theorem dX10_settle_11 : decode cX10_settle 11 = .ok (.ireturn, 1) := by decide +kernel
theorem dX10_settle_12 : decode cX10_settle 12 = .ok (.iconst 0, 1) := by decide +kernel
theorem dX10_settle_13 : decode cX10_settle 13 = .ok (.istore_n 3, 1) := by decide +kernel
theorem dX10_settle_14 : decode cX10_settle 14 = .ok (.iload_n 3, 1) := by decide +kernel
theorem dX10_settle_15 : decode cX10_settle 15 = .ok (.iload_n 1, 1) := by decide +kernel
theorem dX10_settle_16 : decode cX10_settle 16 = .ok (.if_icmp .ge 26, 3) := by decide +kernel
theorem dX10_settle_19 : decode cX10_settle 19 = .ok (.aload_n 0, 1) := by decide +kernel
theorem dX10_settle_20 : decode cX10_settle 20 = .ok (.getfield 29, 3) := by decide +kernel
theorem dX10_settle_23 : decode cX10_settle 23 = .ok (.invokevirtual 113, 3) := by decide +kernel
theorem dX10_settle_26 : decode cX10_settle 26 = .ok (.ifCond .le 16, 3) := by decide +kernel
theorem dX10_settle_29 : decode cX10_settle 29 = .ok (.aload_n 0, 1) := by decide +kernel
theorem dX10_settle_30 : decode cX10_settle 30 = .ok (.getfield 38, 3) := by decide +kernel
theorem dX10_settle_33 : decode cX10_settle 33 = .ok (.invokevirtual 110, 3) := by decide +kernel
theorem dX10_settle_36 : decode cX10_settle 36 = .ok (.iinc 3 1, 3) := by decide +kernel
theorem dX10_settle_39 : decode cX10_settle 39 = .ok (.goto (-25), 3) := by decide +kernel
theorem dX10_settle_42 : decode cX10_settle 42 = .ok (.iload_n 3, 1) := by decide +kernel
theorem dX10_settle_43 : decode cX10_settle 43 = .ok (.ireturn, 1) := by decide +kernel
theorem dX10_robotOf_0 : decode cX10_robotOf 0 = .ok (.aload_n 0, 1) := by decide +kernel
theorem dX10_robotOf_1 : decode cX10_robotOf 1 = .ok (.getfield 38, 3) := by decide +kernel
theorem dX10_robotOf_4 : decode cX10_robotOf 4 = .ok (.iload_n 1, 1) := by decide +kernel
theorem dX10_robotOf_5 : decode cX10_robotOf 5 = .ok (.iload_n 2, 1) := by decide +kernel
theorem dX10_robotOf_6 : decode cX10_robotOf 6 = .ok (.invokevirtual 116, 3) := by decide +kernel
theorem dX10_robotOf_9 : decode cX10_robotOf 9 = .ok (.ireturn, 1) := by decide +kernel
theorem dX10_ahead_0 : decode cX10_ahead 0 = .ok (.aload_n 0, 1) := by decide +kernel
theorem dX10_ahead_1 : decode cX10_ahead 1 = .ok (.getfield 38, 3) := by decide +kernel
theorem dX10_ahead_4 : decode cX10_ahead 4 = .ok (.iload_n 1, 1) := by decide +kernel
theorem dX10_ahead_5 : decode cX10_ahead 5 = .ok (.iload_n 2, 1) := by decide +kernel
theorem dX10_ahead_6 : decode cX10_ahead 6 = .ok (.invokevirtual 119, 3) := by decide +kernel
theorem dX10_ahead_9 : decode cX10_ahead 9 = .ok (.ireturn, 1) := by decide +kernel
theorem dX10_was_0 : decode cX10_was 0 = .ok (.aload_n 0, 1) := by decide +kernel
theorem dX10_was_1 : decode cX10_was 1 = .ok (.getfield 38, 3) := by decide +kernel
theorem dX10_was_4 : decode cX10_was 4 = .ok (.iload_n 1, 1) := by decide +kernel
theorem dX10_was_5 : decode cX10_was 5 = .ok (.iload_n 2, 1) := by decide +kernel
theorem dX10_was_6 : decode cX10_was 6 = .ok (.invokevirtual 122, 3) := by decide +kernel
theorem dX10_was_9 : decode cX10_was 9 = .ok (.ireturn, 1) := by decide +kernel
theorem dX10_task_0 : decode cX10_task 0 = .ok (.aload_n 0, 1) := by decide +kernel
theorem dX10_task_1 : decode cX10_task 1 = .ok (.getfield 29, 3) := by decide +kernel
theorem dX10_task_4 : decode cX10_task 4 = .ok (.iload_n 1, 1) := by decide +kernel
theorem dX10_task_5 : decode cX10_task 5 = .ok (.iload_n 2, 1) := by decide +kernel
theorem dX10_task_6 : decode cX10_task 6 = .ok (.invokevirtual 125, 3) := by decide +kernel
theorem dX10_task_9 : decode cX10_task 9 = .ok (.ireturn, 1) := by decide +kernel
theorem dX10_orderOf_0 : decode cX10_orderOf 0 = .ok (.aload_n 0, 1) := by decide +kernel
theorem dX10_orderOf_1 : decode cX10_orderOf 1 = .ok (.getfield 29, 3) := by decide +kernel
theorem dX10_orderOf_4 : decode cX10_orderOf 4 = .ok (.iload_n 1, 1) := by decide +kernel
theorem dX10_orderOf_5 : decode cX10_orderOf 5 = .ok (.iload_n 2, 1) := by decide +kernel
theorem dX10_orderOf_6 : decode cX10_orderOf 6 = .ok (.invokevirtual 128, 3) := by decide +kernel
theorem dX10_orderOf_9 : decode cX10_orderOf 9 = .ok (.ireturn, 1) := by decide +kernel
theorem dX10_count_0 : decode cX10_count 0 = .ok (.iload_n 1, 1) := by decide +kernel
theorem dX10_count_1 : decode cX10_count 1 = .ok (.tableswitch 147 0 10 #[59, 67, 75, 83, 91, 99, 107, 115, 123, 131, 139], 59) := by decide +kernel
theorem dX10_count_60 : decode cX10_count 60 = .ok (.aload_n 0, 1) := by decide +kernel
theorem dX10_count_61 : decode cX10_count 61 = .ok (.getfield 12, 3) := by decide +kernel
theorem dX10_count_64 : decode cX10_count 64 = .ok (.invokevirtual 64, 3) := by decide +kernel
theorem dX10_count_67 : decode cX10_count 67 = .ok (.ireturn, 1) := by decide +kernel
theorem dX10_count_68 : decode cX10_count 68 = .ok (.aload_n 0, 1) := by decide +kernel
theorem dX10_count_69 : decode cX10_count 69 = .ok (.getfield 38, 3) := by decide +kernel
theorem dX10_count_72 : decode cX10_count 72 = .ok (.invokevirtual 131, 3) := by decide +kernel
theorem dX10_count_75 : decode cX10_count 75 = .ok (.ireturn, 1) := by decide +kernel
theorem dX10_count_76 : decode cX10_count 76 = .ok (.aload_n 0, 1) := by decide +kernel
theorem dX10_count_77 : decode cX10_count 77 = .ok (.getfield 29, 3) := by decide +kernel
theorem dX10_count_80 : decode cX10_count 80 = .ok (.invokevirtual 132, 3) := by decide +kernel
theorem dX10_count_83 : decode cX10_count 83 = .ok (.ireturn, 1) := by decide +kernel
theorem dX10_count_84 : decode cX10_count 84 = .ok (.aload_n 0, 1) := by decide +kernel
theorem dX10_count_85 : decode cX10_count 85 = .ok (.getfield 29, 3) := by decide +kernel
theorem dX10_count_88 : decode cX10_count 88 = .ok (.invokevirtual 113, 3) := by decide +kernel
theorem dX10_count_91 : decode cX10_count 91 = .ok (.ireturn, 1) := by decide +kernel
theorem dX10_count_92 : decode cX10_count 92 = .ok (.aload_n 0, 1) := by decide +kernel
theorem dX10_count_93 : decode cX10_count 93 = .ok (.getfield 29, 3) := by decide +kernel
theorem dX10_count_96 : decode cX10_count 96 = .ok (.invokevirtual 133, 3) := by decide +kernel
theorem dX10_count_99 : decode cX10_count 99 = .ok (.ireturn, 1) := by decide +kernel
theorem dX10_count_100 : decode cX10_count 100 = .ok (.aload_n 0, 1) := by decide +kernel
theorem dX10_count_101 : decode cX10_count 101 = .ok (.getfield 29, 3) := by decide +kernel
theorem dX10_count_104 : decode cX10_count 104 = .ok (.invokevirtual 136, 3) := by decide +kernel
theorem dX10_count_107 : decode cX10_count 107 = .ok (.ireturn, 1) := by decide +kernel
theorem dX10_count_108 : decode cX10_count 108 = .ok (.aload_n 0, 1) := by decide +kernel
theorem dX10_count_109 : decode cX10_count 109 = .ok (.getfield 38, 3) := by decide +kernel
theorem dX10_count_112 : decode cX10_count 112 = .ok (.invokevirtual 82, 3) := by decide +kernel
theorem dX10_count_115 : decode cX10_count 115 = .ok (.ireturn, 1) := by decide +kernel
theorem dX10_count_116 : decode cX10_count 116 = .ok (.aload_n 0, 1) := by decide +kernel
theorem dX10_count_117 : decode cX10_count 117 = .ok (.getfield 38, 3) := by decide +kernel
theorem dX10_count_120 : decode cX10_count 120 = .ok (.invokevirtual 139, 3) := by decide +kernel
theorem dX10_count_123 : decode cX10_count 123 = .ok (.ireturn, 1) := by decide +kernel
theorem dX10_count_124 : decode cX10_count 124 = .ok (.aload_n 0, 1) := by decide +kernel
theorem dX10_count_125 : decode cX10_count 125 = .ok (.getfield 38, 3) := by decide +kernel
theorem dX10_count_128 : decode cX10_count 128 = .ok (.invokevirtual 142, 3) := by decide +kernel
theorem dX10_count_131 : decode cX10_count 131 = .ok (.ireturn, 1) := by decide +kernel
theorem dX10_count_132 : decode cX10_count 132 = .ok (.aload_n 0, 1) := by decide +kernel
theorem dX10_count_133 : decode cX10_count 133 = .ok (.getfield 38, 3) := by decide +kernel
theorem dX10_count_136 : decode cX10_count 136 = .ok (.invokevirtual 145, 3) := by decide +kernel
theorem dX10_count_139 : decode cX10_count 139 = .ok (.ireturn, 1) := by decide +kernel
theorem dX10_count_140 : decode cX10_count 140 = .ok (.aload_n 0, 1) := by decide +kernel
theorem dX10_count_141 : decode cX10_count 141 = .ok (.getfield 38, 3) := by decide +kernel
theorem dX10_count_144 : decode cX10_count 144 = .ok (.invokevirtual 148, 3) := by decide +kernel
theorem dX10_count_147 : decode cX10_count 147 = .ok (.ireturn, 1) := by decide +kernel
theorem dX10_count_148 : decode cX10_count 148 = .ok (.bipush (-2), 2) := by decide +kernel
theorem dX10_count_150 : decode cX10_count 150 = .ok (.ireturn, 1) := by decide +kernel
theorem dX10_findFault_0 : decode cX10_findFault 0 = .ok (.aload_n 0, 1) := by decide +kernel
theorem dX10_findFault_1 : decode cX10_findFault 1 = .ok (.getfield 22, 3) := by decide +kernel
theorem dX10_findFault_4 : decode cX10_findFault 4 = .ok (.invokevirtual 151, 3) := by decide +kernel
theorem dX10_findFault_7 : decode cX10_findFault 7 = .ok (.istore_n 1, 1) := by decide +kernel
theorem dX10_findFault_8 : decode cX10_findFault 8 = .ok (.iload_n 1, 1) := by decide +kernel
theorem dX10_findFault_9 : decode cX10_findFault 9 = .ok (.ifCond .eq 16, 3) := by decide +kernel
theorem dX10_findFault_12 : decode cX10_findFault 12 = .ok (.aload_n 0, 1) := by decide +kernel
theorem dX10_findFault_13 : decode cX10_findFault 13 = .ok (.aload_n 0, 1) := by decide +kernel
theorem dX10_findFault_14 : decode cX10_findFault 14 = .ok (.getfield 22, 3) := by decide +kernel
theorem dX10_findFault_17 : decode cX10_findFault 17 = .ok (.invokevirtual 152, 3) := by decide +kernel
theorem dX10_findFault_20 : decode cX10_findFault 20 = .ok (.putfield 42, 3) := by decide +kernel
theorem dX10_findFault_23 : decode cX10_findFault 23 = .ok (.iload_n 1, 1) := by decide +kernel
theorem dX10_findFault_24 : decode cX10_findFault 24 = .ok (.ireturn, 1) := by decide +kernel
theorem dX10_findFault_25 : decode cX10_findFault 25 = .ok (.aload_n 0, 1) := by decide +kernel
theorem dX10_findFault_26 : decode cX10_findFault 26 = .ok (.getfield 16, 3) := by decide +kernel
theorem dX10_findFault_29 : decode cX10_findFault 29 = .ok (.aload_n 0, 1) := by decide +kernel
theorem dX10_findFault_30 : decode cX10_findFault 30 = .ok (.getfield 22, 3) := by decide +kernel
theorem dX10_findFault_33 : decode cX10_findFault 33 = .ok (.invokevirtual 154, 3) := by decide +kernel
theorem dX10_findFault_36 : decode cX10_findFault 36 = .ok (.aload_n 0, 1) := by decide +kernel
theorem dX10_findFault_37 : decode cX10_findFault 37 = .ok (.getfield 16, 3) := by decide +kernel
theorem dX10_findFault_40 : decode cX10_findFault 40 = .ok (.invokevirtual 158, 3) := by decide +kernel
theorem dX10_findFault_43 : decode cX10_findFault 43 = .ok (.ifCond .ne 17, 3) := by decide +kernel
theorem dX10_findFault_46 : decode cX10_findFault 46 = .ok (.aload_n 0, 1) := by decide +kernel
theorem dX10_findFault_47 : decode cX10_findFault 47 = .ok (.aload_n 0, 1) := by decide +kernel
theorem dX10_findFault_48 : decode cX10_findFault 48 = .ok (.getfield 22, 3) := by decide +kernel
theorem dX10_findFault_51 : decode cX10_findFault 51 = .ok (.invokevirtual 162, 3) := by decide +kernel
theorem dX10_findFault_54 : decode cX10_findFault 54 = .ok (.putfield 42, 3) := by decide +kernel
theorem dX10_findFault_57 : decode cX10_findFault 57 = .ok (.bipush (-13), 2) := by decide +kernel
theorem dX10_findFault_59 : decode cX10_findFault 59 = .ok (.ireturn, 1) := by decide +kernel
theorem dX10_findFault_60 : decode cX10_findFault 60 = .ok (.aload_n 0, 1) := by decide +kernel
theorem dX10_findFault_61 : decode cX10_findFault 61 = .ok (.getfield 16, 3) := by decide +kernel
theorem dX10_findFault_64 : decode cX10_findFault 64 = .ok (.invokevirtual 165, 3) := by decide +kernel
theorem dX10_findFault_67 : decode cX10_findFault 67 = .ok (.istore_n 2, 1) := by decide +kernel
theorem dX10_findFault_68 : decode cX10_findFault 68 = .ok (.iload_n 2, 1) := by decide +kernel
theorem dX10_findFault_69 : decode cX10_findFault 69 = .ok (.iconst (-1), 1) := by decide +kernel
theorem dX10_findFault_70 : decode cX10_findFault 70 = .ok (.if_icmp .eq 18, 3) := by decide +kernel
theorem dX10_findFault_73 : decode cX10_findFault 73 = .ok (.aload_n 0, 1) := by decide +kernel
theorem dX10_findFault_74 : decode cX10_findFault 74 = .ok (.aload_n 0, 1) := by decide +kernel
theorem dX10_findFault_75 : decode cX10_findFault 75 = .ok (.getfield 16, 3) := by decide +kernel
theorem dX10_findFault_78 : decode cX10_findFault 78 = .ok (.iload_n 2, 1) := by decide +kernel
theorem dX10_findFault_79 : decode cX10_findFault 79 = .ok (.invokevirtual 168, 3) := by decide +kernel
theorem dX10_findFault_82 : decode cX10_findFault 82 = .ok (.putfield 42, 3) := by decide +kernel
theorem dX10_findFault_85 : decode cX10_findFault 85 = .ok (.bipush (-14), 2) := by decide +kernel
theorem dX10_findFault_87 : decode cX10_findFault 87 = .ok (.ireturn, 1) := by decide +kernel
theorem dX10_findFault_88 : decode cX10_findFault 88 = .ok (.aload_n 0, 1) := by decide +kernel
theorem dX10_findFault_89 : decode cX10_findFault 89 = .ok (.iconst (-1), 1) := by decide +kernel
theorem dX10_findFault_90 : decode cX10_findFault 90 = .ok (.putfield 42, 3) := by decide +kernel
theorem dX10_findFault_93 : decode cX10_findFault 93 = .ok (.iconst 0, 1) := by decide +kernel
theorem dX10_findFault_94 : decode cX10_findFault 94 = .ok (.ireturn, 1) := by decide +kernel
theorem dX10_areShelves_0 : decode cX10_areShelves 0 = .ok (.aload_n 0, 1) := by decide +kernel
theorem dX10_areShelves_1 : decode cX10_areShelves 1 = .ok (.getfield 12, 3) := by decide +kernel
theorem dX10_areShelves_4 : decode cX10_areShelves 4 = .ok (.iload_n 1, 1) := by decide +kernel
theorem dX10_areShelves_5 : decode cX10_areShelves 5 = .ok (.invokevirtual 67, 3) := by decide +kernel
theorem dX10_areShelves_8 : decode cX10_areShelves 8 = .ok (.iconst 2, 1) := by decide +kernel
theorem dX10_areShelves_9 : decode cX10_areShelves 9 = .ok (.if_icmp .eq 5, 3) := by decide +kernel
theorem dX10_areShelves_12 : decode cX10_areShelves 12 = .ok (.iconst 0, 1) := by decide +kernel
theorem dX10_areShelves_13 : decode cX10_areShelves 13 = .ok (.ireturn, 1) := by decide +kernel
theorem dX10_areShelves_14 : decode cX10_areShelves 14 = .ok (.iload_n 2, 1) := by decide +kernel
theorem dX10_areShelves_15 : decode cX10_areShelves 15 = .ok (.iconst (-1), 1) := by decide +kernel
theorem dX10_areShelves_16 : decode cX10_areShelves 16 = .ok (.if_icmp .ne 14, 3) := by decide +kernel
theorem dX10_areShelves_19 : decode cX10_areShelves 19 = .ok (.iload_n 3, 1) := by decide +kernel
theorem dX10_areShelves_20 : decode cX10_areShelves 20 = .ok (.iconst (-1), 1) := by decide +kernel
theorem dX10_areShelves_21 : decode cX10_areShelves 21 = .ok (.if_icmp .ne 7, 3) := by decide +kernel
theorem dX10_areShelves_24 : decode cX10_areShelves 24 = .ok (.iconst 1, 1) := by decide +kernel
theorem dX10_areShelves_25 : decode cX10_areShelves 25 = .ok (.goto 4, 3) := by decide +kernel
theorem dX10_areShelves_28 : decode cX10_areShelves 28 = .ok (.iconst 0, 1) := by decide +kernel
theorem dX10_areShelves_29 : decode cX10_areShelves 29 = .ok (.ireturn, 1) := by decide +kernel
theorem dX10_areShelves_30 : decode cX10_areShelves 30 = .ok (.aload_n 0, 1) := by decide +kernel
theorem dX10_areShelves_31 : decode cX10_areShelves 31 = .ok (.getfield 12, 3) := by decide +kernel
theorem dX10_areShelves_34 : decode cX10_areShelves 34 = .ok (.iload_n 2, 1) := by decide +kernel
theorem dX10_areShelves_35 : decode cX10_areShelves 35 = .ok (.invokevirtual 67, 3) := by decide +kernel
theorem dX10_areShelves_38 : decode cX10_areShelves 38 = .ok (.iconst 2, 1) := by decide +kernel
theorem dX10_areShelves_39 : decode cX10_areShelves 39 = .ok (.if_icmp .ne 24, 3) := by decide +kernel
theorem dX10_areShelves_42 : decode cX10_areShelves 42 = .ok (.iload_n 3, 1) := by decide +kernel
theorem dX10_areShelves_43 : decode cX10_areShelves 43 = .ok (.iconst (-1), 1) := by decide +kernel
theorem dX10_areShelves_44 : decode cX10_areShelves 44 = .ok (.if_icmp .eq 15, 3) := by decide +kernel
theorem dX10_areShelves_47 : decode cX10_areShelves 47 = .ok (.aload_n 0, 1) := by decide +kernel
theorem dX10_areShelves_48 : decode cX10_areShelves 48 = .ok (.getfield 12, 3) := by decide +kernel
theorem dX10_areShelves_51 : decode cX10_areShelves 51 = .ok (.iload_n 3, 1) := by decide +kernel
theorem dX10_areShelves_52 : decode cX10_areShelves 52 = .ok (.invokevirtual 67, 3) := by decide +kernel
theorem dX10_areShelves_55 : decode cX10_areShelves 55 = .ok (.iconst 2, 1) := by decide +kernel
theorem dX10_areShelves_56 : decode cX10_areShelves 56 = .ok (.if_icmp .ne 7, 3) := by decide +kernel
theorem dX10_areShelves_59 : decode cX10_areShelves 59 = .ok (.iconst 1, 1) := by decide +kernel
theorem dX10_areShelves_60 : decode cX10_areShelves 60 = .ok (.goto 4, 3) := by decide +kernel
theorem dX10_areShelves_63 : decode cX10_areShelves 63 = .ok (.iconst 0, 1) := by decide +kernel
theorem dX10_areShelves_64 : decode cX10_areShelves 64 = .ok (.ireturn, 1) := by decide +kernel
theorem dX10_refusalOfTicks_0 : decode cX10_refusalOfTicks 0 = .ok (.aload_n 0, 1) := by decide +kernel
theorem dX10_refusalOfTicks_1 : decode cX10_refusalOfTicks 1 = .ok (.getfield 38, 3) := by decide +kernel
theorem dX10_refusalOfTicks_4 : decode cX10_refusalOfTicks 4 = .ok (.invokevirtual 131, 3) := by decide +kernel
theorem dX10_refusalOfTicks_7 : decode cX10_refusalOfTicks 7 = .ok (.ifCond .ne 6, 3) := by decide +kernel
theorem dX10_refusalOfTicks_10 : decode cX10_refusalOfTicks 10 = .ok (.bipush (-4), 2) := by decide +kernel
theorem dX10_refusalOfTicks_12 : decode cX10_refusalOfTicks 12 = .ok (.ireturn, 1) := by decide +kernel
theorem dX10_refusalOfTicks_13 : decode cX10_refusalOfTicks 13 = .ok (.iload_n 1, 1) := by decide +kernel
theorem dX10_refusalOfTicks_14 : decode cX10_refusalOfTicks 14 = .ok (.iconst 1, 1) := by decide +kernel
theorem dX10_refusalOfTicks_15 : decode cX10_refusalOfTicks 15 = .ok (.if_icmp .lt 10, 3) := by decide +kernel
theorem dX10_refusalOfTicks_18 : decode cX10_refusalOfTicks 18 = .ok (.iload_n 1, 1) := by decide +kernel
theorem dX10_refusalOfTicks_19 : decode cX10_refusalOfTicks 19 = .ok (.sipush 200, 3) := by decide +kernel
theorem dX10_refusalOfTicks_22 : decode cX10_refusalOfTicks 22 = .ok (.if_icmp .le 6, 3) := by decide +kernel
theorem dX10_refusalOfTicks_25 : decode cX10_refusalOfTicks 25 = .ok (.bipush (-2), 2) := by decide +kernel
theorem dX10_refusalOfTicks_27 : decode cX10_refusalOfTicks 27 = .ok (.ireturn, 1) := by decide +kernel
theorem dX10_refusalOfTicks_28 : decode cX10_refusalOfTicks 28 = .ok (.aload_n 0, 1) := by decide +kernel
theorem dX10_refusalOfTicks_29 : decode cX10_refusalOfTicks 29 = .ok (.getfield 38, 3) := by decide +kernel
theorem dX10_refusalOfTicks_32 : decode cX10_refusalOfTicks 32 = .ok (.invokevirtual 82, 3) := by decide +kernel
theorem dX10_refusalOfTicks_35 : decode cX10_refusalOfTicks 35 = .ok (.iload_n 1, 1) := by decide +kernel
theorem dX10_refusalOfTicks_36 : decode cX10_refusalOfTicks 36 = .ok (.iadd, 1) := by decide +kernel
theorem dX10_refusalOfTicks_37 : decode cX10_refusalOfTicks 37 = .ok (.sipush 4000, 3) := by decide +kernel
theorem dX10_refusalOfTicks_40 : decode cX10_refusalOfTicks 40 = .ok (.if_icmp .le 8, 3) := by decide +kernel
theorem dX10_refusalOfTicks_43 : decode cX10_refusalOfTicks 43 = .ok (.bipush (-3), 2) := by decide +kernel
theorem dX10_refusalOfTicks_45 : decode cX10_refusalOfTicks 45 = .ok (.goto 4, 3) := by decide +kernel
theorem dX10_refusalOfTicks_48 : decode cX10_refusalOfTicks 48 = .ok (.iconst 0, 1) := by decide +kernel
theorem dX10_refusalOfTicks_49 : decode cX10_refusalOfTicks 49 = .ok (.ireturn, 1) := by decide +kernel
