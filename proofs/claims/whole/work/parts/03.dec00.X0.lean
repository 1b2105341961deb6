theorem dX0_init_0 : decode cX0_init 0 = .ok (.aload_n 0, 1) := by decide +kernel
theorem dX0_init_1 : decode cX0_init 1 = .ok (.invokespecial 3, 3) := by decide +kernel
theorem dX0_init_4 : decode cX0_init 4 = .ok (.aload_n 0, 1) := by decide +kernel
theorem dX0_init_5 : decode cX0_init 5 = .ok (.bipush 6, 2) := by decide +kernel
theorem dX0_init_7 : decode cX0_init 7 = .ok (.anewarray 9, 3) := by decide +kernel
theorem dX0_init_10 : decode cX0_init 10 = .ok (.putfield 11, 3) := by decide +kernel
theorem dX0_init_13 : decode cX0_init 13 = .ok (.aload_n 0, 1) := by decide +kernel
theorem dX0_init_14 : decode cX0_init 14 = .ok (.new 17, 3) := by decide +kernel
theorem dX0_init_17 : decode cX0_init 17 = .ok (.dup, 1) := by decide +kernel
theorem dX0_init_18 : decode cX0_init 18 = .ok (.invokespecial 19, 3) := by decide +kernel
theorem dX0_init_21 : decode cX0_init 21 = .ok (.putfield 20, 3) := by decide +kernel
theorem dX0_init_24 : decode cX0_init 24 = .ok (.aload_n 0, 1) := by decide +kernel
theorem dX0_init_25 : decode cX0_init 25 = .ok (.new 24, 3) := by decide +kernel
theorem dX0_init_28 : decode cX0_init 28 = .ok (.dup, 1) := by decide +kernel
theorem dX0_init_29 : decode cX0_init 29 = .ok (.invokespecial 26, 3) := by decide +kernel
theorem dX0_init_32 : decode cX0_init 32 = .ok (.putfield 27, 3) := by decide +kernel
theorem dX0_init_35 : decode cX0_init 35 = .ok (.aload_n 0, 1) := by decide +kernel
theorem dX0_init_36 : decode cX0_init 36 = .ok (.aload_n 1, 1) := by decide +kernel
theorem dX0_init_37 : decode cX0_init 37 = .ok (.putfield 31, 3) := by decide +kernel
theorem dX0_init_40 : decode cX0_init 40 = .ok (.aload_n 0, 1) := by decide +kernel
theorem dX0_init_41 : decode cX0_init 41 = .ok (.aload_n 2, 1) := by decide +kernel
theorem dX0_init_42 : decode cX0_init 42 = .ok (.putfield 35, 3) := by decide +kernel
theorem dX0_init_45 : decode cX0_init 45 = .ok (.aload_n 0, 1) := by decide +kernel
theorem dX0_init_46 : decode cX0_init 46 = .ok (.new 39, 3) := by decide +kernel
theorem dX0_init_49 : decode cX0_init 49 = .ok (.dup, 1) := by decide +kernel
theorem dX0_init_50 : decode cX0_init 50 = .ok (.aload_n 1, 1) := by decide +kernel
theorem dX0_init_51 : decode cX0_init 51 = .ok (.aload_n 0, 1) := by decide +kernel
theorem dX0_init_52 : decode cX0_init 52 = .ok (.getfield 20, 3) := by decide +kernel
theorem dX0_init_55 : decode cX0_init 55 = .ok (.invokespecial 41, 3) := by decide +kernel
theorem dX0_init_58 : decode cX0_init 58 = .ok (.putfield 44, 3) := by decide +kernel
theorem dX0_init_61 : decode cX0_init 61 = .ok (.iconst 0, 1) := by decide +kernel
theorem dX0_init_62 : decode cX0_init 62 = .ok (.istore_n 3, 1) := by decide +kernel
theorem dX0_init_63 : decode cX0_init 63 = .ok (.iload_n 3, 1) := by decide +kernel
theorem dX0_init_64 : decode cX0_init 64 = .ok (.bipush 6, 2) := by decide +kernel
theorem dX0_init_66 : decode cX0_init 66 = .ok (.if_icmp .ge 22, 3) := by decide +kernel
theorem dX0_init_69 : decode cX0_init 69 = .ok (.aload_n 0, 1) := by decide +kernel
theorem dX0_init_70 : decode cX0_init 70 = .ok (.getfield 11, 3) := by decide +kernel
theorem dX0_init_73 : decode cX0_init 73 = .ok (.iload_n 3, 1) := by decide +kernel
theorem dX0_init_74 : decode cX0_init 74 = .ok (.new 9, 3) := by decide +kernel
theorem dX0_init_77 : decode cX0_init 77 = .ok (.dup, 1) := by decide +kernel
theorem dX0_init_78 : decode cX0_init 78 = .ok (.invokespecial 48, 3) := by decide +kernel
theorem dX0_init_81 : decode cX0_init 81 = .ok (.aastore, 1) := by decide +kernel
theorem dX0_init_82 : decode cX0_init 82 = .ok (.iinc 3 1, 3) := by decide +kernel
theorem dX0_init_85 : decode cX0_init 85 = .ok (.goto (-22), 3) := by decide +kernel
theorem dX0_init_88 : decode cX0_init 88 = .ok (.return_, 1) := by decide +kernel
theorem dX0_size_0 : decode cX0_size 0 = .ok (.aload_n 0, 1) := by decide +kernel
theorem dX0_size_1 : decode cX0_size 1 = .ok (.getfield 49, 3) := by decide +kernel
theorem dX0_size_4 : decode cX0_size 4 = .ok (.ireturn, 1) := by decide +kernel
theorem dX0_now_0 : decode cX0_now 0 = .ok (.aload_n 0, 1) := by decide +kernel
theorem dX0_now_1 : decode cX0_now 1 = .ok (.getfield 53, 3) := by decide +kernel
theorem dX0_now_4 : decode cX0_now 4 = .ok (.ireturn, 1) := by decide +kernel
theorem dX0_ways_0 : decode cX0_ways 0 = .ok (.aload_n 0, 1) := by decide +kernel
theorem dX0_ways_1 : decode cX0_ways 1 = .ok (.getfield 56, 3) := by decide +kernel
theorem dX0_ways_4 : decode cX0_ways 4 = .ok (.ireturn, 1) := by decide +kernel
theorem dX0_longestWay_0 : decode cX0_longestWay 0 = .ok (.aload_n 0, 1) := by decide +kernel
theorem dX0_longestWay_1 : decode cX0_longestWay 1 = .ok (.getfield 59, 3) := by decide +kernel
theorem dX0_longestWay_4 : decode cX0_longestWay 4 = .ok (.ireturn, 1) := by decide +kernel
theorem dX0_alarms_0 : decode cX0_alarms 0 = .ok (.aload_n 0, 1) := by decide +kernel
theorem dX0_alarms_1 : decode cX0_alarms 1 = .ok (.getfield 27, 3) := by decide +kernel
theorem dX0_alarms_4 : decode cX0_alarms 4 = .ok (.invokevirtual 62, 3) := by decide +kernel
theorem dX0_alarms_7 : decode cX0_alarms 7 = .ok (.ireturn, 1) := by decide +kernel
theorem dX0_moves_0 : decode cX0_moves 0 = .ok (.iconst 0, 1) := by decide +kernel
theorem dX0_moves_1 : decode cX0_moves 1 = .ok (.istore_n 1, 1) := by decide +kernel
theorem dX0_moves_2 : decode cX0_moves 2 = .ok (.iconst 0, 1) := by decide +kernel
theorem dX0_moves_3 : decode cX0_moves 3 = .ok (.istore_n 2, 1) := by decide +kernel
theorem dX0_moves_4 : decode cX0_moves 4 = .ok (.iload_n 2, 1) := by decide +kernel
theorem dX0_moves_5 : decode cX0_moves 5 = .ok (.aload_n 0, 1) := by decide +kernel
theorem dX0_moves_6 : decode cX0_moves 6 = .ok (.getfield 49, 3) := by decide +kernel
theorem dX0_moves_9 : decode cX0_moves 9 = .ok (.if_icmp .ge 21, 3) := by decide +kernel
theorem dX0_moves_12 : decode cX0_moves 12 = .ok (.iload_n 1, 1) := by decide +kernel
theorem dX0_moves_13 : decode cX0_moves 13 = .ok (.aload_n 0, 1) := by decide +kernel
theorem dX0_moves_14 : decode cX0_moves 14 = .ok (.getfield 11, 3) := by decide +kernel
theorem dX0_moves_17 : decode cX0_moves 17 = .ok (.iload_n 2, 1) := by decide +kernel
theorem dX0_moves_18 : decode cX0_moves 18 = .ok (.aaload, 1) := by decide +kernel
theorem dX0_moves_19 : decode cX0_moves 19 = .ok (.getfield 66, 3) := by decide +kernel
theorem dX0_moves_22 : decode cX0_moves 22 = .ok (.iadd, 1) := by decide +kernel
theorem dX0_moves_23 : decode cX0_moves 23 = .ok (.istore_n 1, 1) := by decide +kernel
theorem dX0_moves_24 : decode cX0_moves 24 = .ok (.iinc 2 1, 3) := by decide +kernel
theorem dX0_moves_27 : decode cX0_moves 27 = .ok (.goto (-23), 3) := by decide +kernel
theorem dX0_moves_30 : decode cX0_moves 30 = .ok (.iload_n 1, 1) := by decide +kernel
theorem dX0_moves_31 : decode cX0_moves 31 = .ok (.ireturn, 1) := by decide +kernel
theorem dX0_begin_0 : decode cX0_begin 0 = .ok (.aload_n 0, 1) := by decide +kernel
theorem dX0_begin_1 : decode cX0_begin 1 = .ok (.aload_n 1, 1) := by decide +kernel
theorem dX0_begin_2 : decode cX0_begin 2 = .ok (.putfield 31, 3) := by decide +kernel
theorem dX0_begin_5 : decode cX0_begin 5 = .ok (.aload_n 0, 1) := by decide +kernel
theorem dX0_begin_6 : decode cX0_begin 6 = .ok (.getfield 44, 3) := by decide +kernel
theorem dX0_begin_9 : decode cX0_begin 9 = .ok (.aload_n 1, 1) := by decide +kernel
theorem dX0_begin_10 : decode cX0_begin 10 = .ok (.invokevirtual 69, 3) := by decide +kernel
theorem dX0_begin_13 : decode cX0_begin 13 = .ok (.aload_n 0, 1) := by decide +kernel
theorem dX0_begin_14 : decode cX0_begin 14 = .ok (.getfield 20, 3) := by decide +kernel
theorem dX0_begin_17 : decode cX0_begin 17 = .ok (.invokevirtual 73, 3) := by decide +kernel
theorem dX0_begin_20 : decode cX0_begin 20 = .ok (.aload_n 0, 1) := by decide +kernel
theorem dX0_begin_21 : decode cX0_begin 21 = .ok (.getfield 27, 3) := by decide +kernel
theorem dX0_begin_24 : decode cX0_begin 24 = .ok (.invokevirtual 76, 3) := by decide +kernel
theorem dX0_begin_27 : decode cX0_begin 27 = .ok (.aload_n 0, 1) := by decide +kernel
theorem dX0_begin_28 : decode cX0_begin 28 = .ok (.iconst 0, 1) := by decide +kernel
theorem dX0_begin_29 : decode cX0_begin 29 = .ok (.putfield 49, 3) := by decide +kernel
theorem dX0_begin_32 : decode cX0_begin 32 = .ok (.aload_n 0, 1) := by decide +kernel
theorem dX0_begin_33 : decode cX0_begin 33 = .ok (.iconst 0, 1) := by decide +kernel
theorem dX0_begin_34 : decode cX0_begin 34 = .ok (.putfield 53, 3) := by decide +kernel
theorem dX0_begin_37 : decode cX0_begin 37 = .ok (.aload_n 0, 1) := by decide +kernel
theorem dX0_begin_38 : decode cX0_begin 38 = .ok (.iconst 0, 1) := by decide +kernel
theorem dX0_begin_39 : decode cX0_begin 39 = .ok (.putfield 56, 3) := by decide +kernel
theorem dX0_begin_42 : decode cX0_begin 42 = .ok (.aload_n 0, 1) := by decide +kernel
theorem dX0_begin_43 : decode cX0_begin 43 = .ok (.iconst 0, 1) := by decide +kernel
theorem dX0_begin_44 : decode cX0_begin 44 = .ok (.putfield 59, 3) := by decide +kernel
theorem dX0_begin_47 : decode cX0_begin 47 = .ok (.return_, 1) := by decide +kernel
theorem dX0_put_0 : decode cX0_put 0 = .ok (.aload_n 0, 1) := by decide +kernel
theorem dX0_put_1 : decode cX0_put 1 = .ok (.getfield 49, 3) := by decide +kernel
theorem dX0_put_4 : decode cX0_put 4 = .ok (.bipush 6, 2) := by decide +kernel
theorem dX0_put_6 : decode cX0_put 6 = .ok (.if_icmp .ne 6, 3) := by decide +kernel
theorem dX0_put_9 : decode cX0_put 9 = .ok (.bipush (-3), 2) := by decide +kernel
theorem dX0_put_11 : decode cX0_put 11 = .ok (.ireturn, 1) := by decide +kernel
theorem dX0_put_12 : decode cX0_put 12 = .ok (.aload_n 0, 1) := by decide +kernel
theorem dX0_put_13 : decode cX0_put 13 = .ok (.getfield 20, 3) := by decide +kernel
theorem dX0_put_16 : decode cX0_put 16 = .ok (.iload_n 1, 1) := by decide +kernel
theorem dX0_put_17 : decode cX0_put 17 = .ok (.invokevirtual 77, 3) := by decide +kernel
theorem dX0_put_20 : decode cX0_put 20 = .ok (.iconst (-1), 1) := by decide +kernel
theorem dX0_put_21 : decode cX0_put 21 = .ok (.if_icmp .eq 5, 3) := by decide +kernel
theorem dX0_put_24 : decode cX0_put 24 = .ok (.iconst (-1), 1) := by decide +kernel
theorem dX0_put_25 : decode cX0_put 25 = .ok (.ireturn, 1) := by decide +kernel
theorem dX0_put_26 : decode cX0_put 26 = .ok (.aload_n 0, 1) := by decide +kernel
theorem dX0_put_27 : decode cX0_put 27 = .ok (.getfield 11, 3) := by decide +kernel
theorem dX0_put_30 : decode cX0_put 30 = .ok (.aload_n 0, 1) := by decide +kernel
theorem dX0_put_31 : decode cX0_put 31 = .ok (.getfield 49, 3) := by decide +kernel
theorem dX0_put_34 : decode cX0_put 34 = .ok (.aaload, 1) := by decide +kernel
theorem dX0_put_35 : decode cX0_put 35 = .ok (.invokevirtual 81, 3) := by decide +kernel
theorem dX0_put_38 : decode cX0_put 38 = .ok (.aload_n 0, 1) := by decide +kernel
theorem dX0_put_39 : decode cX0_put 39 = .ok (.getfield 20, 3) := by decide +kernel
theorem dX0_put_42 : decode cX0_put 42 = .ok (.iload_n 1, 1) := by decide +kernel
theorem dX0_put_43 : decode cX0_put 43 = .ok (.invokevirtual 83, 3) := by decide +kernel
theorem dX0_put_46 : decode cX0_put 46 = .ok (.aload_n 0, 1) := by decide +kernel
theorem dX0_put_47 : decode cX0_put 47 = .ok (.dup, 1) := by decide +kernel
theorem dX0_put_48 : decode cX0_put 48 = .ok (.getfield 49, 3) := by decide +kernel
theorem dX0_put_51 : decode cX0_put 51 = .ok (.iconst 1, 1) := by decide +kernel
theorem dX0_put_52 : decode cX0_put 52 = .ok (.iadd, 1) := by decide +kernel
theorem dX0_put_53 : decode cX0_put 53 = .ok (.putfield 49, 3) := by decide +kernel
theorem dX0_put_56 : decode cX0_put 56 = .ok (.aload_n 0, 1) := by decide +kernel
theorem dX0_put_57 : decode cX0_put 57 = .ok (.getfield 49, 3) := by decide +kernel
theorem dX0_put_60 : decode cX0_put 60 = .ok (.iconst 1, 1) := by decide +kernel
theorem dX0_put_61 : decode cX0_put 61 = .ok (.isub, 1) := by decide +kernel
theorem dX0_put_62 : decode cX0_put 62 = .ok (.ireturn, 1) := by decide +kernel
theorem dX0_step_0 : decode cX0_step 0 = .ok (.iconst 0, 1) := by decide +kernel
theorem dX0_step_1 : decode cX0_step 1 = .ok (.istore_n 1, 1) := by decide +kernel
theorem dX0_step_2 : decode cX0_step 2 = .ok (.iload_n 1, 1) := by decide +kernel
theorem dX0_step_3 : decode cX0_step 3 = .ok (.aload_n 0, 1) := by decide +kernel
theorem dX0_step_4 : decode cX0_step 4 = .ok (.getfield 49, 3) := by decide +kernel
theorem dX0_step_7 : decode cX0_step 7 = .ok (.if_icmp .ge 39, 3) := by decide +kernel
theorem dX0_step_10 : decode cX0_step 10 = .ok (.aload_n 0, 1) := by decide +kernel
theorem dX0_step_11 : decode cX0_step 11 = .ok (.getfield 35, 3) := by decide +kernel
theorem dX0_step_14 : decode cX0_step 14 = .ok (.invokevirtual 87, 3) := by decide +kernel
theorem dX0_step_17 : decode cX0_step 17 = .ok (.ifCond .le 23, 3) := by decide +kernel
theorem dX0_step_20 : decode cX0_step 20 = .ok (.aload_n 0, 1) := by decide +kernel
theorem dX0_step_21 : decode cX0_step 21 = .ok (.getfield 20, 3) := by decide +kernel
theorem dX0_step_24 : decode cX0_step 24 = .ok (.iload_n 1, 1) := by decide +kernel
theorem dX0_step_25 : decode cX0_step 25 = .ok (.invokevirtual 92, 3) := by decide +kernel
theorem dX0_step_28 : decode cX0_step 28 = .ok (.aload_n 0, 1) := by decide +kernel
theorem dX0_step_29 : decode cX0_step 29 = .ok (.getfield 53, 3) := by decide +kernel
theorem dX0_step_32 : decode cX0_step 32 = .ok (.if_icmp .gt 8, 3) := by decide +kernel
theorem dX0_step_35 : decode cX0_step 35 = .ok (.aload_n 0, 1) := by decide +kernel
theorem dX0_step_36 : decode cX0_step 36 = .ok (.iload_n 1, 1) := by decide +kernel
theorem dX0_step_37 : decode cX0_step 37 = .ok (.invokevirtual 95, 3) := by decide +kernel
theorem dX0_step_40 : decode cX0_step 40 = .ok (.iinc 1 1, 3) := by decide +kernel
theorem dX0_step_43 : decode cX0_step 43 = .ok (.goto (-41), 3) := by decide +kernel
theorem dX0_step_46 : decode cX0_step 46 = .ok (.aload_n 0, 1) := by decide +kernel
theorem dX0_step_47 : decode cX0_step 47 = .ok (.dup, 1) := by decide +kernel
theorem dX0_step_48 : decode cX0_step 48 = .ok (.getfield 53, 3) := by decide +kernel
theorem dX0_step_51 : decode cX0_step 51 = .ok (.iconst 1, 1) := by decide +kernel
theorem dX0_step_52 : decode cX0_step 52 = .ok (.iadd, 1) := by decide +kernel
theorem dX0_step_53 : decode cX0_step 53 = .ok (.putfield 53, 3) := by decide +kernel
theorem dX0_step_56 : decode cX0_step 56 = .ok (.iconst 0, 1) := by decide +kernel
theorem dX0_step_57 : decode cX0_step 57 = .ok (.istore_n 1, 1) := by decide +kernel
theorem dX0_step_58 : decode cX0_step 58 = .ok (.iload_n 1, 1) := by decide +kernel
theorem dX0_step_59 : decode cX0_step 59 = .ok (.aload_n 0, 1) := by decide +kernel
theorem dX0_step_60 : decode cX0_step 60 = .ok (.getfield 49, 3) := by decide +kernel
theorem dX0_step_63 : decode cX0_step 63 = .ok (.if_icmp .ge 14, 3) := by decide +kernel
theorem dX0_step_66 : decode cX0_step 66 = .ok (.aload_n 0, 1) := by decide +kernel
theorem dX0_step_67 : decode cX0_step 67 = .ok (.iload_n 1, 1) := by decide +kernel
theorem dX0_step_68 : decode cX0_step 68 = .ok (.invokevirtual 98, 3) := by decide +kernel
theorem dX0_step_71 : decode cX0_step 71 = .ok (.iinc 1 1, 3) := by decide +kernel
theorem dX0_step_74 : decode cX0_step 74 = .ok (.goto (-16), 3) := by decide +kernel
theorem dX0_step_77 : decode cX0_step 77 = .ok (.aload_n 0, 1) := by decide +kernel
theorem dX0_step_78 : decode cX0_step 78 = .ok (.getfield 27, 3) := by decide +kernel
theorem dX0_step_81 : decode cX0_step 81 = .ok (.aload_n 0, 1) := by decide +kernel
theorem dX0_step_82 : decode cX0_step 82 = .ok (.getfield 31, 3) := by decide +kernel
theorem dX0_step_85 : decode cX0_step 85 = .ok (.aload_n 0, 1) := by decide +kernel
theorem dX0_step_86 : decode cX0_step 86 = .ok (.getfield 20, 3) := by decide +kernel
theorem dX0_step_89 : decode cX0_step 89 = .ok (.aload_n 0, 1) := by decide +kernel
theorem dX0_step_90 : decode cX0_step 90 = .ok (.getfield 53, 3) := by decide +kernel
theorem dX0_step_93 : decode cX0_step 93 = .ok (.invokevirtual 101, 3) := by decide +kernel
theorem dX0_step_96 : decode cX0_step 96 = .ok (.return_, 1) := by decide +kernel
theorem dX0_lookForWork_0 : decode cX0_lookForWork 0 = .ok (.aload_n 0, 1) := by decide +kernel
theorem dX0_lookForWork_1 : decode cX0_lookForWork 1 = .ok (.getfield 20, 3) := by decide +kernel
theorem dX0_lookForWork_4 : decode cX0_lookForWork 4 = .ok (.iload_n 1, 1) := by decide +kernel
theorem dX0_lookForWork_5 : decode cX0_lookForWork 5 = .ok (.aload_n 0, 1) := by decide +kernel
theorem dX0_lookForWork_6 : decode cX0_lookForWork 6 = .ok (.getfield 53, 3) := by decide +kernel
theorem dX0_lookForWork_9 : decode cX0_lookForWork 9 = .ok (.invokevirtual 105, 3) := by decide +kernel
theorem dX0_lookForWork_12 : decode cX0_lookForWork 12 = .ok (.istore_n 2, 1) := by decide +kernel
theorem dX0_lookForWork_13 : decode cX0_lookForWork 13 = .ok (.aload_n 0, 1) := by decide +kernel
theorem dX0_lookForWork_14 : decode cX0_lookForWork 14 = .ok (.iload_n 1, 1) := by decide +kernel
theorem dX0_lookForWork_15 : decode cX0_lookForWork 15 = .ok (.iload_n 2, 1) := by decide +kernel
theorem dX0_lookForWork_16 : decode cX0_lookForWork 16 = .ok (.invokevirtual 109, 3) := by decide +kernel
theorem dX0_lookForWork_19 : decode cX0_lookForWork 19 = .ok (.istore_n 3, 1) := by decide +kernel
theorem dX0_lookForWork_20 : decode cX0_lookForWork 20 = .ok (.iload_n 3, 1) := by decide +kernel
theorem dX0_lookForWork_21 : decode cX0_lookForWork 21 = .ok (.iconst (-1), 1) := by decide +kernel
theorem dX0_lookForWork_22 : decode cX0_lookForWork 22 = .ok (.if_icmp .eq 52, 3) := by decide +kernel
theorem dX0_lookForWork_25 : decode cX0_lookForWork 25 = .ok (.aload_n 0, 1) := by decide +kernel
theorem dX0_lookForWork_26 : decode cX0_lookForWork 26 = .ok (.getfield 35, 3) := by decide +kernel
theorem dX0_lookForWork_29 : decode cX0_lookForWork 29 = .ok (.iload_n 3, 1) := by decide +kernel
theorem dX0_lookForWork_30 : decode cX0_lookForWork 30 = .ok (.invokevirtual 112, 3) := by decide +kernel
theorem dX0_lookForWork_33 : decode cX0_lookForWork 33 = .ok (.astore 4, 2) := by decide +kernel
theorem dX0_lookForWork_35 : decode cX0_lookForWork 35 = .ok (.aload_n 0, 1) := by decide +kernel
theorem dX0_lookForWork_36 : decode cX0_lookForWork 36 = .ok (.aload_n 0, 1) := by decide +kernel
theorem dX0_lookForWork_37 : decode cX0_lookForWork 37 = .ok (.getfield 44, 3) := by decide +kernel
theorem dX0_lookForWork_40 : decode cX0_lookForWork 40 = .ok (.iload_n 1, 1) := by decide +kernel
theorem dX0_lookForWork_41 : decode cX0_lookForWork 41 = .ok (.aload_n 0, 1) := by decide +kernel
theorem dX0_lookForWork_42 : decode cX0_lookForWork 42 = .ok (.getfield 53, 3) := by decide +kernel
theorem dX0_lookForWork_45 : decode cX0_lookForWork 45 = .ok (.aload 4, 2) := by decide +kernel
theorem dX0_lookForWork_47 : decode cX0_lookForWork 47 = .ok (.getfield 116, 3) := by decide +kernel
theorem dX0_lookForWork_50 : decode cX0_lookForWork 50 = .ok (.aload 4, 2) := by decide +kernel
theorem dX0_lookForWork_52 : decode cX0_lookForWork 52 = .ok (.getfield 121, 3) := by decide +kernel
theorem dX0_lookForWork_55 : decode cX0_lookForWork 55 = .ok (.invokevirtual 124, 3) := by decide +kernel
theorem dX0_lookForWork_58 : decode cX0_lookForWork 58 = .ok (.invokevirtual 128, 3) := by decide +kernel
theorem dX0_lookForWork_61 : decode cX0_lookForWork 61 = .ok (.ifCond .eq 10, 3) := by decide +kernel
theorem dX0_lookForWork_64 : decode cX0_lookForWork 64 = .ok (.aload_n 0, 1) := by decide +kernel
theorem dX0_lookForWork_65 : decode cX0_lookForWork 65 = .ok (.iload_n 1, 1) := by decide +kernel
theorem dX0_lookForWork_66 : decode cX0_lookForWork 66 = .ok (.iload_n 2, 1) := by decide +kernel
theorem dX0_lookForWork_67 : decode cX0_lookForWork 67 = .ok (.iload_n 3, 1) := by decide +kernel
theorem dX0_lookForWork_68 : decode cX0_lookForWork 68 = .ok (.invokevirtual 132, 3) := by decide +kernel
theorem dX0_lookForWork_71 : decode cX0_lookForWork 71 = .ok (.goto 65, 3) := by decide +kernel
theorem dX0_lookForWork_74 : decode cX0_lookForWork 74 = .ok (.aload_n 0, 1) := by decide +kernel
theorem dX0_lookForWork_75 : decode cX0_lookForWork 75 = .ok (.getfield 35, 3) := by decide +kernel
theorem dX0_lookForWork_78 : decode cX0_lookForWork 78 = .ok (.iload_n 2, 1) := by decide +kernel
theorem dX0_lookForWork_79 : decode cX0_lookForWork 79 = .ok (.invokevirtual 136, 3) := by decide +kernel
theorem dX0_lookForWork_82 : decode cX0_lookForWork 82 = .ok (.ifCond .eq 54, 3) := by decide +kernel
theorem dX0_lookForWork_85 : decode cX0_lookForWork 85 = .ok (.aload_n 0, 1) := by decide +kernel
theorem dX0_lookForWork_86 : decode cX0_lookForWork 86 = .ok (.iload_n 1, 1) := by decide +kernel
theorem dX0_lookForWork_87 : decode cX0_lookForWork 87 = .ok (.iload_n 2, 1) := by decide +kernel
theorem dX0_lookForWork_88 : decode cX0_lookForWork 88 = .ok (.invokevirtual 139, 3) := by decide +kernel
theorem dX0_lookForWork_91 : decode cX0_lookForWork 91 = .ok (.istore 4, 2) := by decide +kernel
theorem dX0_lookForWork_93 : decode cX0_lookForWork 93 = .ok (.iload 4, 2) := by decide +kernel
theorem dX0_lookForWork_95 : decode cX0_lookForWork 95 = .ok (.iconst (-1), 1) := by decide +kernel
theorem dX0_lookForWork_96 : decode cX0_lookForWork 96 = .ok (.if_icmp .eq 40, 3) := by decide +kernel
theorem dX0_lookForWork_99 : decode cX0_lookForWork 99 = .ok (.aload_n 0, 1) := by decide +kernel
theorem dX0_lookForWork_100 : decode cX0_lookForWork 100 = .ok (.aload_n 0, 1) := by decide +kernel
theorem dX0_lookForWork_101 : decode cX0_lookForWork 101 = .ok (.getfield 44, 3) := by decide +kernel
theorem dX0_lookForWork_104 : decode cX0_lookForWork 104 = .ok (.iload_n 1, 1) := by decide +kernel
theorem dX0_lookForWork_105 : decode cX0_lookForWork 105 = .ok (.aload_n 0, 1) := by decide +kernel
theorem dX0_lookForWork_106 : decode cX0_lookForWork 106 = .ok (.getfield 53, 3) := by decide +kernel
theorem dX0_lookForWork_109 : decode cX0_lookForWork 109 = .ok (.iconst (-1), 1) := by decide +kernel
theorem dX0_lookForWork_110 : decode cX0_lookForWork 110 = .ok (.iload 4, 2) := by decide +kernel
theorem dX0_lookForWork_112 : decode cX0_lookForWork 112 = .ok (.invokevirtual 124, 3) := by decide +kernel
theorem dX0_lookForWork_115 : decode cX0_lookForWork 115 = .ok (.invokevirtual 128, 3) := by decide +kernel
theorem dX0_lookForWork_118 : decode cX0_lookForWork 118 = .ok (.ifCond .eq 18, 3) := by decide +kernel
theorem dX0_lookForWork_121 : decode cX0_lookForWork 121 = .ok (.aload_n 0, 1) := by decide +kernel
theorem dX0_lookForWork_122 : decode cX0_lookForWork 122 = .ok (.getfield 11, 3) := by decide +kernel
theorem dX0_lookForWork_125 : decode cX0_lookForWork 125 = .ok (.iload_n 1, 1) := by decide +kernel
theorem dX0_lookForWork_126 : decode cX0_lookForWork 126 = .ok (.aaload, 1) := by decide +kernel
theorem dX0_lookForWork_127 : decode cX0_lookForWork 127 = .ok (.dup, 1) := by decide +kernel
theorem dX0_lookForWork_128 : decode cX0_lookForWork 128 = .ok (.getfield 142, 3) := by decide +kernel
theorem dX0_lookForWork_131 : decode cX0_lookForWork 131 = .ok (.iconst 1, 1) := by decide +kernel
theorem dX0_lookForWork_132 : decode cX0_lookForWork 132 = .ok (.iadd, 1) := by decide +kernel
theorem dX0_lookForWork_133 : decode cX0_lookForWork 133 = .ok (.putfield 142, 3) := by decide +kernel
theorem dX0_lookForWork_136 : decode cX0_lookForWork 136 = .ok (.return_, 1) := by decide +kernel
theorem dX0_nearestFit_0 : decode cX0_nearestFit 0 = .ok (.iconst (-1), 1) := by decide +kernel
theorem dX0_nearestFit_1 : decode cX0_nearestFit 1 = .ok (.istore_n 3, 1) := by decide +kernel
theorem dX0_nearestFit_2 : decode cX0_nearestFit 2 = .ok (.iconst 0, 1) := by decide +kernel
theorem dX0_nearestFit_3 : decode cX0_nearestFit 3 = .ok (.istore 4, 2) := by decide +kernel
theorem dX0_nearestFit_5 : decode cX0_nearestFit 5 = .ok (.iconst 0, 1) := by decide +kernel
theorem dX0_nearestFit_6 : decode cX0_nearestFit 6 = .ok (.istore 5, 2) := by decide +kernel
theorem dX0_nearestFit_8 : decode cX0_nearestFit 8 = .ok (.iload 5, 2) := by decide +kernel
theorem dX0_nearestFit_10 : decode cX0_nearestFit 10 = .ok (.aload_n 0, 1) := by decide +kernel
theorem dX0_nearestFit_11 : decode cX0_nearestFit 11 = .ok (.getfield 35, 3) := by decide +kernel
theorem dX0_nearestFit_14 : decode cX0_nearestFit 14 = .ok (.invokevirtual 145, 3) := by decide +kernel
theorem dX0_nearestFit_17 : decode cX0_nearestFit 17 = .ok (.if_icmp .ge 80, 3) := by decide +kernel
theorem dX0_nearestFit_20 : decode cX0_nearestFit 20 = .ok (.aload_n 0, 1) := by decide +kernel
theorem dX0_nearestFit_21 : decode cX0_nearestFit 21 = .ok (.aload_n 0, 1) := by decide +kernel
theorem dX0_nearestFit_22 : decode cX0_nearestFit 22 = .ok (.getfield 35, 3) := by decide +kernel
theorem dX0_nearestFit_25 : decode cX0_nearestFit 25 = .ok (.iload 5, 2) := by decide +kernel
theorem dX0_nearestFit_27 : decode cX0_nearestFit 27 = .ok (.invokevirtual 112, 3) := by decide +kernel
theorem dX0_nearestFit_30 : decode cX0_nearestFit 30 = .ok (.iload_n 1, 1) := by decide +kernel
theorem dX0_nearestFit_31 : decode cX0_nearestFit 31 = .ok (.invokevirtual 148, 3) := by decide +kernel
theorem dX0_nearestFit_34 : decode cX0_nearestFit 34 = .ok (.ifCond .eq 57, 3) := by decide +kernel
theorem dX0_nearestFit_37 : decode cX0_nearestFit 37 = .ok (.iload_n 3, 1) := by decide +kernel
theorem dX0_nearestFit_38 : decode cX0_nearestFit 38 = .ok (.iconst (-1), 1) := by decide +kernel
theorem dX0_nearestFit_39 : decode cX0_nearestFit 39 = .ok (.if_icmp .ne 12, 3) := by decide +kernel
theorem dX0_nearestFit_42 : decode cX0_nearestFit 42 = .ok (.aload_n 0, 1) := by decide +kernel
theorem dX0_nearestFit_43 : decode cX0_nearestFit 43 = .ok (.getfield 31, 3) := by decide +kernel
theorem dX0_nearestFit_46 : decode cX0_nearestFit 46 = .ok (.iload_n 2, 1) := by decide +kernel
theorem dX0_nearestFit_47 : decode cX0_nearestFit 47 = .ok (.iconst 1, 1) := by decide +kernel
theorem dX0_nearestFit_48 : decode cX0_nearestFit 48 = .ok (.invokevirtual 152, 3) := by decide +kernel
theorem dX0_nearestFit_51 : decode cX0_nearestFit 51 = .ok (.aload_n 0, 1) := by decide +kernel
theorem dX0_nearestFit_52 : decode cX0_nearestFit 52 = .ok (.getfield 31, 3) := by decide +kernel
theorem dX0_nearestFit_55 : decode cX0_nearestFit 55 = .ok (.aload_n 0, 1) := by decide +kernel
theorem dX0_nearestFit_56 : decode cX0_nearestFit 56 = .ok (.getfield 35, 3) := by decide +kernel
theorem dX0_nearestFit_59 : decode cX0_nearestFit 59 = .ok (.iload 5, 2) := by decide +kernel
theorem dX0_nearestFit_61 : decode cX0_nearestFit 61 = .ok (.invokevirtual 112, 3) := by decide +kernel
theorem dX0_nearestFit_64 : decode cX0_nearestFit 64 = .ok (.getfield 116, 3) := by decide +kernel
theorem dX0_nearestFit_67 : decode cX0_nearestFit 67 = .ok (.invokevirtual 158, 3) := by decide +kernel
theorem dX0_nearestFit_70 : decode cX0_nearestFit 70 = .ok (.istore 6, 2) := by decide +kernel
theorem dX0_nearestFit_72 : decode cX0_nearestFit 72 = .ok (.iload_n 3, 1) := by decide +kernel
theorem dX0_nearestFit_73 : decode cX0_nearestFit 73 = .ok (.iconst (-1), 1) := by decide +kernel
theorem dX0_nearestFit_74 : decode cX0_nearestFit 74 = .ok (.if_icmp .eq 10, 3) := by decide +kernel
theorem dX0_nearestFit_77 : decode cX0_nearestFit 77 = .ok (.iload 6, 2) := by decide +kernel
theorem dX0_nearestFit_79 : decode cX0_nearestFit 79 = .ok (.iload 4, 2) := by decide +kernel
theorem dX0_nearestFit_81 : decode cX0_nearestFit 81 = .ok (.if_icmp .ge 10, 3) := by decide +kernel
theorem dX0_nearestFit_84 : decode cX0_nearestFit 84 = .ok (.iload 5, 2) := by decide +kernel
theorem dX0_nearestFit_86 : decode cX0_nearestFit 86 = .ok (.istore_n 3, 1) := by decide +kernel
theorem dX0_nearestFit_87 : decode cX0_nearestFit 87 = .ok (.iload 6, 2) := by decide +kernel
theorem dX0_nearestFit_89 : decode cX0_nearestFit 89 = .ok (.istore 4, 2) := by decide +kernel
theorem dX0_nearestFit_91 : decode cX0_nearestFit 91 = .ok (.iinc 5 1, 3) := by decide +kernel
theorem dX0_nearestFit_94 : decode cX0_nearestFit 94 = .ok (.goto (-86), 3) := by decide +kernel
theorem dX0_nearestFit_97 : decode cX0_nearestFit 97 = .ok (.iload_n 3, 1) := by decide +kernel
theorem dX0_nearestFit_98 : decode cX0_nearestFit 98 = .ok (.ireturn, 1) := by decide +kernel
theorem dX0_isFit_0 : decode cX0_isFit 0 = .ok (.aload_n 1, 1) := by decide +kernel
theorem dX0_isFit_1 : decode cX0_isFit 1 = .ok (.getfield 161, 3) := by decide +kernel
theorem dX0_isFit_4 : decode cX0_isFit 4 = .ok (.ifCond .ne 37, 3) := by decide +kernel
theorem dX0_isFit_7 : decode cX0_isFit 7 = .ok (.aload_n 0, 1) := by decide +kernel
theorem dX0_isFit_8 : decode cX0_isFit 8 = .ok (.getfield 20, 3) := by decide +kernel
theorem dX0_isFit_11 : decode cX0_isFit 11 = .ok (.aload_n 1, 1) := by decide +kernel
theorem dX0_isFit_12 : decode cX0_isFit 12 = .ok (.getfield 116, 3) := by decide +kernel
theorem dX0_isFit_15 : decode cX0_isFit 15 = .ok (.iload_n 2, 1) := by decide +kernel
theorem dX0_isFit_16 : decode cX0_isFit 16 = .ok (.invokevirtual 164, 3) := by decide +kernel
theorem dX0_isFit_19 : decode cX0_isFit 19 = .ok (.ifCond .ne 22, 3) := by decide +kernel
theorem dX0_isFit_22 : decode cX0_isFit 22 = .ok (.aload_n 0, 1) := by decide +kernel
theorem dX0_isFit_23 : decode cX0_isFit 23 = .ok (.getfield 20, 3) := by decide +kernel
theorem dX0_isFit_26 : decode cX0_isFit 26 = .ok (.aload_n 1, 1) := by decide +kernel
theorem dX0_isFit_27 : decode cX0_isFit 27 = .ok (.getfield 121, 3) := by decide +kernel
theorem dX0_isFit_30 : decode cX0_isFit 30 = .ok (.iload_n 2, 1) := by decide +kernel
theorem dX0_isFit_31 : decode cX0_isFit 31 = .ok (.invokevirtual 164, 3) := by decide +kernel
theorem dX0_isFit_34 : decode cX0_isFit 34 = .ok (.ifCond .ne 7, 3) := by decide +kernel
theorem dX0_isFit_37 : decode cX0_isFit 37 = .ok (.iconst 1, 1) := by decide +kernel
theorem dX0_isFit_38 : decode cX0_isFit 38 = .ok (.goto 4, 3) := by decide +kernel
theorem dX0_isFit_41 : decode cX0_isFit 41 = .ok (.iconst 0, 1) := by decide +kernel
theorem dX0_isFit_42 : decode cX0_isFit 42 = .ok (.ireturn, 1) := by decide +kernel
theorem dX0_nearestRefuge_0 : decode cX0_nearestRefuge 0 = .ok (.aload_n 0, 1) := by decide +kernel
theorem dX0_nearestRefuge_1 : decode cX0_nearestRefuge 1 = .ok (.getfield 31, 3) := by decide +kernel
theorem dX0_nearestRefuge_4 : decode cX0_nearestRefuge 4 = .ok (.iload_n 2, 1) := by decide +kernel
theorem dX0_nearestRefuge_5 : decode cX0_nearestRefuge 5 = .ok (.iconst 1, 1) := by decide +kernel
theorem dX0_nearestRefuge_6 : decode cX0_nearestRefuge 6 = .ok (.invokevirtual 152, 3) := by decide +kernel
theorem dX0_nearestRefuge_9 : decode cX0_nearestRefuge 9 = .ok (.iconst (-1), 1) := by decide +kernel
theorem dX0_nearestRefuge_10 : decode cX0_nearestRefuge 10 = .ok (.istore_n 3, 1) := by decide +kernel
theorem dX0_nearestRefuge_11 : decode cX0_nearestRefuge 11 = .ok (.iconst 0, 1) := by decide +kernel
theorem dX0_nearestRefuge_12 : decode cX0_nearestRefuge 12 = .ok (.istore 4, 2) := by decide +kernel
theorem dX0_nearestRefuge_14 : decode cX0_nearestRefuge 14 = .ok (.iload 4, 2) := by decide +kernel
theorem dX0_nearestRefuge_16 : decode cX0_nearestRefuge 16 = .ok (.aload_n 0, 1) := by decide +kernel
theorem dX0_nearestRefuge_17 : decode cX0_nearestRefuge 17 = .ok (.getfield 31, 3) := by decide +kernel
theorem dX0_nearestRefuge_20 : decode cX0_nearestRefuge 20 = .ok (.invokevirtual 168, 3) := by decide +kernel
theorem dX0_nearestRefuge_23 : decode cX0_nearestRefuge 23 = .ok (.if_icmp .ge 86, 3) := by decide +kernel
theorem dX0_nearestRefuge_26 : decode cX0_nearestRefuge 26 = .ok (.aload_n 0, 1) := by decide +kernel
theorem dX0_nearestRefuge_27 : decode cX0_nearestRefuge 27 = .ok (.getfield 31, 3) := by decide +kernel
theorem dX0_nearestRefuge_30 : decode cX0_nearestRefuge 30 = .ok (.iload 4, 2) := by decide +kernel
theorem dX0_nearestRefuge_32 : decode cX0_nearestRefuge 32 = .ok (.invokevirtual 170, 3) := by decide +kernel
theorem dX0_nearestRefuge_35 : decode cX0_nearestRefuge 35 = .ok (.ifCond .eq 32, 3) := by decide +kernel
theorem dX0_nearestRefuge_38 : decode cX0_nearestRefuge 38 = .ok (.aload_n 0, 1) := by decide +kernel
theorem dX0_nearestRefuge_39 : decode cX0_nearestRefuge 39 = .ok (.getfield 35, 3) := by decide +kernel
theorem dX0_nearestRefuge_42 : decode cX0_nearestRefuge 42 = .ok (.iload 4, 2) := by decide +kernel
theorem dX0_nearestRefuge_44 : decode cX0_nearestRefuge 44 = .ok (.invokevirtual 136, 3) := by decide +kernel
theorem dX0_nearestRefuge_47 : decode cX0_nearestRefuge 47 = .ok (.ifCond .ne 20, 3) := by decide +kernel
theorem dX0_nearestRefuge_50 : decode cX0_nearestRefuge 50 = .ok (.aload_n 0, 1) := by decide +kernel
theorem dX0_nearestRefuge_51 : decode cX0_nearestRefuge 51 = .ok (.getfield 20, 3) := by decide +kernel
theorem dX0_nearestRefuge_54 : decode cX0_nearestRefuge 54 = .ok (.iload 4, 2) := by decide +kernel
theorem dX0_nearestRefuge_56 : decode cX0_nearestRefuge 56 = .ok (.iload_n 1, 1) := by decide +kernel
theorem dX0_nearestRefuge_57 : decode cX0_nearestRefuge 57 = .ok (.invokevirtual 164, 3) := by decide +kernel
theorem dX0_nearestRefuge_60 : decode cX0_nearestRefuge 60 = .ok (.ifCond .ne 7, 3) := by decide +kernel
theorem dX0_nearestRefuge_63 : decode cX0_nearestRefuge 63 = .ok (.iconst 1, 1) := by decide +kernel
theorem dX0_nearestRefuge_64 : decode cX0_nearestRefuge 64 = .ok (.goto 4, 3) := by decide +kernel
theorem dX0_nearestRefuge_67 : decode cX0_nearestRefuge 67 = .ok (.iconst 0, 1) := by decide +kernel
theorem dX0_nearestRefuge_68 : decode cX0_nearestRefuge 68 = .ok (.istore 5, 2) := by decide +kernel
theorem dX0_nearestRefuge_70 : decode cX0_nearestRefuge 70 = .ok (.iload 5, 2) := by decide +kernel
theorem dX0_nearestRefuge_72 : decode cX0_nearestRefuge 72 = .ok (.ifCond .eq 31, 3) := by decide +kernel
theorem dX0_nearestRefuge_75 : decode cX0_nearestRefuge 75 = .ok (.iload_n 3, 1) := by decide +kernel
theorem dX0_nearestRefuge_76 : decode cX0_nearestRefuge 76 = .ok (.iconst (-1), 1) := by decide +kernel
theorem dX0_nearestRefuge_77 : decode cX0_nearestRefuge 77 = .ok (.if_icmp .eq 23, 3) := by decide +kernel
theorem dX0_nearestRefuge_80 : decode cX0_nearestRefuge 80 = .ok (.aload_n 0, 1) := by decide +kernel
theorem dX0_nearestRefuge_81 : decode cX0_nearestRefuge 81 = .ok (.getfield 31, 3) := by decide +kernel
theorem dX0_nearestRefuge_84 : decode cX0_nearestRefuge 84 = .ok (.iload 4, 2) := by decide +kernel
theorem dX0_nearestRefuge_86 : decode cX0_nearestRefuge 86 = .ok (.invokevirtual 158, 3) := by decide +kernel
theorem dX0_nearestRefuge_89 : decode cX0_nearestRefuge 89 = .ok (.aload_n 0, 1) := by decide +kernel
theorem dX0_nearestRefuge_90 : decode cX0_nearestRefuge 90 = .ok (.getfield 31, 3) := by decide +kernel
theorem dX0_nearestRefuge_93 : decode cX0_nearestRefuge 93 = .ok (.iload_n 3, 1) := by decide +kernel
theorem dX0_nearestRefuge_94 : decode cX0_nearestRefuge 94 = .ok (.invokevirtual 158, 3) := by decide +kernel
theorem dX0_nearestRefuge_97 : decode cX0_nearestRefuge 97 = .ok (.if_icmp .ge 6, 3) := by decide +kernel
theorem dX0_nearestRefuge_100 : decode cX0_nearestRefuge 100 = .ok (.iload 4, 2) := by decide +kernel
theorem dX0_nearestRefuge_102 : decode cX0_nearestRefuge 102 = .ok (.istore_n 3, 1) := by decide +kernel
theorem dX0_nearestRefuge_103 : decode cX0_nearestRefuge 103 = .ok (.iinc 4 1, 3) := by decide +kernel
theorem dX0_nearestRefuge_106 : decode cX0_nearestRefuge 106 = .ok (.goto (-92), 3) := by decide +kernel
theorem dX0_nearestRefuge_109 : decode cX0_nearestRefuge 109 = .ok (.iload_n 3, 1) := by decide +kernel
theorem dX0_nearestRefuge_110 : decode cX0_nearestRefuge 110 = .ok (.ireturn, 1) := by decide +kernel
theorem dX0_countWay_0 : decode cX0_countWay 0 = .ok (.iload_n 1, 1) := by decide +kernel
theorem dX0_countWay_1 : decode cX0_countWay 1 = .ok (.iconst (-1), 1) := by decide +kernel
theorem dX0_countWay_2 : decode cX0_countWay 2 = .ok (.if_icmp .ne 5, 3) := by decide +kernel
theorem dX0_countWay_5 : decode cX0_countWay 5 = .ok (.iconst 0, 1) := by decide +kernel
theorem dX0_countWay_6 : decode cX0_countWay 6 = .ok (.ireturn, 1) := by decide +kernel
theorem dX0_countWay_7 : decode cX0_countWay 7 = .ok (.aload_n 0, 1) := by decide +kernel
theorem dX0_countWay_8 : decode cX0_countWay 8 = .ok (.dup, 1) := by decide +kernel
theorem dX0_countWay_9 : decode cX0_countWay 9 = .ok (.getfield 56, 3) := by decide +kernel
theorem dX0_countWay_12 : decode cX0_countWay 12 = .ok (.iconst 1, 1) := by decide +kernel
theorem dX0_countWay_13 : decode cX0_countWay 13 = .ok (.iadd, 1) := by decide +kernel
theorem dX0_countWay_14 : decode cX0_countWay 14 = .ok (.putfield 56, 3) := by decide +kernel
theorem dX0_countWay_17 : decode cX0_countWay 17 = .ok (.aload_n 0, 1) := by decide +kernel
theorem dX0_countWay_18 : decode cX0_countWay 18 = .ok (.aload_n 0, 1) := by decide +kernel
theorem dX0_countWay_19 : decode cX0_countWay 19 = .ok (.getfield 59, 3) := by decide +kernel
theorem dX0_countWay_22 : decode cX0_countWay 22 = .ok (.iload_n 1, 1) := by decide +kernel
theorem dX0_countWay_23 : decode cX0_countWay 23 = .ok (.invokestatic 173, 3) := by decide +kernel
theorem dX0_countWay_26 : decode cX0_countWay 26 = .ok (.putfield 59, 3) := by decide +kernel
theorem dX0_countWay_29 : decode cX0_countWay 29 = .ok (.iconst 1, 1) := by decide +kernel
theorem dX0_countWay_30 : decode cX0_countWay 30 = .ok (.ireturn, 1) := by decide +kernel
theorem dX0_take_0 : decode cX0_take 0 = .ok (.aload_n 0, 1) := by decide +kernel
theorem dX0_take_1 : decode cX0_take 1 = .ok (.getfield 35, 3) := by decide +kernel
theorem dX0_take_4 : decode cX0_take 4 = .ok (.iload_n 3, 1) := by decide +kernel
theorem dX0_take_5 : decode cX0_take 5 = .ok (.invokevirtual 112, 3) := by decide +kernel
theorem dX0_take_8 : decode cX0_take 8 = .ok (.astore 4, 2) := by decide +kernel
theorem dX0_take_10 : decode cX0_take 10 = .ok (.aload_n 0, 1) := by decide +kernel
theorem dX0_take_11 : decode cX0_take 11 = .ok (.getfield 11, 3) := by decide +kernel
theorem dX0_take_14 : decode cX0_take 14 = .ok (.iload_n 1, 1) := by decide +kernel
theorem dX0_take_15 : decode cX0_take 15 = .ok (.aaload, 1) := by decide +kernel
theorem dX0_take_16 : decode cX0_take 16 = .ok (.iload_n 3, 1) := by decide +kernel
theorem dX0_take_17 : decode cX0_take 17 = .ok (.putfield 178, 3) := by decide +kernel
theorem dX0_take_20 : decode cX0_take 20 = .ok (.aload_n 0, 1) := by decide +kernel
theorem dX0_take_21 : decode cX0_take 21 = .ok (.getfield 35, 3) := by decide +kernel
theorem dX0_take_24 : decode cX0_take 24 = .ok (.aload 4, 2) := by decide +kernel
theorem dX0_take_26 : decode cX0_take 26 = .ok (.iload_n 1, 1) := by decide +kernel
theorem dX0_take_27 : decode cX0_take 27 = .ok (.aload_n 0, 1) := by decide +kernel
theorem dX0_take_28 : decode cX0_take 28 = .ok (.getfield 53, 3) := by decide +kernel
theorem dX0_take_31 : decode cX0_take 31 = .ok (.invokevirtual 181, 3) := by decide +kernel
theorem dX0_take_34 : decode cX0_take 34 = .ok (.iload_n 2, 1) := by decide +kernel
theorem dX0_take_35 : decode cX0_take 35 = .ok (.aload 4, 2) := by decide +kernel
theorem dX0_take_37 : decode cX0_take 37 = .ok (.getfield 116, 3) := by decide +kernel
theorem dX0_take_40 : decode cX0_take 40 = .ok (.if_icmp .ne 16, 3) := by decide +kernel
theorem dX0_take_43 : decode cX0_take 43 = .ok (.aload_n 0, 1) := by decide +kernel
theorem dX0_take_44 : decode cX0_take 44 = .ok (.getfield 35, 3) := by decide +kernel
theorem dX0_take_47 : decode cX0_take 47 = .ok (.aload 4, 2) := by decide +kernel
theorem dX0_take_49 : decode cX0_take 49 = .ok (.aload_n 0, 1) := by decide +kernel
theorem dX0_take_50 : decode cX0_take 50 = .ok (.getfield 53, 3) := by decide +kernel
theorem dX0_take_53 : decode cX0_take 53 = .ok (.invokevirtual 184, 3) := by decide +kernel
theorem dX0_take_56 : decode cX0_take 56 = .ok (.return_, 1) := by decide +kernel
theorem dX0_goOn_0 : decode cX0_goOn 0 = .ok (.aload_n 0, 1) := by decide +kernel
theorem dX0_goOn_1 : decode cX0_goOn 1 = .ok (.getfield 20, 3) := by decide +kernel
theorem dX0_goOn_4 : decode cX0_goOn 4 = .ok (.iload_n 1, 1) := by decide +kernel
theorem dX0_goOn_5 : decode cX0_goOn 5 = .ok (.aload_n 0, 1) := by decide +kernel
theorem dX0_goOn_6 : decode cX0_goOn 6 = .ok (.getfield 53, 3) := by decide +kernel
theorem dX0_goOn_9 : decode cX0_goOn 9 = .ok (.iconst 1, 1) := by decide +kernel
theorem dX0_goOn_10 : decode cX0_goOn 10 = .ok (.isub, 1) := by decide +kernel
theorem dX0_goOn_11 : decode cX0_goOn 11 = .ok (.invokevirtual 105, 3) := by decide +kernel
theorem dX0_goOn_14 : decode cX0_goOn 14 = .ok (.istore_n 2, 1) := by decide +kernel
theorem dX0_goOn_15 : decode cX0_goOn 15 = .ok (.aload_n 0, 1) := by decide +kernel
theorem dX0_goOn_16 : decode cX0_goOn 16 = .ok (.getfield 20, 3) := by decide +kernel
theorem dX0_goOn_19 : decode cX0_goOn 19 = .ok (.iload_n 1, 1) := by decide +kernel
theorem dX0_goOn_20 : decode cX0_goOn 20 = .ok (.aload_n 0, 1) := by decide +kernel
theorem dX0_goOn_21 : decode cX0_goOn 21 = .ok (.getfield 53, 3) := by decide +kernel
theorem dX0_goOn_24 : decode cX0_goOn 24 = .ok (.invokevirtual 105, 3) := by decide +kernel
theorem dX0_goOn_27 : decode cX0_goOn 27 = .ok (.istore_n 3, 1) := by decide +kernel
theorem dX0_goOn_28 : decode cX0_goOn 28 = .ok (.aload_n 0, 1) := by decide +kernel
theorem dX0_goOn_29 : decode cX0_goOn 29 = .ok (.getfield 20, 3) := by decide +kernel
theorem dX0_goOn_32 : decode cX0_goOn 32 = .ok (.iload_n 1, 1) := by decide +kernel
theorem dX0_goOn_33 : decode cX0_goOn 33 = .ok (.aload_n 0, 1) := by decide +kernel
theorem dX0_goOn_34 : decode cX0_goOn 34 = .ok (.getfield 53, 3) := by decide +kernel
theorem dX0_goOn_37 : decode cX0_goOn 37 = .ok (.invokevirtual 188, 3) := by decide +kernel
theorem dX0_goOn_40 : decode cX0_goOn 40 = .ok (.iload_n 3, 1) := by decide +kernel
theorem dX0_goOn_41 : decode cX0_goOn 41 = .ok (.iload_n 2, 1) := by decide +kernel
theorem dX0_goOn_42 : decode cX0_goOn 42 = .ok (.if_icmp .eq 18, 3) := by decide +kernel
theorem dX0_goOn_45 : decode cX0_goOn 45 = .ok (.aload_n 0, 1) := by decide +kernel
theorem dX0_goOn_46 : decode cX0_goOn 46 = .ok (.getfield 11, 3) := by decide +kernel
theorem dX0_goOn_49 : decode cX0_goOn 49 = .ok (.iload_n 1, 1) := by decide +kernel
theorem dX0_goOn_50 : decode cX0_goOn 50 = .ok (.aaload, 1) := by decide +kernel
theorem dX0_goOn_51 : decode cX0_goOn 51 = .ok (.dup, 1) := by decide +kernel
theorem dX0_goOn_52 : decode cX0_goOn 52 = .ok (.getfield 66, 3) := by decide +kernel
theorem dX0_goOn_55 : decode cX0_goOn 55 = .ok (.iconst 1, 1) := by decide +kernel
theorem dX0_goOn_56 : decode cX0_goOn 56 = .ok (.iadd, 1) := by decide +kernel
theorem dX0_goOn_57 : decode cX0_goOn 57 = .ok (.putfield 66, 3) := by decide +kernel
theorem dX0_goOn_60 : decode cX0_goOn 60 = .ok (.aload_n 0, 1) := by decide +kernel
theorem dX0_goOn_61 : decode cX0_goOn 61 = .ok (.getfield 11, 3) := by decide +kernel
theorem dX0_goOn_64 : decode cX0_goOn 64 = .ok (.iload_n 1, 1) := by decide +kernel
theorem dX0_goOn_65 : decode cX0_goOn 65 = .ok (.aaload, 1) := by decide +kernel
theorem dX0_goOn_66 : decode cX0_goOn 66 = .ok (.getfield 178, 3) := by decide +kernel
theorem dX0_goOn_69 : decode cX0_goOn 69 = .ok (.iconst (-1), 1) := by decide +kernel
theorem dX0_goOn_70 : decode cX0_goOn 70 = .ok (.if_icmp .eq 25, 3) := by decide +kernel
theorem dX0_goOn_73 : decode cX0_goOn 73 = .ok (.aload_n 0, 1) := by decide +kernel
theorem dX0_goOn_74 : decode cX0_goOn 74 = .ok (.iload_n 1, 1) := by decide +kernel
theorem dX0_goOn_75 : decode cX0_goOn 75 = .ok (.iload_n 3, 1) := by decide +kernel
theorem dX0_goOn_76 : decode cX0_goOn 76 = .ok (.aload_n 0, 1) := by decide +kernel
theorem dX0_goOn_77 : decode cX0_goOn 77 = .ok (.getfield 35, 3) := by decide +kernel
theorem dX0_goOn_80 : decode cX0_goOn 80 = .ok (.aload_n 0, 1) := by decide +kernel
theorem dX0_goOn_81 : decode cX0_goOn 81 = .ok (.getfield 11, 3) := by decide +kernel
theorem dX0_goOn_84 : decode cX0_goOn 84 = .ok (.iload_n 1, 1) := by decide +kernel
theorem dX0_goOn_85 : decode cX0_goOn 85 = .ok (.aaload, 1) := by decide +kernel
theorem dX0_goOn_86 : decode cX0_goOn 86 = .ok (.getfield 178, 3) := by decide +kernel
theorem dX0_goOn_89 : decode cX0_goOn 89 = .ok (.invokevirtual 112, 3) := by decide +kernel
theorem dX0_goOn_92 : decode cX0_goOn 92 = .ok (.invokevirtual 192, 3) := by decide +kernel
theorem dX0_goOn_95 : decode cX0_goOn 95 = .ok (.return_, 1) := by decide +kernel
theorem dX0_workOn_0 : decode cX0_workOn 0 = .ok (.aload_n 3, 1) := by decide +kernel
theorem dX0_workOn_1 : decode cX0_workOn 1 = .ok (.getfield 161, 3) := by decide +kernel
theorem dX0_workOn_4 : decode cX0_workOn 4 = .ok (.iconst 1, 1) := by decide +kernel
theorem dX0_workOn_5 : decode cX0_workOn 5 = .ok (.if_icmp .ne 23, 3) := by decide +kernel
theorem dX0_workOn_8 : decode cX0_workOn 8 = .ok (.iload_n 2, 1) := by decide +kernel
theorem dX0_workOn_9 : decode cX0_workOn 9 = .ok (.aload_n 3, 1) := by decide +kernel
theorem dX0_workOn_10 : decode cX0_workOn 10 = .ok (.getfield 116, 3) := by decide +kernel
theorem dX0_workOn_13 : decode cX0_workOn 13 = .ok (.if_icmp .ne 15, 3) := by decide +kernel
theorem dX0_workOn_16 : decode cX0_workOn 16 = .ok (.aload_n 0, 1) := by decide +kernel
theorem dX0_workOn_17 : decode cX0_workOn 17 = .ok (.getfield 35, 3) := by decide +kernel
theorem dX0_workOn_20 : decode cX0_workOn 20 = .ok (.aload_n 3, 1) := by decide +kernel
theorem dX0_workOn_21 : decode cX0_workOn 21 = .ok (.aload_n 0, 1) := by decide +kernel
theorem dX0_workOn_22 : decode cX0_workOn 22 = .ok (.getfield 53, 3) := by decide +kernel
theorem dX0_workOn_25 : decode cX0_workOn 25 = .ok (.invokevirtual 184, 3) := by decide +kernel
theorem dX0_workOn_28 : decode cX0_workOn 28 = .ok (.aload_n 3, 1) := by decide +kernel
theorem dX0_workOn_29 : decode cX0_workOn 29 = .ok (.getfield 161, 3) := by decide +kernel
theorem dX0_workOn_32 : decode cX0_workOn 32 = .ok (.iconst 2, 1) := by decide +kernel
theorem dX0_workOn_33 : decode cX0_workOn 33 = .ok (.if_icmp .ne 55, 3) := by decide +kernel
theorem dX0_workOn_36 : decode cX0_workOn 36 = .ok (.aload_n 0, 1) := by decide +kernel
theorem dX0_workOn_37 : decode cX0_workOn 37 = .ok (.getfield 20, 3) := by decide +kernel
theorem dX0_workOn_40 : decode cX0_workOn 40 = .ok (.iload_n 1, 1) := by decide +kernel
theorem dX0_workOn_41 : decode cX0_workOn 41 = .ok (.invokevirtual 92, 3) := by decide +kernel
theorem dX0_workOn_44 : decode cX0_workOn 44 = .ok (.aload_n 0, 1) := by decide +kernel
theorem dX0_workOn_45 : decode cX0_workOn 45 = .ok (.getfield 53, 3) := by decide +kernel
theorem dX0_workOn_48 : decode cX0_workOn 48 = .ok (.if_icmp .gt 40, 3) := by decide +kernel
theorem dX0_workOn_51 : decode cX0_workOn 51 = .ok (.aload_n 0, 1) := by decide +kernel
theorem dX0_workOn_52 : decode cX0_workOn 52 = .ok (.getfield 35, 3) := by decide +kernel
theorem dX0_workOn_55 : decode cX0_workOn 55 = .ok (.aload_n 3, 1) := by decide +kernel
theorem dX0_workOn_56 : decode cX0_workOn 56 = .ok (.aload_n 0, 1) := by decide +kernel
theorem dX0_workOn_57 : decode cX0_workOn 57 = .ok (.getfield 53, 3) := by decide +kernel
theorem dX0_workOn_60 : decode cX0_workOn 60 = .ok (.invokevirtual 196, 3) := by decide +kernel
theorem dX0_workOn_63 : decode cX0_workOn 63 = .ok (.aload_n 0, 1) := by decide +kernel
theorem dX0_workOn_64 : decode cX0_workOn 64 = .ok (.getfield 11, 3) := by decide +kernel
theorem dX0_workOn_67 : decode cX0_workOn 67 = .ok (.iload_n 1, 1) := by decide +kernel
theorem dX0_workOn_68 : decode cX0_workOn 68 = .ok (.aaload, 1) := by decide +kernel
theorem dX0_workOn_69 : decode cX0_workOn 69 = .ok (.iconst (-1), 1) := by decide +kernel
theorem dX0_workOn_70 : decode cX0_workOn 70 = .ok (.putfield 178, 3) := by decide +kernel
theorem dX0_workOn_73 : decode cX0_workOn 73 = .ok (.aload_n 0, 1) := by decide +kernel
theorem dX0_workOn_74 : decode cX0_workOn 74 = .ok (.getfield 11, 3) := by decide +kernel
theorem dX0_workOn_77 : decode cX0_workOn 77 = .ok (.iload_n 1, 1) := by decide +kernel
theorem dX0_workOn_78 : decode cX0_workOn 78 = .ok (.aaload, 1) := by decide +kernel
theorem dX0_workOn_79 : decode cX0_workOn 79 = .ok (.dup, 1) := by decide +kernel
theorem dX0_workOn_80 : decode cX0_workOn 80 = .ok (.getfield 199, 3) := by decide +kernel
theorem dX0_workOn_83 : decode cX0_workOn 83 = .ok (.iconst 1, 1) := by decide +kernel
theorem dX0_workOn_84 : decode cX0_workOn 84 = .ok (.iadd, 1) := by decide +kernel
theorem dX0_workOn_85 : decode cX0_workOn 85 = .ok (.putfield 199, 3) := by decide +kernel
theorem dX0_workOn_88 : decode cX0_workOn 88 = .ok (.return_, 1) := by decide +kernel
theorem dX0_tellRobot_0 : decode cX0_tellRobot 0 = .ok (.iload_n 1, 1) := by decide +kernel
theorem dX0_tellRobot_1 : decode cX0_tellRobot 1 = .ok (.ifCond .lt 11, 3) := by decide +kernel
theorem dX0_tellRobot_4 : decode cX0_tellRobot 4 = .ok (.iload_n 1, 1) := by decide +kernel
theorem dX0_tellRobot_5 : decode cX0_tellRobot 5 = .ok (.aload_n 0, 1) := by decide +kernel
theorem dX0_tellRobot_6 : decode cX0_tellRobot 6 = .ok (.getfield 49, 3) := by decide +kernel
theorem dX0_tellRobot_9 : decode cX0_tellRobot 9 = .ok (.if_icmp .lt 5, 3) := by decide +kernel
theorem dX0_tellRobot_12 : decode cX0_tellRobot 12 = .ok (.iconst (-1), 1) := by decide +kernel
theorem dX0_tellRobot_13 : decode cX0_tellRobot 13 = .ok (.ireturn, 1) := by decide +kernel
theorem dX0_tellRobot_14 : decode cX0_tellRobot 14 = .ok (.iload_n 2, 1) := by decide +kernel
theorem dX0_tellRobot_15 : decode cX0_tellRobot 15 = .ok (.tableswitch 147 0 7 #[45, 58, 68, 90, 99, 117, 127, 137], 45) := by decide +kernel
theorem dX0_tellRobot_60 : decode cX0_tellRobot 60 = .ok (.aload_n 0, 1) := by decide +kernel
theorem dX0_tellRobot_61 : decode cX0_tellRobot 61 = .ok (.getfield 20, 3) := by decide +kernel
theorem dX0_tellRobot_64 : decode cX0_tellRobot 64 = .ok (.iload_n 1, 1) := by decide +kernel
theorem dX0_tellRobot_65 : decode cX0_tellRobot 65 = .ok (.aload_n 0, 1) := by decide +kernel
theorem dX0_tellRobot_66 : decode cX0_tellRobot 66 = .ok (.getfield 53, 3) := by decide +kernel
theorem dX0_tellRobot_69 : decode cX0_tellRobot 69 = .ok (.invokevirtual 105, 3) := by decide +kernel
theorem dX0_tellRobot_72 : decode cX0_tellRobot 72 = .ok (.ireturn, 1) := by decide +kernel
theorem dX0_tellRobot_73 : decode cX0_tellRobot 73 = .ok (.aload_n 0, 1) := by decide +kernel
theorem dX0_tellRobot_74 : decode cX0_tellRobot 74 = .ok (.getfield 11, 3) := by decide +kernel
theorem dX0_tellRobot_77 : decode cX0_tellRobot 77 = .ok (.iload_n 1, 1) := by decide +kernel
theorem dX0_tellRobot_78 : decode cX0_tellRobot 78 = .ok (.aaload, 1) := by decide +kernel
theorem dX0_tellRobot_79 : decode cX0_tellRobot 79 = .ok (.getfield 178, 3) := by decide +kernel
theorem dX0_tellRobot_82 : decode cX0_tellRobot 82 = .ok (.ireturn, 1) := by decide +kernel
theorem dX0_tellRobot_83 : decode cX0_tellRobot 83 = .ok (.aload_n 0, 1) := by decide +kernel
theorem dX0_tellRobot_84 : decode cX0_tellRobot 84 = .ok (.aload_n 0, 1) := by decide +kernel
theorem dX0_tellRobot_85 : decode cX0_tellRobot 85 = .ok (.getfield 11, 3) := by decide +kernel
theorem dX0_tellRobot_88 : decode cX0_tellRobot 88 = .ok (.iload_n 1, 1) := by decide +kernel
theorem dX0_tellRobot_89 : decode cX0_tellRobot 89 = .ok (.aaload, 1) := by decide +kernel
theorem dX0_tellRobot_90 : decode cX0_tellRobot 90 = .ok (.getfield 178, 3) := by decide +kernel
theorem dX0_tellRobot_93 : decode cX0_tellRobot 93 = .ok (.invokevirtual 202, 3) := by decide +kernel
theorem dX0_tellRobot_96 : decode cX0_tellRobot 96 = .ok (.ifCond .eq 7, 3) := by decide +kernel
theorem dX0_tellRobot_99 : decode cX0_tellRobot 99 = .ok (.iconst 1, 1) := by decide +kernel
theorem dX0_tellRobot_100 : decode cX0_tellRobot 100 = .ok (.goto 4, 3) := by decide +kernel
theorem dX0_tellRobot_103 : decode cX0_tellRobot 103 = .ok (.iconst 0, 1) := by decide +kernel
theorem dX0_tellRobot_104 : decode cX0_tellRobot 104 = .ok (.ireturn, 1) := by decide +kernel
theorem dX0_tellRobot_105 : decode cX0_tellRobot 105 = .ok (.aload_n 0, 1) := by decide +kernel
theorem dX0_tellRobot_106 : decode cX0_tellRobot 106 = .ok (.getfield 20, 3) := by decide +kernel
theorem dX0_tellRobot_109 : decode cX0_tellRobot 109 = .ok (.iload_n 1, 1) := by decide +kernel
theorem dX0_tellRobot_110 : decode cX0_tellRobot 110 = .ok (.invokevirtual 205, 3) := by decide +kernel
theorem dX0_tellRobot_113 : decode cX0_tellRobot 113 = .ok (.ireturn, 1) := by decide +kernel
theorem dX0_tellRobot_114 : decode cX0_tellRobot 114 = .ok (.iconst 0, 1) := by decide +kernel
theorem dX0_tellRobot_115 : decode cX0_tellRobot 115 = .ok (.aload_n 0, 1) := by decide +kernel
theorem dX0_tellRobot_116 : decode cX0_tellRobot 116 = .ok (.getfield 20, 3) := by decide +kernel
theorem dX0_tellRobot_119 : decode cX0_tellRobot 119 = .ok (.iload_n 1, 1) := by decide +kernel
theorem dX0_tellRobot_120 : decode cX0_tellRobot 120 = .ok (.invokevirtual 92, 3) := by decide +kernel
theorem dX0_tellRobot_123 : decode cX0_tellRobot 123 = .ok (.aload_n 0, 1) := by decide +kernel
theorem dX0_tellRobot_124 : decode cX0_tellRobot 124 = .ok (.getfield 53, 3) := by decide +kernel
theorem dX0_tellRobot_127 : decode cX0_tellRobot 127 = .ok (.isub, 1) := by decide +kernel
theorem dX0_tellRobot_128 : decode cX0_tellRobot 128 = .ok (.invokestatic 173, 3) := by decide +kernel
theorem dX0_tellRobot_131 : decode cX0_tellRobot 131 = .ok (.ireturn, 1) := by decide +kernel
theorem dX0_tellRobot_132 : decode cX0_tellRobot 132 = .ok (.aload_n 0, 1) := by decide +kernel
theorem dX0_tellRobot_133 : decode cX0_tellRobot 133 = .ok (.getfield 11, 3) := by decide +kernel
theorem dX0_tellRobot_136 : decode cX0_tellRobot 136 = .ok (.iload_n 1, 1) := by decide +kernel
theorem dX0_tellRobot_137 : decode cX0_tellRobot 137 = .ok (.aaload, 1) := by decide +kernel
theorem dX0_tellRobot_138 : decode cX0_tellRobot 138 = .ok (.getfield 66, 3) := by decide +kernel
theorem dX0_tellRobot_141 : decode cX0_tellRobot 141 = .ok (.ireturn, 1) := by decide +kernel
theorem dX0_tellRobot_142 : decode cX0_tellRobot 142 = .ok (.aload_n 0, 1) := by decide +kernel
theorem dX0_tellRobot_143 : decode cX0_tellRobot 143 = .ok (.getfield 11, 3) := by decide +kernel
theorem dX0_tellRobot_146 : decode cX0_tellRobot 146 = .ok (.iload_n 1, 1) := by decide +kernel
theorem dX0_tellRobot_147 : decode cX0_tellRobot 147 = .ok (.aaload, 1) := by decide +kernel
theorem dX0_tellRobot_148 : decode cX0_tellRobot 148 = .ok (.getfield 199, 3) := by decide +kernel
theorem dX0_tellRobot_151 : decode cX0_tellRobot 151 = .ok (.ireturn, 1) := by decide +kernel
theorem dX0_tellRobot_152 : decode cX0_tellRobot 152 = .ok (.aload_n 0, 1) := by decide +kernel
theorem dX0_tellRobot_153 : decode cX0_tellRobot 153 = .ok (.getfield 11, 3) := by decide +kernel
theorem dX0_tellRobot_156 : decode cX0_tellRobot 156 = .ok (.iload_n 1, 1) := by decide +kernel
theorem dX0_tellRobot_157 : decode cX0_tellRobot 157 = .ok (.aaload, 1) := by decide +kernel
theorem dX0_tellRobot_158 : decode cX0_tellRobot 158 = .ok (.getfield 142, 3) := by decide +kernel
theorem dX0_tellRobot_161 : decode cX0_tellRobot 161 = .ok (.ireturn, 1) := by decide +kernel
theorem dX0_tellRobot_162 : decode cX0_tellRobot 162 = .ok (.bipush (-2), 2) := by decide +kernel
theorem dX0_tellRobot_164 : decode cX0_tellRobot 164 = .ok (.ireturn, 1) := by decide +kernel
theorem dX0_hasPicked_0 : decode cX0_hasPicked 0 = .ok (.iload_n 1, 1) := by decide +kernel
theorem dX0_hasPicked_1 : decode cX0_hasPicked 1 = .ok (.iconst (-1), 1) := by decide +kernel
theorem dX0_hasPicked_2 : decode cX0_hasPicked 2 = .ok (.if_icmp .eq 22, 3) := by decide +kernel
theorem dX0_hasPicked_5 : decode cX0_hasPicked 5 = .ok (.aload_n 0, 1) := by decide +kernel
theorem dX0_hasPicked_6 : decode cX0_hasPicked 6 = .ok (.getfield 35, 3) := by decide +kernel
theorem dX0_hasPicked_9 : decode cX0_hasPicked 9 = .ok (.iload_n 1, 1) := by decide +kernel
theorem dX0_hasPicked_10 : decode cX0_hasPicked 10 = .ok (.invokevirtual 112, 3) := by decide +kernel
theorem dX0_hasPicked_13 : decode cX0_hasPicked 13 = .ok (.getfield 161, 3) := by decide +kernel
theorem dX0_hasPicked_16 : decode cX0_hasPicked 16 = .ok (.iconst 2, 1) := by decide +kernel
theorem dX0_hasPicked_17 : decode cX0_hasPicked 17 = .ok (.if_icmp .ne 7, 3) := by decide +kernel
theorem dX0_hasPicked_20 : decode cX0_hasPicked 20 = .ok (.iconst 1, 1) := by decide +kernel
theorem dX0_hasPicked_21 : decode cX0_hasPicked 21 = .ok (.goto 4, 3) := by decide +kernel
theorem dX0_hasPicked_24 : decode cX0_hasPicked 24 = .ok (.iconst 0, 1) := by decide +kernel
theorem dX0_hasPicked_25 : decode cX0_hasPicked 25 = .ok (.ireturn, 1) := by decide +kernel
theorem dX0_cellIn_0 : decode cX0_cellIn 0 = .ok (.iload_n 1, 1) := by decide +kernel
theorem dX0_cellIn_1 : decode cX0_cellIn 1 = .ok (.ifCond .lt 15, 3) := by decide +kernel
theorem dX0_cellIn_4 : decode cX0_cellIn 4 = .ok (.iload_n 1, 1) := by decide +kernel
theorem dX0_cellIn_5 : decode cX0_cellIn 5 = .ok (.aload_n 0, 1) := by decide +kernel
theorem dX0_cellIn_6 : decode cX0_cellIn 6 = .ok (.getfield 49, 3) := by decide +kernel
theorem dX0_cellIn_9 : decode cX0_cellIn 9 = .ok (.if_icmp .ge 7, 3) := by decide +kernel
theorem dX0_cellIn_12 : decode cX0_cellIn 12 = .ok (.iload_n 2, 1) := by decide +kernel
theorem dX0_cellIn_13 : decode cX0_cellIn 13 = .ok (.ifCond .ge 5, 3) := by decide +kernel
theorem dX0_cellIn_16 : decode cX0_cellIn 16 = .ok (.iconst (-1), 1) := by decide +kernel
theorem dX0_cellIn_17 : decode cX0_cellIn 17 = .ok (.ireturn, 1) := by decide +kernel
theorem dX0_cellIn_18 : decode cX0_cellIn 18 = .ok (.aload_n 0, 1) := by decide +kernel
theorem dX0_cellIn_19 : decode cX0_cellIn 19 = .ok (.getfield 20, 3) := by decide +kernel
theorem dX0_cellIn_22 : decode cX0_cellIn 22 = .ok (.iload_n 1, 1) := by decide +kernel
theorem dX0_cellIn_23 : decode cX0_cellIn 23 = .ok (.aload_n 0, 1) := by decide +kernel
theorem dX0_cellIn_24 : decode cX0_cellIn 24 = .ok (.getfield 53, 3) := by decide +kernel
theorem dX0_cellIn_27 : decode cX0_cellIn 27 = .ok (.iload_n 2, 1) := by decide +kernel
theorem dX0_cellIn_28 : decode cX0_cellIn 28 = .ok (.sipush 1000, 3) := by decide +kernel
theorem dX0_cellIn_31 : decode cX0_cellIn 31 = .ok (.invokestatic 208, 3) := by decide +kernel
theorem dX0_cellIn_34 : decode cX0_cellIn 34 = .ok (.iadd, 1) := by decide +kernel
theorem dX0_cellIn_35 : decode cX0_cellIn 35 = .ok (.invokevirtual 105, 3) := by decide +kernel
theorem dX0_cellIn_38 : decode cX0_cellIn 38 = .ok (.ireturn, 1) := by decide +kernel
theorem dX0_cellAt_0 : decode cX0_cellAt 0 = .ok (.iload_n 1, 1) := by decide +kernel
theorem dX0_cellAt_1 : decode cX0_cellAt 1 = .ok (.ifCond .lt 23, 3) := by decide +kernel
theorem dX0_cellAt_4 : decode cX0_cellAt 4 = .ok (.iload_n 1, 1) := by decide +kernel
theorem dX0_cellAt_5 : decode cX0_cellAt 5 = .ok (.aload_n 0, 1) := by decide +kernel
theorem dX0_cellAt_6 : decode cX0_cellAt 6 = .ok (.getfield 49, 3) := by decide +kernel
theorem dX0_cellAt_9 : decode cX0_cellAt 9 = .ok (.if_icmp .ge 15, 3) := by decide +kernel
theorem dX0_cellAt_12 : decode cX0_cellAt 12 = .ok (.iload_n 2, 1) := by decide +kernel
theorem dX0_cellAt_13 : decode cX0_cellAt 13 = .ok (.ifCond .lt 11, 3) := by decide +kernel
theorem dX0_cellAt_16 : decode cX0_cellAt 16 = .ok (.iload_n 2, 1) := by decide +kernel
theorem dX0_cellAt_17 : decode cX0_cellAt 17 = .ok (.aload_n 0, 1) := by decide +kernel
theorem dX0_cellAt_18 : decode cX0_cellAt 18 = .ok (.getfield 53, 3) := by decide +kernel
theorem dX0_cellAt_21 : decode cX0_cellAt 21 = .ok (.if_icmp .le 7, 3) := by decide +kernel
theorem dX0_cellAt_24 : decode cX0_cellAt 24 = .ok (.iconst (-1), 1) := by decide +kernel
theorem dX0_cellAt_25 : decode cX0_cellAt 25 = .ok (.goto 12, 3) := by decide +kernel
theorem dX0_cellAt_28 : decode cX0_cellAt 28 = .ok (.aload_n 0, 1) := by decide +kernel
theorem dX0_cellAt_29 : decode cX0_cellAt 29 = .ok (.getfield 20, 3) := by decide +kernel
theorem dX0_cellAt_32 : decode cX0_cellAt 32 = .ok (.iload_n 1, 1) := by decide +kernel
theorem dX0_cellAt_33 : decode cX0_cellAt 33 = .ok (.iload_n 2, 1) := by decide +kernel
theorem dX0_cellAt_34 : decode cX0_cellAt 34 = .ok (.invokevirtual 105, 3) := by decide +kernel
theorem dX0_cellAt_37 : decode cX0_cellAt 37 = .ok (.ireturn, 1) := by decide +kernel
