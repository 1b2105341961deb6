theorem dX5_init_0 : decode cX5_init 0 = .ok (.aload_n 0, 1) := by decide +kernel
theorem dX5_init_1 : decode cX5_init 1 = .ok (.invokespecial 3, 3) := by decide +kernel
theorem dX5_init_4 : decode cX5_init 4 = .ok (.aload_n 0, 1) := by decide +kernel
theorem dX5_init_5 : decode cX5_init 5 = .ok (.bipush 40, 2) := by decide +kernel
theorem dX5_init_7 : decode cX5_init 7 = .ok (.anewarray 9, 3) := by decide +kernel
theorem dX5_init_10 : decode cX5_init 10 = .ok (.putfield 11, 3) := by decide +kernel
theorem dX5_init_13 : decode cX5_init 13 = .ok (.aload_n 0, 1) := by decide +kernel
theorem dX5_init_14 : decode cX5_init 14 = .ok (.bipush 90, 2) := by decide +kernel
theorem dX5_init_16 : decode cX5_init 16 = .ok (.anewarray 17, 3) := by decide +kernel
theorem dX5_init_19 : decode cX5_init 19 = .ok (.putfield 19, 3) := by decide +kernel
theorem dX5_init_22 : decode cX5_init 22 = .ok (.aload_n 0, 1) := by decide +kernel
theorem dX5_init_23 : decode cX5_init 23 = .ok (.bipush 80, 2) := by decide +kernel
theorem dX5_init_25 : decode cX5_init 25 = .ok (.newarray .int, 2) := by decide +kernel
theorem dX5_init_27 : decode cX5_init 27 = .ok (.putfield 23, 3) := by decide +kernel
theorem dX5_init_30 : decode cX5_init 30 = .ok (.iconst 0, 1) := by decide +kernel
theorem dX5_init_31 : decode cX5_init 31 = .ok (.istore_n 1, 1) := by decide +kernel
theorem dX5_init_32 : decode cX5_init 32 = .ok (.iload_n 1, 1) := by decide +kernel
theorem dX5_init_33 : decode cX5_init 33 = .ok (.bipush 40, 2) := by decide +kernel
theorem dX5_init_35 : decode cX5_init 35 = .ok (.if_icmp .ge 22, 3) := by decide +kernel
theorem dX5_init_38 : decode cX5_init 38 = .ok (.aload_n 0, 1) := by decide +kernel
theorem dX5_init_39 : decode cX5_init 39 = .ok (.getfield 11, 3) := by decide +kernel
theorem dX5_init_42 : decode cX5_init 42 = .ok (.iload_n 1, 1) := by decide +kernel
theorem dX5_init_43 : decode cX5_init 43 = .ok (.new 9, 3) := by decide +kernel
theorem dX5_init_46 : decode cX5_init 46 = .ok (.dup, 1) := by decide +kernel
theorem dX5_init_47 : decode cX5_init 47 = .ok (.invokespecial 27, 3) := by decide +kernel
theorem dX5_init_50 : decode cX5_init 50 = .ok (.aastore, 1) := by decide +kernel
theorem dX5_init_51 : decode cX5_init 51 = .ok (.iinc 1 1, 3) := by decide +kernel
theorem dX5_init_54 : decode cX5_init 54 = .ok (.goto (-22), 3) := by decide +kernel
theorem dX5_init_57 : decode cX5_init 57 = .ok (.iconst 0, 1) := by decide +kernel
theorem dX5_init_58 : decode cX5_init 58 = .ok (.istore_n 1, 1) := by decide +kernel
theorem dX5_init_59 : decode cX5_init 59 = .ok (.iload_n 1, 1) := by decide +kernel
theorem dX5_init_60 : decode cX5_init 60 = .ok (.bipush 90, 2) := by decide +kernel
theorem dX5_init_62 : decode cX5_init 62 = .ok (.if_icmp .ge 22, 3) := by decide +kernel
theorem dX5_init_65 : decode cX5_init 65 = .ok (.aload_n 0, 1) := by decide +kernel
theorem dX5_init_66 : decode cX5_init 66 = .ok (.getfield 19, 3) := by decide +kernel
theorem dX5_init_69 : decode cX5_init 69 = .ok (.iload_n 1, 1) := by decide +kernel
theorem dX5_init_70 : decode cX5_init 70 = .ok (.new 17, 3) := by decide +kernel
theorem dX5_init_73 : decode cX5_init 73 = .ok (.dup, 1) := by decide +kernel
theorem dX5_init_74 : decode cX5_init 74 = .ok (.invokespecial 28, 3) := by decide +kernel
theorem dX5_init_77 : decode cX5_init 77 = .ok (.aastore, 1) := by decide +kernel
theorem dX5_init_78 : decode cX5_init 78 = .ok (.iinc 1 1, 3) := by decide +kernel
theorem dX5_init_81 : decode cX5_init 81 = .ok (.goto (-22), 3) := by decide +kernel
theorem dX5_init_84 : decode cX5_init 84 = .ok (.return_, 1) := by decide +kernel
theorem dX5_size_0 : decode cX5_size 0 = .ok (.aload_n 0, 1) := by decide +kernel
theorem dX5_size_1 : decode cX5_size 1 = .ok (.getfield 29, 3) := by decide +kernel
theorem dX5_size_4 : decode cX5_size 4 = .ok (.ireturn, 1) := by decide +kernel
theorem dX5_open_0 : decode cX5_open 0 = .ok (.aload_n 0, 1) := by decide +kernel
theorem dX5_open_1 : decode cX5_open 1 = .ok (.getfield 33, 3) := by decide +kernel
theorem dX5_open_4 : decode cX5_open 4 = .ok (.ireturn, 1) := by decide +kernel
theorem dX5_tasks_0 : decode cX5_tasks 0 = .ok (.aload_n 0, 1) := by decide +kernel
theorem dX5_tasks_1 : decode cX5_tasks 1 = .ok (.getfield 36, 3) := by decide +kernel
theorem dX5_tasks_4 : decode cX5_tasks 4 = .ok (.ireturn, 1) := by decide +kernel
theorem dX5_pending_0 : decode cX5_pending 0 = .ok (.aload_n 0, 1) := by decide +kernel
theorem dX5_pending_1 : decode cX5_pending 1 = .ok (.getfield 39, 3) := by decide +kernel
theorem dX5_pending_4 : decode cX5_pending 4 = .ok (.ireturn, 1) := by decide +kernel
theorem dX5_arePendingFor_0 : decode cX5_arePendingFor 0 = .ok (.aload_n 0, 1) := by decide +kernel
theorem dX5_arePendingFor_1 : decode cX5_arePendingFor 1 = .ok (.getfield 23, 3) := by decide +kernel
theorem dX5_arePendingFor_4 : decode cX5_arePendingFor 4 = .ok (.iload_n 1, 1) := by decide +kernel
theorem dX5_arePendingFor_5 : decode cX5_arePendingFor 5 = .ok (.iaload, 1) := by decide +kernel
theorem dX5_arePendingFor_6 : decode cX5_arePendingFor 6 = .ok (.ifCond .le 7, 3) := by decide +kernel
theorem dX5_arePendingFor_9 : decode cX5_arePendingFor 9 = .ok (.iconst 1, 1) := by decide +kernel
theorem dX5_arePendingFor_10 : decode cX5_arePendingFor 10 = .ok (.goto 4, 3) := by decide +kernel
theorem dX5_arePendingFor_13 : decode cX5_arePendingFor 13 = .ok (.iconst 0, 1) := by decide +kernel
theorem dX5_arePendingFor_14 : decode cX5_arePendingFor 14 = .ok (.ireturn, 1) := by decide +kernel
theorem dX5_taskAt_0 : decode cX5_taskAt 0 = .ok (.aload_n 0, 1) := by decide +kernel
theorem dX5_taskAt_1 : decode cX5_taskAt 1 = .ok (.getfield 19, 3) := by decide +kernel
theorem dX5_taskAt_4 : decode cX5_taskAt 4 = .ok (.iload_n 1, 1) := by decide +kernel
theorem dX5_taskAt_5 : decode cX5_taskAt 5 = .ok (.aaload, 1) := by decide +kernel
theorem dX5_taskAt_6 : decode cX5_taskAt 6 = .ok (.areturn, 1) := by decide +kernel
theorem dX5_clear_0 : decode cX5_clear 0 = .ok (.aload_n 0, 1) := by decide +kernel
theorem dX5_clear_1 : decode cX5_clear 1 = .ok (.getfield 23, 3) := by decide +kernel
theorem dX5_clear_4 : decode cX5_clear 4 = .ok (.iconst 0, 1) := by decide +kernel
theorem dX5_clear_5 : decode cX5_clear 5 = .ok (.invokestatic 42, 3) := by decide +kernel
theorem dX5_clear_8 : decode cX5_clear 8 = .ok (.aload_n 0, 1) := by decide +kernel
theorem dX5_clear_9 : decode cX5_clear 9 = .ok (.iconst 0, 1) := by decide +kernel
theorem dX5_clear_10 : decode cX5_clear 10 = .ok (.putfield 29, 3) := by decide +kernel
theorem dX5_clear_13 : decode cX5_clear 13 = .ok (.aload_n 0, 1) := by decide +kernel
theorem dX5_clear_14 : decode cX5_clear 14 = .ok (.iconst 0, 1) := by decide +kernel
theorem dX5_clear_15 : decode cX5_clear 15 = .ok (.putfield 36, 3) := by decide +kernel
theorem dX5_clear_18 : decode cX5_clear 18 = .ok (.aload_n 0, 1) := by decide +kernel
theorem dX5_clear_19 : decode cX5_clear 19 = .ok (.iconst 0, 1) := by decide +kernel
theorem dX5_clear_20 : decode cX5_clear 20 = .ok (.putfield 33, 3) := by decide +kernel
theorem dX5_clear_23 : decode cX5_clear 23 = .ok (.aload_n 0, 1) := by decide +kernel
theorem dX5_clear_24 : decode cX5_clear 24 = .ok (.iconst 0, 1) := by decide +kernel
theorem dX5_clear_25 : decode cX5_clear 25 = .ok (.putfield 39, 3) := by decide +kernel
theorem dX5_clear_28 : decode cX5_clear 28 = .ok (.return_, 1) := by decide +kernel
theorem dX5_haveRoomFor_0 : decode cX5_haveRoomFor 0 = .ok (.aload_n 0, 1) := by decide +kernel
theorem dX5_haveRoomFor_1 : decode cX5_haveRoomFor 1 = .ok (.getfield 29, 3) := by decide +kernel
theorem dX5_haveRoomFor_4 : decode cX5_haveRoomFor 4 = .ok (.bipush 40, 2) := by decide +kernel
theorem dX5_haveRoomFor_6 : decode cX5_haveRoomFor 6 = .ok (.if_icmp .ge 18, 3) := by decide +kernel
theorem dX5_haveRoomFor_9 : decode cX5_haveRoomFor 9 = .ok (.aload_n 0, 1) := by decide +kernel
theorem dX5_haveRoomFor_10 : decode cX5_haveRoomFor 10 = .ok (.getfield 36, 3) := by decide +kernel
theorem dX5_haveRoomFor_13 : decode cX5_haveRoomFor 13 = .ok (.iload_n 1, 1) := by decide +kernel
theorem dX5_haveRoomFor_14 : decode cX5_haveRoomFor 14 = .ok (.iadd, 1) := by decide +kernel
theorem dX5_haveRoomFor_15 : decode cX5_haveRoomFor 15 = .ok (.bipush 90, 2) := by decide +kernel
theorem dX5_haveRoomFor_17 : decode cX5_haveRoomFor 17 = .ok (.if_icmp .gt 7, 3) := by decide +kernel
theorem dX5_haveRoomFor_20 : decode cX5_haveRoomFor 20 = .ok (.iconst 1, 1) := by decide +kernel
theorem dX5_haveRoomFor_21 : decode cX5_haveRoomFor 21 = .ok (.goto 4, 3) := by decide +kernel
theorem dX5_haveRoomFor_24 : decode cX5_haveRoomFor 24 = .ok (.iconst 0, 1) := by decide +kernel
theorem dX5_haveRoomFor_25 : decode cX5_haveRoomFor 25 = .ok (.ireturn, 1) := by decide +kernel
theorem dX5_add_0 : decode cX5_add 0 = .ok (.aload_n 0, 1) := by decide +kernel
theorem dX5_add_1 : decode cX5_add 1 = .ok (.getfield 11, 3) := by decide +kernel
theorem dX5_add_4 : decode cX5_add 4 = .ok (.aload_n 0, 1) := by decide +kernel
theorem dX5_add_5 : decode cX5_add 5 = .ok (.getfield 29, 3) := by decide +kernel
theorem dX5_add_8 : decode cX5_add 8 = .ok (.aaload, 1) := by decide +kernel
theorem dX5_add_9 : decode cX5_add 9 = .ok (.iload_n 1, 1) := by decide +kernel
theorem dX5_add_10 : decode cX5_add 10 = .ok (.iload_n 2, 1) := by decide +kernel
theorem dX5_add_11 : decode cX5_add 11 = .ok (.aload_n 0, 1) := by decide +kernel
theorem dX5_add_12 : decode cX5_add 12 = .ok (.getfield 36, 3) := by decide +kernel
theorem dX5_add_15 : decode cX5_add 15 = .ok (.iload_n 3, 1) := by decide +kernel
theorem dX5_add_16 : decode cX5_add 16 = .ok (.invokevirtual 48, 3) := by decide +kernel
theorem dX5_add_19 : decode cX5_add 19 = .ok (.aload_n 0, 1) := by decide +kernel
theorem dX5_add_20 : decode cX5_add 20 = .ok (.dup, 1) := by decide +kernel
theorem dX5_add_21 : decode cX5_add 21 = .ok (.getfield 33, 3) := by decide +kernel
theorem dX5_add_24 : decode cX5_add 24 = .ok (.iconst 1, 1) := by decide +kernel
theorem dX5_add_25 : decode cX5_add 25 = .ok (.iadd, 1) := by decide +kernel
theorem dX5_add_26 : decode cX5_add 26 = .ok (.putfield 33, 3) := by decide +kernel
theorem dX5_add_29 : decode cX5_add 29 = .ok (.aload_n 0, 1) := by decide +kernel
theorem dX5_add_30 : decode cX5_add 30 = .ok (.dup, 1) := by decide +kernel
theorem dX5_add_31 : decode cX5_add 31 = .ok (.getfield 29, 3) := by decide +kernel
theorem dX5_add_34 : decode cX5_add 34 = .ok (.iconst 1, 1) := by decide +kernel
theorem dX5_add_35 : decode cX5_add 35 = .ok (.iadd, 1) := by decide +kernel
theorem dX5_add_36 : decode cX5_add 36 = .ok (.putfield 29, 3) := by decide +kernel
theorem dX5_add_39 : decode cX5_add 39 = .ok (.aload_n 0, 1) := by decide +kernel
theorem dX5_add_40 : decode cX5_add 40 = .ok (.getfield 29, 3) := by decide +kernel
theorem dX5_add_43 : decode cX5_add 43 = .ok (.iconst 1, 1) := by decide +kernel
theorem dX5_add_44 : decode cX5_add 44 = .ok (.isub, 1) := by decide +kernel
theorem dX5_add_45 : decode cX5_add 45 = .ok (.ireturn, 1) := by decide +kernel
theorem dX5_addTask_0 : decode cX5_addTask 0 = .ok (.aload_n 0, 1) := by decide +kernel
theorem dX5_addTask_1 : decode cX5_addTask 1 = .ok (.getfield 11, 3) := by decide +kernel
theorem dX5_addTask_4 : decode cX5_addTask 4 = .ok (.iload_n 1, 1) := by decide +kernel
theorem dX5_addTask_5 : decode cX5_addTask 5 = .ok (.aaload, 1) := by decide +kernel
theorem dX5_addTask_6 : decode cX5_addTask 6 = .ok (.astore_n 3, 1) := by decide +kernel
theorem dX5_addTask_7 : decode cX5_addTask 7 = .ok (.aload_n 0, 1) := by decide +kernel
theorem dX5_addTask_8 : decode cX5_addTask 8 = .ok (.getfield 19, 3) := by decide +kernel
theorem dX5_addTask_11 : decode cX5_addTask 11 = .ok (.aload_n 0, 1) := by decide +kernel
theorem dX5_addTask_12 : decode cX5_addTask 12 = .ok (.getfield 36, 3) := by decide +kernel
theorem dX5_addTask_15 : decode cX5_addTask 15 = .ok (.aaload, 1) := by decide +kernel
theorem dX5_addTask_16 : decode cX5_addTask 16 = .ok (.iload_n 1, 1) := by decide +kernel
theorem dX5_addTask_17 : decode cX5_addTask 17 = .ok (.iload_n 2, 1) := by decide +kernel
theorem dX5_addTask_18 : decode cX5_addTask 18 = .ok (.aload_n 3, 1) := by decide +kernel
theorem dX5_addTask_19 : decode cX5_addTask 19 = .ok (.getfield 52, 3) := by decide +kernel
theorem dX5_addTask_22 : decode cX5_addTask 22 = .ok (.aload_n 3, 1) := by decide +kernel
theorem dX5_addTask_23 : decode cX5_addTask 23 = .ok (.getfield 55, 3) := by decide +kernel
theorem dX5_addTask_26 : decode cX5_addTask 26 = .ok (.invokevirtual 58, 3) := by decide +kernel
theorem dX5_addTask_29 : decode cX5_addTask 29 = .ok (.aload_n 0, 1) := by decide +kernel
theorem dX5_addTask_30 : decode cX5_addTask 30 = .ok (.dup, 1) := by decide +kernel
theorem dX5_addTask_31 : decode cX5_addTask 31 = .ok (.getfield 36, 3) := by decide +kernel
theorem dX5_addTask_34 : decode cX5_addTask 34 = .ok (.iconst 1, 1) := by decide +kernel
theorem dX5_addTask_35 : decode cX5_addTask 35 = .ok (.iadd, 1) := by decide +kernel
theorem dX5_addTask_36 : decode cX5_addTask 36 = .ok (.putfield 36, 3) := by decide +kernel
theorem dX5_addTask_39 : decode cX5_addTask 39 = .ok (.aload_n 0, 1) := by decide +kernel
theorem dX5_addTask_40 : decode cX5_addTask 40 = .ok (.dup, 1) := by decide +kernel
theorem dX5_addTask_41 : decode cX5_addTask 41 = .ok (.getfield 39, 3) := by decide +kernel
theorem dX5_addTask_44 : decode cX5_addTask 44 = .ok (.iconst 1, 1) := by decide +kernel
theorem dX5_addTask_45 : decode cX5_addTask 45 = .ok (.iadd, 1) := by decide +kernel
theorem dX5_addTask_46 : decode cX5_addTask 46 = .ok (.putfield 39, 3) := by decide +kernel
theorem dX5_addTask_49 : decode cX5_addTask 49 = .ok (.aload_n 0, 1) := by decide +kernel
theorem dX5_addTask_50 : decode cX5_addTask 50 = .ok (.getfield 23, 3) := by decide +kernel
theorem dX5_addTask_53 : decode cX5_addTask 53 = .ok (.aload_n 3, 1) := by decide +kernel
theorem dX5_addTask_54 : decode cX5_addTask 54 = .ok (.getfield 52, 3) := by decide +kernel
theorem dX5_addTask_57 : decode cX5_addTask 57 = .ok (.dup2, 1) := by decide +kernel
theorem dX5_addTask_58 : decode cX5_addTask 58 = .ok (.iaload, 1) := by decide +kernel
theorem dX5_addTask_59 : decode cX5_addTask 59 = .ok (.iconst 1, 1) := by decide +kernel
theorem dX5_addTask_60 : decode cX5_addTask 60 = .ok (.iadd, 1) := by decide +kernel
theorem dX5_addTask_61 : decode cX5_addTask 61 = .ok (.iastore, 1) := by decide +kernel
theorem dX5_addTask_62 : decode cX5_addTask 62 = .ok (.return_, 1) := by decide +kernel
theorem dX5_cancelPending_0 : decode cX5_cancelPending 0 = .ok (.iload_n 1, 1) := by decide +kernel
theorem dX5_cancelPending_1 : decode cX5_cancelPending 1 = .ok (.ifCond .lt 11, 3) := by decide +kernel
theorem dX5_cancelPending_4 : decode cX5_cancelPending 4 = .ok (.iload_n 1, 1) := by decide +kernel
theorem dX5_cancelPending_5 : decode cX5_cancelPending 5 = .ok (.aload_n 0, 1) := by decide +kernel
theorem dX5_cancelPending_6 : decode cX5_cancelPending 6 = .ok (.getfield 29, 3) := by decide +kernel
theorem dX5_cancelPending_9 : decode cX5_cancelPending 9 = .ok (.if_icmp .lt 6, 3) := by decide +kernel
theorem dX5_cancelPending_12 : decode cX5_cancelPending 12 = .ok (.bipush (-2), 2) := by decide +kernel
theorem dX5_cancelPending_14 : decode cX5_cancelPending 14 = .ok (.ireturn, 1) := by decide +kernel
theorem dX5_cancelPending_15 : decode cX5_cancelPending 15 = .ok (.aload_n 0, 1) := by decide +kernel
theorem dX5_cancelPending_16 : decode cX5_cancelPending 16 = .ok (.getfield 11, 3) := by decide +kernel
theorem dX5_cancelPending_19 : decode cX5_cancelPending 19 = .ok (.iload_n 1, 1) := by decide +kernel
theorem dX5_cancelPending_20 : decode cX5_cancelPending 20 = .ok (.aaload, 1) := by decide +kernel
theorem dX5_cancelPending_21 : decode cX5_cancelPending 21 = .ok (.astore_n 3, 1) := by decide +kernel
theorem dX5_cancelPending_22 : decode cX5_cancelPending 22 = .ok (.iconst 0, 1) := by decide +kernel
theorem dX5_cancelPending_23 : decode cX5_cancelPending 23 = .ok (.istore 4, 2) := by decide +kernel
theorem dX5_cancelPending_25 : decode cX5_cancelPending 25 = .ok (.iconst 0, 1) := by decide +kernel
theorem dX5_cancelPending_26 : decode cX5_cancelPending 26 = .ok (.istore 5, 2) := by decide +kernel
theorem dX5_cancelPending_28 : decode cX5_cancelPending 28 = .ok (.iload 5, 2) := by decide +kernel
theorem dX5_cancelPending_30 : decode cX5_cancelPending 30 = .ok (.aload_n 3, 1) := by decide +kernel
theorem dX5_cancelPending_31 : decode cX5_cancelPending 31 = .ok (.getfield 59, 3) := by decide +kernel
theorem dX5_cancelPending_34 : decode cX5_cancelPending 34 = .ok (.if_icmp .ge 47, 3) := by decide +kernel
theorem dX5_cancelPending_37 : decode cX5_cancelPending 37 = .ok (.aload_n 0, 1) := by decide +kernel
theorem dX5_cancelPending_38 : decode cX5_cancelPending 38 = .ok (.getfield 19, 3) := by decide +kernel
theorem dX5_cancelPending_41 : decode cX5_cancelPending 41 = .ok (.aload_n 3, 1) := by decide +kernel
theorem dX5_cancelPending_42 : decode cX5_cancelPending 42 = .ok (.getfield 61, 3) := by decide +kernel
theorem dX5_cancelPending_45 : decode cX5_cancelPending 45 = .ok (.iload 5, 2) := by decide +kernel
theorem dX5_cancelPending_47 : decode cX5_cancelPending 47 = .ok (.iadd, 1) := by decide +kernel
theorem dX5_cancelPending_48 : decode cX5_cancelPending 48 = .ok (.aaload, 1) := by decide +kernel
theorem dX5_cancelPending_49 : decode cX5_cancelPending 49 = .ok (.astore 6, 2) := by decide +kernel
theorem dX5_cancelPending_51 : decode cX5_cancelPending 51 = .ok (.aload 6, 2) := by decide +kernel
theorem dX5_cancelPending_53 : decode cX5_cancelPending 53 = .ok (.getfield 64, 3) := by decide +kernel
theorem dX5_cancelPending_56 : decode cX5_cancelPending 56 = .ok (.ifCond .ne 19, 3) := by decide +kernel
theorem dX5_cancelPending_59 : decode cX5_cancelPending 59 = .ok (.aload_n 0, 1) := by decide +kernel
theorem dX5_cancelPending_60 : decode cX5_cancelPending 60 = .ok (.aload 6, 2) := by decide +kernel
theorem dX5_cancelPending_62 : decode cX5_cancelPending 62 = .ok (.iconst 4, 1) := by decide +kernel
theorem dX5_cancelPending_63 : decode cX5_cancelPending 63 = .ok (.invokevirtual 67, 3) := by decide +kernel
theorem dX5_cancelPending_66 : decode cX5_cancelPending 66 = .ok (.aload_n 0, 1) := by decide +kernel
theorem dX5_cancelPending_67 : decode cX5_cancelPending 67 = .ok (.aload_n 3, 1) := by decide +kernel
theorem dX5_cancelPending_68 : decode cX5_cancelPending 68 = .ok (.iload_n 2, 1) := by decide +kernel
theorem dX5_cancelPending_69 : decode cX5_cancelPending 69 = .ok (.invokevirtual 71, 3) := by decide +kernel
theorem dX5_cancelPending_72 : decode cX5_cancelPending 72 = .ok (.iinc 4 1, 3) := by decide +kernel
theorem dX5_cancelPending_75 : decode cX5_cancelPending 75 = .ok (.iinc 5 1, 3) := by decide +kernel
theorem dX5_cancelPending_78 : decode cX5_cancelPending 78 = .ok (.goto (-50), 3) := by decide +kernel
theorem dX5_cancelPending_81 : decode cX5_cancelPending 81 = .ok (.iload 4, 2) := by decide +kernel
theorem dX5_cancelPending_83 : decode cX5_cancelPending 83 = .ok (.ireturn, 1) := by decide +kernel
theorem dX5_take_0 : decode cX5_take 0 = .ok (.aload_n 0, 1) := by decide +kernel
theorem dX5_take_1 : decode cX5_take 1 = .ok (.aload_n 1, 1) := by decide +kernel
theorem dX5_take_2 : decode cX5_take 2 = .ok (.iconst 1, 1) := by decide +kernel
theorem dX5_take_3 : decode cX5_take 3 = .ok (.invokevirtual 67, 3) := by decide +kernel
theorem dX5_take_6 : decode cX5_take 6 = .ok (.aload_n 1, 1) := by decide +kernel
theorem dX5_take_7 : decode cX5_take 7 = .ok (.iload_n 2, 1) := by decide +kernel
theorem dX5_take_8 : decode cX5_take 8 = .ok (.putfield 75, 3) := by decide +kernel
theorem dX5_take_11 : decode cX5_take 11 = .ok (.aload_n 1, 1) := by decide +kernel
theorem dX5_take_12 : decode cX5_take 12 = .ok (.iload_n 3, 1) := by decide +kernel
theorem dX5_take_13 : decode cX5_take 13 = .ok (.putfield 78, 3) := by decide +kernel
theorem dX5_take_16 : decode cX5_take 16 = .ok (.return_, 1) := by decide +kernel
theorem dX5_pick_0 : decode cX5_pick 0 = .ok (.aload_n 1, 1) := by decide +kernel
theorem dX5_pick_1 : decode cX5_pick 1 = .ok (.iconst 2, 1) := by decide +kernel
theorem dX5_pick_2 : decode cX5_pick 2 = .ok (.putfield 64, 3) := by decide +kernel
theorem dX5_pick_5 : decode cX5_pick 5 = .ok (.aload_n 1, 1) := by decide +kernel
theorem dX5_pick_6 : decode cX5_pick 6 = .ok (.iload_n 2, 1) := by decide +kernel
theorem dX5_pick_7 : decode cX5_pick 7 = .ok (.putfield 81, 3) := by decide +kernel
theorem dX5_pick_10 : decode cX5_pick 10 = .ok (.return_, 1) := by decide +kernel
theorem dX5_bring_0 : decode cX5_bring 0 = .ok (.aload_n 1, 1) := by decide +kernel
theorem dX5_bring_1 : decode cX5_bring 1 = .ok (.iconst 3, 1) := by decide +kernel
theorem dX5_bring_2 : decode cX5_bring 2 = .ok (.putfield 64, 3) := by decide +kernel
theorem dX5_bring_5 : decode cX5_bring 5 = .ok (.aload_n 1, 1) := by decide +kernel
theorem dX5_bring_6 : decode cX5_bring 6 = .ok (.iload_n 2, 1) := by decide +kernel
theorem dX5_bring_7 : decode cX5_bring 7 = .ok (.putfield 84, 3) := by decide +kernel
theorem dX5_bring_10 : decode cX5_bring 10 = .ok (.aload_n 0, 1) := by decide +kernel
theorem dX5_bring_11 : decode cX5_bring 11 = .ok (.aload_n 0, 1) := by decide +kernel
theorem dX5_bring_12 : decode cX5_bring 12 = .ok (.getfield 11, 3) := by decide +kernel
theorem dX5_bring_15 : decode cX5_bring 15 = .ok (.aload_n 1, 1) := by decide +kernel
theorem dX5_bring_16 : decode cX5_bring 16 = .ok (.getfield 87, 3) := by decide +kernel
theorem dX5_bring_19 : decode cX5_bring 19 = .ok (.aaload, 1) := by decide +kernel
theorem dX5_bring_20 : decode cX5_bring 20 = .ok (.iload_n 2, 1) := by decide +kernel
theorem dX5_bring_21 : decode cX5_bring 21 = .ok (.invokevirtual 71, 3) := by decide +kernel
theorem dX5_bring_24 : decode cX5_bring 24 = .ok (.return_, 1) := by decide +kernel
theorem dX5_leavePending_0 : decode cX5_leavePending 0 = .ok (.aload_n 1, 1) := by decide +kernel
theorem dX5_leavePending_1 : decode cX5_leavePending 1 = .ok (.iload_n 2, 1) := by decide +kernel
theorem dX5_leavePending_2 : decode cX5_leavePending 2 = .ok (.putfield 64, 3) := by decide +kernel
theorem dX5_leavePending_5 : decode cX5_leavePending 5 = .ok (.aload_n 0, 1) := by decide +kernel
theorem dX5_leavePending_6 : decode cX5_leavePending 6 = .ok (.dup, 1) := by decide +kernel
theorem dX5_leavePending_7 : decode cX5_leavePending 7 = .ok (.getfield 39, 3) := by decide +kernel
theorem dX5_leavePending_10 : decode cX5_leavePending 10 = .ok (.iconst 1, 1) := by decide +kernel
theorem dX5_leavePending_11 : decode cX5_leavePending 11 = .ok (.isub, 1) := by decide +kernel
theorem dX5_leavePending_12 : decode cX5_leavePending 12 = .ok (.putfield 39, 3) := by decide +kernel
theorem dX5_leavePending_15 : decode cX5_leavePending 15 = .ok (.aload_n 0, 1) := by decide +kernel
theorem dX5_leavePending_16 : decode cX5_leavePending 16 = .ok (.getfield 23, 3) := by decide +kernel
theorem dX5_leavePending_19 : decode cX5_leavePending 19 = .ok (.aload_n 1, 1) := by decide +kernel
theorem dX5_leavePending_20 : decode cX5_leavePending 20 = .ok (.getfield 90, 3) := by decide +kernel
theorem dX5_leavePending_23 : decode cX5_leavePending 23 = .ok (.dup2, 1) := by decide +kernel
theorem dX5_leavePending_24 : decode cX5_leavePending 24 = .ok (.iaload, 1) := by decide +kernel
theorem dX5_leavePending_25 : decode cX5_leavePending 25 = .ok (.iconst 1, 1) := by decide +kernel
theorem dX5_leavePending_26 : decode cX5_leavePending 26 = .ok (.isub, 1) := by decide +kernel
theorem dX5_leavePending_27 : decode cX5_leavePending 27 = .ok (.iastore, 1) := by decide +kernel
theorem dX5_leavePending_28 : decode cX5_leavePending 28 = .ok (.return_, 1) := by decide +kernel
theorem dX5_finishOne_0 : decode cX5_finishOne 0 = .ok (.aload_n 1, 1) := by decide +kernel
theorem dX5_finishOne_1 : decode cX5_finishOne 1 = .ok (.dup, 1) := by decide +kernel
theorem dX5_finishOne_2 : decode cX5_finishOne 2 = .ok (.getfield 91, 3) := by decide +kernel
theorem dX5_finishOne_5 : decode cX5_finishOne 5 = .ok (.iconst 1, 1) := by decide +kernel
theorem dX5_finishOne_6 : decode cX5_finishOne 6 = .ok (.isub, 1) := by decide +kernel
theorem dX5_finishOne_7 : decode cX5_finishOne 7 = .ok (.putfield 91, 3) := by decide +kernel
theorem dX5_finishOne_10 : decode cX5_finishOne 10 = .ok (.aload_n 1, 1) := by decide +kernel
theorem dX5_finishOne_11 : decode cX5_finishOne 11 = .ok (.getfield 91, 3) := by decide +kernel
theorem dX5_finishOne_14 : decode cX5_finishOne 14 = .ok (.ifCond .ne 18, 3) := by decide +kernel
theorem dX5_finishOne_17 : decode cX5_finishOne 17 = .ok (.aload_n 1, 1) := by decide +kernel
theorem dX5_finishOne_18 : decode cX5_finishOne 18 = .ok (.iload_n 2, 1) := by decide +kernel
theorem dX5_finishOne_19 : decode cX5_finishOne 19 = .ok (.putfield 94, 3) := by decide +kernel
theorem dX5_finishOne_22 : decode cX5_finishOne 22 = .ok (.aload_n 0, 1) := by decide +kernel
theorem dX5_finishOne_23 : decode cX5_finishOne 23 = .ok (.dup, 1) := by decide +kernel
theorem dX5_finishOne_24 : decode cX5_finishOne 24 = .ok (.getfield 33, 3) := by decide +kernel
theorem dX5_finishOne_27 : decode cX5_finishOne 27 = .ok (.iconst 1, 1) := by decide +kernel
theorem dX5_finishOne_28 : decode cX5_finishOne 28 = .ok (.isub, 1) := by decide +kernel
theorem dX5_finishOne_29 : decode cX5_finishOne 29 = .ok (.putfield 33, 3) := by decide +kernel
theorem dX5_finishOne_32 : decode cX5_finishOne 32 = .ok (.return_, 1) := by decide +kernel
theorem dX5_tellTask_0 : decode cX5_tellTask 0 = .ok (.iload_n 1, 1) := by decide +kernel
theorem dX5_tellTask_1 : decode cX5_tellTask 1 = .ok (.ifCond .lt 11, 3) := by decide +kernel
theorem dX5_tellTask_4 : decode cX5_tellTask 4 = .ok (.iload_n 1, 1) := by decide +kernel
theorem dX5_tellTask_5 : decode cX5_tellTask 5 = .ok (.aload_n 0, 1) := by decide +kernel
theorem dX5_tellTask_6 : decode cX5_tellTask 6 = .ok (.getfield 36, 3) := by decide +kernel
theorem dX5_tellTask_9 : decode cX5_tellTask 9 = .ok (.if_icmp .lt 7, 3) := by decide +kernel
theorem dX5_tellTask_12 : decode cX5_tellTask 12 = .ok (.iconst (-1), 1) := by decide +kernel
theorem dX5_tellTask_13 : decode cX5_tellTask 13 = .ok (.goto 13, 3) := by decide +kernel
theorem dX5_tellTask_16 : decode cX5_tellTask 16 = .ok (.aload_n 0, 1) := by decide +kernel
theorem dX5_tellTask_17 : decode cX5_tellTask 17 = .ok (.getfield 19, 3) := by decide +kernel
theorem dX5_tellTask_20 : decode cX5_tellTask 20 = .ok (.iload_n 1, 1) := by decide +kernel
theorem dX5_tellTask_21 : decode cX5_tellTask 21 = .ok (.aaload, 1) := by decide +kernel
theorem dX5_tellTask_22 : decode cX5_tellTask 22 = .ok (.iload_n 2, 1) := by decide +kernel
theorem dX5_tellTask_23 : decode cX5_tellTask 23 = .ok (.invokevirtual 97, 3) := by decide +kernel
theorem dX5_tellTask_26 : decode cX5_tellTask 26 = .ok (.ireturn, 1) := by decide +kernel
theorem dX5_tellOrder_0 : decode cX5_tellOrder 0 = .ok (.iload_n 1, 1) := by decide +kernel
theorem dX5_tellOrder_1 : decode cX5_tellOrder 1 = .ok (.ifCond .lt 11, 3) := by decide +kernel
theorem dX5_tellOrder_4 : decode cX5_tellOrder 4 = .ok (.iload_n 1, 1) := by decide +kernel
theorem dX5_tellOrder_5 : decode cX5_tellOrder 5 = .ok (.aload_n 0, 1) := by decide +kernel
theorem dX5_tellOrder_6 : decode cX5_tellOrder 6 = .ok (.getfield 29, 3) := by decide +kernel
theorem dX5_tellOrder_9 : decode cX5_tellOrder 9 = .ok (.if_icmp .lt 7, 3) := by decide +kernel
theorem dX5_tellOrder_12 : decode cX5_tellOrder 12 = .ok (.iconst (-1), 1) := by decide +kernel
theorem dX5_tellOrder_13 : decode cX5_tellOrder 13 = .ok (.goto 13, 3) := by decide +kernel
theorem dX5_tellOrder_16 : decode cX5_tellOrder 16 = .ok (.aload_n 0, 1) := by decide +kernel
theorem dX5_tellOrder_17 : decode cX5_tellOrder 17 = .ok (.getfield 11, 3) := by decide +kernel
theorem dX5_tellOrder_20 : decode cX5_tellOrder 20 = .ok (.iload_n 1, 1) := by decide +kernel
theorem dX5_tellOrder_21 : decode cX5_tellOrder 21 = .ok (.aaload, 1) := by decide +kernel
theorem dX5_tellOrder_22 : decode cX5_tellOrder 22 = .ok (.iload_n 2, 1) := by decide +kernel
theorem dX5_tellOrder_23 : decode cX5_tellOrder 23 = .ok (.invokevirtual 101, 3) := by decide +kernel
theorem dX5_tellOrder_26 : decode cX5_tellOrder 26 = .ok (.ireturn, 1) := by decide +kernel
