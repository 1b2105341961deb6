theorem dX7_init_0 : decode cX7_init 0 = .ok (.aload_n 0, 1) := by decide +kernel
theorem dX7_init_1 : decode cX7_init 1 = .ok (.invokespecial 3, 3) := by decide +kernel
theorem dX7_init_4 : decode cX7_init 4 = .ok (.return_, 1) := by decide +kernel
theorem dX7_begin_0 : decode cX7_begin 0 = .ok (.aload_n 0, 1) := by decide +kernel
theorem dX7_begin_1 : decode cX7_begin 1 = .ok (.iload_n 1, 1) := by decide +kernel
theorem dX7_begin_2 : decode cX7_begin 2 = .ok (.putfield 9, 3) := by decide +kernel
theorem dX7_begin_5 : decode cX7_begin 5 = .ok (.aload_n 0, 1) := by decide +kernel
theorem dX7_begin_6 : decode cX7_begin 6 = .ok (.iload_n 2, 1) := by decide +kernel
theorem dX7_begin_7 : decode cX7_begin 7 = .ok (.putfield 15, 3) := by decide +kernel
theorem dX7_begin_10 : decode cX7_begin 10 = .ok (.aload_n 0, 1) := by decide +kernel
theorem dX7_begin_11 : decode cX7_begin 11 = .ok (.iload_n 3, 1) := by decide +kernel
theorem dX7_begin_12 : decode cX7_begin 12 = .ok (.putfield 18, 3) := by decide +kernel
theorem dX7_begin_15 : decode cX7_begin 15 = .ok (.aload_n 0, 1) := by decide +kernel
theorem dX7_begin_16 : decode cX7_begin 16 = .ok (.iconst 0, 1) := by decide +kernel
theorem dX7_begin_17 : decode cX7_begin 17 = .ok (.putfield 21, 3) := by decide +kernel
theorem dX7_begin_20 : decode cX7_begin 20 = .ok (.aload_n 0, 1) := by decide +kernel
theorem dX7_begin_21 : decode cX7_begin 21 = .ok (.iconst (-1), 1) := by decide +kernel
theorem dX7_begin_22 : decode cX7_begin 22 = .ok (.putfield 24, 3) := by decide +kernel
theorem dX7_begin_25 : decode cX7_begin 25 = .ok (.aload_n 0, 1) := by decide +kernel
theorem dX7_begin_26 : decode cX7_begin 26 = .ok (.iload 4, 2) := by decide +kernel
theorem dX7_begin_28 : decode cX7_begin 28 = .ok (.putfield 27, 3) := by decide +kernel
theorem dX7_begin_31 : decode cX7_begin 31 = .ok (.aload_n 0, 1) := by decide +kernel
theorem dX7_begin_32 : decode cX7_begin 32 = .ok (.iconst (-1), 1) := by decide +kernel
theorem dX7_begin_33 : decode cX7_begin 33 = .ok (.putfield 30, 3) := by decide +kernel
theorem dX7_begin_36 : decode cX7_begin 36 = .ok (.aload_n 0, 1) := by decide +kernel
theorem dX7_begin_37 : decode cX7_begin 37 = .ok (.iconst (-1), 1) := by decide +kernel
theorem dX7_begin_38 : decode cX7_begin 38 = .ok (.putfield 33, 3) := by decide +kernel
theorem dX7_begin_41 : decode cX7_begin 41 = .ok (.aload_n 0, 1) := by decide +kernel
theorem dX7_begin_42 : decode cX7_begin 42 = .ok (.iconst (-1), 1) := by decide +kernel
theorem dX7_begin_43 : decode cX7_begin 43 = .ok (.putfield 36, 3) := by decide +kernel
theorem dX7_begin_46 : decode cX7_begin 46 = .ok (.return_, 1) := by decide +kernel
theorem dX7_tell_0 : decode cX7_tell 0 = .ok (.iload_n 1, 1) := by decide +kernel
theorem dX7_tell_1 : decode cX7_tell 1 = .ok (.tableswitch 96 0 8 #[51, 56, 61, 66, 71, 76, 81, 86, 91], 51) := by decide +kernel
theorem dX7_tell_52 : decode cX7_tell 52 = .ok (.aload_n 0, 1) := by decide +kernel
theorem dX7_tell_53 : decode cX7_tell 53 = .ok (.getfield 9, 3) := by decide +kernel
theorem dX7_tell_56 : decode cX7_tell 56 = .ok (.ireturn, 1) := by decide +kernel
theorem dX7_tell_57 : decode cX7_tell 57 = .ok (.aload_n 0, 1) := by decide +kernel
theorem dX7_tell_58 : decode cX7_tell 58 = .ok (.getfield 15, 3) := by decide +kernel
theorem dX7_tell_61 : decode cX7_tell 61 = .ok (.ireturn, 1) := by decide +kernel
theorem dX7_tell_62 : decode cX7_tell 62 = .ok (.aload_n 0, 1) := by decide +kernel
theorem dX7_tell_63 : decode cX7_tell 63 = .ok (.getfield 18, 3) := by decide +kernel
theorem dX7_tell_66 : decode cX7_tell 66 = .ok (.ireturn, 1) := by decide +kernel
theorem dX7_tell_67 : decode cX7_tell 67 = .ok (.aload_n 0, 1) := by decide +kernel
theorem dX7_tell_68 : decode cX7_tell 68 = .ok (.getfield 21, 3) := by decide +kernel
theorem dX7_tell_71 : decode cX7_tell 71 = .ok (.ireturn, 1) := by decide +kernel
theorem dX7_tell_72 : decode cX7_tell 72 = .ok (.aload_n 0, 1) := by decide +kernel
theorem dX7_tell_73 : decode cX7_tell 73 = .ok (.getfield 24, 3) := by decide +kernel
theorem dX7_tell_76 : decode cX7_tell 76 = .ok (.ireturn, 1) := by decide +kernel
theorem dX7_tell_77 : decode cX7_tell 77 = .ok (.aload_n 0, 1) := by decide +kernel
theorem dX7_tell_78 : decode cX7_tell 78 = .ok (.getfield 27, 3) := by decide +kernel
theorem dX7_tell_81 : decode cX7_tell 81 = .ok (.ireturn, 1) := by decide +kernel
theorem dX7_tell_82 : decode cX7_tell 82 = .ok (.aload_n 0, 1) := by decide +kernel
theorem dX7_tell_83 : decode cX7_tell 83 = .ok (.getfield 30, 3) := by decide +kernel
theorem dX7_tell_86 : decode cX7_tell 86 = .ok (.ireturn, 1) := by decide +kernel
theorem dX7_tell_87 : decode cX7_tell 87 = .ok (.aload_n 0, 1) := by decide +kernel
theorem dX7_tell_88 : decode cX7_tell 88 = .ok (.getfield 33, 3) := by decide +kernel
theorem dX7_tell_91 : decode cX7_tell 91 = .ok (.ireturn, 1) := by decide +kernel
theorem dX7_tell_92 : decode cX7_tell 92 = .ok (.aload_n 0, 1) := by decide +kernel
theorem dX7_tell_93 : decode cX7_tell 93 = .ok (.getfield 36, 3) := by decide +kernel
theorem dX7_tell_96 : decode cX7_tell 96 = .ok (.ireturn, 1) := by decide +kernel
theorem dX7_tell_97 : decode cX7_tell 97 = .ok (.bipush (-2), 2) := by decide +kernel
theorem dX7_tell_99 : decode cX7_tell 99 = .ok (.ireturn, 1) := by decide +kernel
