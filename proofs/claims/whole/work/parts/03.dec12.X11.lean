theorem dX11_init_0 : decode cX11_init 0 = .ok (.aload_n 0, 1) := by decide +kernel
theorem dX11_init_1 : decode cX11_init 1 = .ok (.invokespecial 1, 3) := by decide +kernel
theorem dX11_init_4 : decode cX11_init 4 = .ok (.aload_n 0, 1) := by decide +kernel
theorem dX11_init_5 : decode cX11_init 5 = .ok (.bipush 90, 2) := by decide +kernel
theorem dX11_init_7 : decode cX11_init 7 = .ok (.newarray .int, 2) := by decide +kernel
theorem dX11_init_9 : decode cX11_init 9 = .ok (.putfield 7, 3) := by decide +kernel
theorem dX11_init_12 : decode cX11_init 12 = .ok (.aload_n 0, 1) := by decide +kernel
theorem dX11_init_13 : decode cX11_init 13 = .ok (.iconst (-1), 1) := by decide +kernel
theorem dX11_init_14 : decode cX11_init 14 = .ok (.putfield 13, 3) := by decide +kernel
theorem dX11_init_17 : decode cX11_init 17 = .ok (.aload_n 0, 1) := by decide +kernel
theorem dX11_init_18 : decode cX11_init 18 = .ok (.bipush 80, 2) := by decide +kernel
theorem dX11_init_20 : decode cX11_init 20 = .ok (.newarray .int, 2) := by decide +kernel
theorem dX11_init_22 : decode cX11_init 22 = .ok (.putfield 17, 3) := by decide +kernel
theorem dX11_init_25 : decode cX11_init 25 = .ok (.aload_n 0, 1) := by decide +kernel
theorem dX11_init_26 : decode cX11_init 26 = .ok (.bipush 80, 2) := by decide +kernel
theorem dX11_init_28 : decode cX11_init 28 = .ok (.newarray .int, 2) := by decide +kernel
theorem dX11_init_30 : decode cX11_init 30 = .ok (.putfield 20, 3) := by decide +kernel
theorem dX11_init_33 : decode cX11_init 33 = .ok (.aload_n 0, 1) := by decide +kernel
theorem dX11_init_34 : decode cX11_init 34 = .ok (.sipush 6400, 3) := by decide +kernel
theorem dX11_init_37 : decode cX11_init 37 = .ok (.newarray .int, 2) := by decide +kernel
theorem dX11_init_39 : decode cX11_init 39 = .ok (.putfield 23, 3) := by decide +kernel
theorem dX11_init_42 : decode cX11_init 42 = .ok (.aload_n 0, 1) := by decide +kernel
theorem dX11_init_43 : decode cX11_init 43 = .ok (.bipush 80, 2) := by decide +kernel
theorem dX11_init_45 : decode cX11_init 45 = .ok (.newarray .boolean, 2) := by decide +kernel
theorem dX11_init_47 : decode cX11_init 47 = .ok (.putfield 26, 3) := by decide +kernel
theorem dX11_init_50 : decode cX11_init 50 = .ok (.aload_n 0, 1) := by decide +kernel
theorem dX11_init_51 : decode cX11_init 51 = .ok (.sipush 31200, 3) := by decide +kernel
theorem dX11_init_54 : decode cX11_init 54 = .ok (.newarray .int, 2) := by decide +kernel
theorem dX11_init_56 : decode cX11_init 56 = .ok (.putfield 30, 3) := by decide +kernel
theorem dX11_init_59 : decode cX11_init 59 = .ok (.aload_n 0, 1) := by decide +kernel
theorem dX11_init_60 : decode cX11_init 60 = .ok (.bipush 6, 2) := by decide +kernel
theorem dX11_init_62 : decode cX11_init 62 = .ok (.newarray .int, 2) := by decide +kernel
theorem dX11_init_64 : decode cX11_init 64 = .ok (.putfield 33, 3) := by decide +kernel
theorem dX11_init_67 : decode cX11_init 67 = .ok (.aload_n 0, 1) := by decide +kernel
theorem dX11_init_68 : decode cX11_init 68 = .ok (.bipush 6, 2) := by decide +kernel
theorem dX11_init_70 : decode cX11_init 70 = .ok (.newarray .int, 2) := by decide +kernel
theorem dX11_init_72 : decode cX11_init 72 = .ok (.putfield 36, 3) := by decide +kernel
theorem dX11_init_75 : decode cX11_init 75 = .ok (.aload_n 0, 1) := by decide +kernel
theorem dX11_init_76 : decode cX11_init 76 = .ok (.bipush 6, 2) := by decide +kernel
theorem dX11_init_78 : decode cX11_init 78 = .ok (.newarray .int, 2) := by decide +kernel
theorem dX11_init_80 : decode cX11_init 80 = .ok (.putfield 39, 3) := by decide +kernel
theorem dX11_init_83 : decode cX11_init 83 = .ok (.aload_n 0, 1) := by decide +kernel
theorem dX11_init_84 : decode cX11_init 84 = .ok (.bipush 6, 2) := by decide +kernel
theorem dX11_init_86 : decode cX11_init 86 = .ok (.newarray .int, 2) := by decide +kernel
theorem dX11_init_88 : decode cX11_init 88 = .ok (.putfield 42, 3) := by decide +kernel
theorem dX11_init_91 : decode cX11_init 91 = .ok (.aload_n 0, 1) := by decide +kernel
theorem dX11_init_92 : decode cX11_init 92 = .ok (.bipush 6, 2) := by decide +kernel
theorem dX11_init_94 : decode cX11_init 94 = .ok (.newarray .int, 2) := by decide +kernel
theorem dX11_init_96 : decode cX11_init 96 = .ok (.putfield 45, 3) := by decide +kernel
theorem dX11_init_99 : decode cX11_init 99 = .ok (.aload_n 0, 1) := by decide +kernel
theorem dX11_init_100 : decode cX11_init 100 = .ok (.bipush 40, 2) := by decide +kernel
theorem dX11_init_102 : decode cX11_init 102 = .ok (.newarray .int, 2) := by decide +kernel
theorem dX11_init_104 : decode cX11_init 104 = .ok (.putfield 48, 3) := by decide +kernel
theorem dX11_init_107 : decode cX11_init 107 = .ok (.aload_n 0, 1) := by decide +kernel
theorem dX11_init_108 : decode cX11_init 108 = .ok (.bipush 40, 2) := by decide +kernel
theorem dX11_init_110 : decode cX11_init 110 = .ok (.newarray .int, 2) := by decide +kernel
theorem dX11_init_112 : decode cX11_init 112 = .ok (.putfield 51, 3) := by decide +kernel
theorem dX11_init_115 : decode cX11_init 115 = .ok (.aload_n 0, 1) := by decide +kernel
theorem dX11_init_116 : decode cX11_init 116 = .ok (.bipush 40, 2) := by decide +kernel
theorem dX11_init_118 : decode cX11_init 118 = .ok (.newarray .int, 2) := by decide +kernel
theorem dX11_init_120 : decode cX11_init 120 = .ok (.putfield 54, 3) := by decide +kernel
theorem dX11_init_123 : decode cX11_init 123 = .ok (.aload_n 0, 1) := by decide +kernel
theorem dX11_init_124 : decode cX11_init 124 = .ok (.bipush 40, 2) := by decide +kernel
theorem dX11_init_126 : decode cX11_init 126 = .ok (.newarray .int, 2) := by decide +kernel
theorem dX11_init_128 : decode cX11_init 128 = .ok (.putfield 57, 3) := by decide +kernel
theorem dX11_init_131 : decode cX11_init 131 = .ok (.aload_n 0, 1) := by decide +kernel
theorem dX11_init_132 : decode cX11_init 132 = .ok (.bipush 40, 2) := by decide +kernel
theorem dX11_init_134 : decode cX11_init 134 = .ok (.newarray .int, 2) := by decide +kernel
theorem dX11_init_136 : decode cX11_init 136 = .ok (.putfield 60, 3) := by decide +kernel
theorem dX11_init_139 : decode cX11_init 139 = .ok (.aload_n 0, 1) := by decide +kernel
theorem dX11_init_140 : decode cX11_init 140 = .ok (.bipush 90, 2) := by decide +kernel
theorem dX11_init_142 : decode cX11_init 142 = .ok (.newarray .int, 2) := by decide +kernel
theorem dX11_init_144 : decode cX11_init 144 = .ok (.putfield 63, 3) := by decide +kernel
theorem dX11_init_147 : decode cX11_init 147 = .ok (.aload_n 0, 1) := by decide +kernel
theorem dX11_init_148 : decode cX11_init 148 = .ok (.bipush 90, 2) := by decide +kernel
theorem dX11_init_150 : decode cX11_init 150 = .ok (.newarray .int, 2) := by decide +kernel
theorem dX11_init_152 : decode cX11_init 152 = .ok (.putfield 66, 3) := by decide +kernel
theorem dX11_init_155 : decode cX11_init 155 = .ok (.aload_n 0, 1) := by decide +kernel
theorem dX11_init_156 : decode cX11_init 156 = .ok (.bipush 90, 2) := by decide +kernel
theorem dX11_init_158 : decode cX11_init 158 = .ok (.newarray .int, 2) := by decide +kernel
theorem dX11_init_160 : decode cX11_init 160 = .ok (.putfield 69, 3) := by decide +kernel
theorem dX11_init_163 : decode cX11_init 163 = .ok (.aload_n 0, 1) := by decide +kernel
theorem dX11_init_164 : decode cX11_init 164 = .ok (.bipush 90, 2) := by decide +kernel
theorem dX11_init_166 : decode cX11_init 166 = .ok (.newarray .int, 2) := by decide +kernel
theorem dX11_init_168 : decode cX11_init 168 = .ok (.putfield 72, 3) := by decide +kernel
theorem dX11_init_171 : decode cX11_init 171 = .ok (.aload_n 0, 1) := by decide +kernel
theorem dX11_init_172 : decode cX11_init 172 = .ok (.bipush 90, 2) := by decide +kernel
theorem dX11_init_174 : decode cX11_init 174 = .ok (.newarray .int, 2) := by decide +kernel
theorem dX11_init_176 : decode cX11_init 176 = .ok (.putfield 75, 3) := by decide +kernel
theorem dX11_init_179 : decode cX11_init 179 = .ok (.aload_n 0, 1) := by decide +kernel
theorem dX11_init_180 : decode cX11_init 180 = .ok (.bipush 90, 2) := by decide +kernel
theorem dX11_init_182 : decode cX11_init 182 = .ok (.newarray .int, 2) := by decide +kernel
theorem dX11_init_184 : decode cX11_init 184 = .ok (.putfield 78, 3) := by decide +kernel
theorem dX11_init_187 : decode cX11_init 187 = .ok (.aload_n 0, 1) := by decide +kernel
theorem dX11_init_188 : decode cX11_init 188 = .ok (.bipush 90, 2) := by decide +kernel
theorem dX11_init_190 : decode cX11_init 190 = .ok (.newarray .int, 2) := by decide +kernel
theorem dX11_init_192 : decode cX11_init 192 = .ok (.putfield 81, 3) := by decide +kernel
theorem dX11_init_195 : decode cX11_init 195 = .ok (.aload_n 0, 1) := by decide +kernel
theorem dX11_init_196 : decode cX11_init 196 = .ok (.bipush 90, 2) := by decide +kernel
theorem dX11_init_198 : decode cX11_init 198 = .ok (.newarray .int, 2) := by decide +kernel
theorem dX11_init_200 : decode cX11_init 200 = .ok (.putfield 84, 3) := by decide +kernel
theorem dX11_init_203 : decode cX11_init 203 = .ok (.aload_n 0, 1) := by decide +kernel
theorem dX11_init_204 : decode cX11_init 204 = .ok (.ldc 87, 2) := by decide +kernel
theorem dX11_init_206 : decode cX11_init 206 = .ok (.newarray .boolean, 2) := by decide +kernel
theorem dX11_init_208 : decode cX11_init 208 = .ok (.putfield 88, 3) := by decide +kernel
theorem dX11_init_211 : decode cX11_init 211 = .ok (.aload_n 0, 1) := by decide +kernel
theorem dX11_init_212 : decode cX11_init 212 = .ok (.ldc 87, 2) := by decide +kernel
theorem dX11_init_214 : decode cX11_init 214 = .ok (.newarray .boolean, 2) := by decide +kernel
theorem dX11_init_216 : decode cX11_init 216 = .ok (.putfield 91, 3) := by decide +kernel
theorem dX11_init_219 : decode cX11_init 219 = .ok (.return_, 1) := by decide +kernel
theorem dX11_in_0 : decode cX11_in 0 = .ok (.iload_n 0, 1) := by decide +kernel
theorem dX11_in_1 : decode cX11_in 1 = .ok (.iload_n 1, 1) := by decide +kernel
theorem dX11_in_2 : decode cX11_in 2 = .ok (.if_icmp .lt 12, 3) := by decide +kernel
theorem dX11_in_5 : decode cX11_in 5 = .ok (.iload_n 0, 1) := by decide +kernel
theorem dX11_in_6 : decode cX11_in 6 = .ok (.iload_n 2, 1) := by decide +kernel
theorem dX11_in_7 : decode cX11_in 7 = .ok (.if_icmp .gt 7, 3) := by decide +kernel
theorem dX11_in_10 : decode cX11_in 10 = .ok (.iconst 1, 1) := by decide +kernel
theorem dX11_in_11 : decode cX11_in 11 = .ok (.goto 4, 3) := by decide +kernel
theorem dX11_in_14 : decode cX11_in 14 = .ok (.iconst 0, 1) := by decide +kernel
theorem dX11_in_15 : decode cX11_in 15 = .ok (.ireturn, 1) := by decide +kernel
theorem dX11_type_0 : decode cX11_type 0 = .ok (.iconst 0, 1) := by decide +kernel
theorem dX11_type_1 : decode cX11_type 1 = .ok (.istore_n 3, 1) := by decide +kernel
theorem dX11_type_2 : decode cX11_type 2 = .ok (.iload_n 3, 1) := by decide +kernel
theorem dX11_type_3 : decode cX11_type 3 = .ok (.bipush 8, 2) := by decide +kernel
theorem dX11_type_5 : decode cX11_type 5 = .ok (.if_icmp .ge 24, 3) := by decide +kernel
theorem dX11_type_8 : decode cX11_type 8 = .ok (.lload_n 1, 1) := by decide +kernel
theorem dX11_type_9 : decode cX11_type 9 = .ok (.bipush 8, 2) := by decide +kernel
theorem dX11_type_11 : decode cX11_type 11 = .ok (.iload_n 3, 1) := by decide +kernel
theorem dX11_type_12 : decode cX11_type 12 = .ok (.imul, 1) := by decide +kernel
theorem dX11_type_13 : decode cX11_type 13 = .ok (.lshr, 1) := by decide +kernel
theorem dX11_type_14 : decode cX11_type 14 = .ok (.ldc2_w 94, 3) := by decide +kernel
theorem dX11_type_17 : decode cX11_type 17 = .ok (.land, 1) := by decide +kernel
theorem dX11_type_18 : decode cX11_type 18 = .ok (.lconst 0, 1) := by decide +kernel
theorem dX11_type_19 : decode cX11_type 19 = .ok (.lcmp, 1) := by decide +kernel
theorem dX11_type_20 : decode cX11_type 20 = .ok (.ifCond .eq 9, 3) := by decide +kernel
theorem dX11_type_23 : decode cX11_type 23 = .ok (.iinc 3 1, 3) := by decide +kernel
theorem dX11_type_26 : decode cX11_type 26 = .ok (.goto (-24), 3) := by decide +kernel
theorem dX11_type_29 : decode cX11_type 29 = .ok (.aload_n 0, 1) := by decide +kernel
theorem dX11_type_30 : decode cX11_type 30 = .ok (.getfield 96, 3) := by decide +kernel
theorem dX11_type_33 : decode cX11_type 33 = .ok (.iload_n 3, 1) := by decide +kernel
theorem dX11_type_34 : decode cX11_type 34 = .ok (.iadd, 1) := by decide +kernel
theorem dX11_type_35 : decode cX11_type 35 = .ok (.bipush 90, 2) := by decide +kernel
theorem dX11_type_37 : decode cX11_type 37 = .ok (.if_icmp .le 6, 3) := by decide +kernel
theorem dX11_type_40 : decode cX11_type 40 = .ok (.bipush (-3), 2) := by decide +kernel
theorem dX11_type_42 : decode cX11_type 42 = .ok (.ireturn, 1) := by decide +kernel
theorem dX11_type_43 : decode cX11_type 43 = .ok (.iconst 0, 1) := by decide +kernel
theorem dX11_type_44 : decode cX11_type 44 = .ok (.istore 4, 2) := by decide +kernel
theorem dX11_type_46 : decode cX11_type 46 = .ok (.iload 4, 2) := by decide +kernel
theorem dX11_type_48 : decode cX11_type 48 = .ok (.iload_n 3, 1) := by decide +kernel
theorem dX11_type_49 : decode cX11_type 49 = .ok (.if_icmp .ge 40, 3) := by decide +kernel
theorem dX11_type_52 : decode cX11_type 52 = .ok (.aload_n 0, 1) := by decide +kernel
theorem dX11_type_53 : decode cX11_type 53 = .ok (.getfield 7, 3) := by decide +kernel
theorem dX11_type_56 : decode cX11_type 56 = .ok (.aload_n 0, 1) := by decide +kernel
theorem dX11_type_57 : decode cX11_type 57 = .ok (.getfield 96, 3) := by decide +kernel
theorem dX11_type_60 : decode cX11_type 60 = .ok (.lload_n 1, 1) := by decide +kernel
theorem dX11_type_61 : decode cX11_type 61 = .ok (.bipush 8, 2) := by decide +kernel
theorem dX11_type_63 : decode cX11_type 63 = .ok (.iload 4, 2) := by decide +kernel
theorem dX11_type_65 : decode cX11_type 65 = .ok (.imul, 1) := by decide +kernel
theorem dX11_type_66 : decode cX11_type 66 = .ok (.lshr, 1) := by decide +kernel
theorem dX11_type_67 : decode cX11_type 67 = .ok (.ldc2_w 94, 3) := by decide +kernel
theorem dX11_type_70 : decode cX11_type 70 = .ok (.land, 1) := by decide +kernel
theorem dX11_type_71 : decode cX11_type 71 = .ok (.l2i, 1) := by decide +kernel
theorem dX11_type_72 : decode cX11_type 72 = .ok (.iastore, 1) := by decide +kernel
theorem dX11_type_73 : decode cX11_type 73 = .ok (.aload_n 0, 1) := by decide +kernel
theorem dX11_type_74 : decode cX11_type 74 = .ok (.dup, 1) := by decide +kernel
theorem dX11_type_75 : decode cX11_type 75 = .ok (.getfield 96, 3) := by decide +kernel
theorem dX11_type_78 : decode cX11_type 78 = .ok (.iconst 1, 1) := by decide +kernel
theorem dX11_type_79 : decode cX11_type 79 = .ok (.iadd, 1) := by decide +kernel
theorem dX11_type_80 : decode cX11_type 80 = .ok (.putfield 96, 3) := by decide +kernel
theorem dX11_type_83 : decode cX11_type 83 = .ok (.iinc 4 1, 3) := by decide +kernel
theorem dX11_type_86 : decode cX11_type 86 = .ok (.goto (-40), 3) := by decide +kernel
theorem dX11_type_89 : decode cX11_type 89 = .ok (.aload_n 0, 1) := by decide +kernel
theorem dX11_type_90 : decode cX11_type 90 = .ok (.getfield 96, 3) := by decide +kernel
theorem dX11_type_93 : decode cX11_type 93 = .ok (.ireturn, 1) := by decide +kernel
theorem dX11_erase_0 : decode cX11_erase 0 = .ok (.aload_n 0, 1) := by decide +kernel
theorem dX11_erase_1 : decode cX11_erase 1 = .ok (.getfield 96, 3) := by decide +kernel
theorem dX11_erase_4 : decode cX11_erase 4 = .ok (.istore_n 1, 1) := by decide +kernel
theorem dX11_erase_5 : decode cX11_erase 5 = .ok (.aload_n 0, 1) := by decide +kernel
theorem dX11_erase_6 : decode cX11_erase 6 = .ok (.iconst 0, 1) := by decide +kernel
theorem dX11_erase_7 : decode cX11_erase 7 = .ok (.putfield 96, 3) := by decide +kernel
theorem dX11_erase_10 : decode cX11_erase 10 = .ok (.iload_n 1, 1) := by decide +kernel
theorem dX11_erase_11 : decode cX11_erase 11 = .ok (.ireturn, 1) := by decide +kernel
theorem dX11_kindOf_0 : decode cX11_kindOf 0 = .ok (.iload_n 0, 1) := by decide +kernel
theorem dX11_kindOf_1 : decode cX11_kindOf 1 = .ok (.lookupswitch 61 #[(35, 51), (46, 53), (112, 59), (115, 55), (116, 57)], 51) := by decide +kernel
theorem dX11_kindOf_52 : decode cX11_kindOf 52 = .ok (.iconst 0, 1) := by decide +kernel
theorem dX11_kindOf_53 : decode cX11_kindOf 53 = .ok (.ireturn, 1) := by decide +kernel
theorem dX11_kindOf_54 : decode cX11_kindOf 54 = .ok (.iconst 1, 1) := by decide +kernel
theorem dX11_kindOf_55 : decode cX11_kindOf 55 = .ok (.ireturn, 1) := by decide +kernel
theorem dX11_kindOf_56 : decode cX11_kindOf 56 = .ok (.iconst 2, 1) := by decide +kernel
theorem dX11_kindOf_57 : decode cX11_kindOf 57 = .ok (.ireturn, 1) := by decide +kernel
theorem dX11_kindOf_58 : decode cX11_kindOf 58 = .ok (.iconst 3, 1) := by decide +kernel
theorem dX11_kindOf_59 : decode cX11_kindOf 59 = .ok (.ireturn, 1) := by decide +kernel
theorem dX11_kindOf_60 : decode cX11_kindOf 60 = .ok (.iconst 4, 1) := by decide +kernel
theorem dX11_kindOf_61 : decode cX11_kindOf 61 = .ok (.ireturn, 1) := by decide +kernel
theorem dX11_kindOf_62 : decode cX11_kindOf 62 = .ok (.iconst (-1), 1) := by decide +kernel
theorem dX11_kindOf_63 : decode cX11_kindOf 63 = .ok (.ireturn, 1) := by decide +kernel
theorem dX11_wrong_0 : decode cX11_wrong 0 = .ok (.aload_n 0, 1) := by decide +kernel
theorem dX11_wrong_1 : decode cX11_wrong 1 = .ok (.iload_n 2, 1) := by decide +kernel
theorem dX11_wrong_2 : decode cX11_wrong 2 = .ok (.putfield 13, 3) := by decide +kernel
theorem dX11_wrong_5 : decode cX11_wrong 5 = .ok (.iload_n 1, 1) := by decide +kernel
theorem dX11_wrong_6 : decode cX11_wrong 6 = .ok (.ireturn, 1) := by decide +kernel
theorem dX11_readLines_0 : decode cX11_readLines 0 = .ok (.iconst 0, 1) := by decide +kernel
theorem dX11_readLines_1 : decode cX11_readLines 1 = .ok (.istore_n 1, 1) := by decide +kernel
theorem dX11_readLines_2 : decode cX11_readLines 2 = .ok (.iconst 0, 1) := by decide +kernel
theorem dX11_readLines_3 : decode cX11_readLines 3 = .ok (.istore_n 2, 1) := by decide +kernel
theorem dX11_readLines_4 : decode cX11_readLines 4 = .ok (.aload_n 0, 1) := by decide +kernel
theorem dX11_readLines_5 : decode cX11_readLines 5 = .ok (.iconst 0, 1) := by decide +kernel
theorem dX11_readLines_6 : decode cX11_readLines 6 = .ok (.putfield 99, 3) := by decide +kernel
theorem dX11_readLines_9 : decode cX11_readLines 9 = .ok (.aload_n 0, 1) := by decide +kernel
theorem dX11_readLines_10 : decode cX11_readLines 10 = .ok (.iconst 0, 1) := by decide +kernel
theorem dX11_readLines_11 : decode cX11_readLines 11 = .ok (.putfield 102, 3) := by decide +kernel
theorem dX11_readLines_14 : decode cX11_readLines 14 = .ok (.iconst 0, 1) := by decide +kernel
theorem dX11_readLines_15 : decode cX11_readLines 15 = .ok (.istore_n 3, 1) := by decide +kernel
theorem dX11_readLines_16 : decode cX11_readLines 16 = .ok (.iload_n 3, 1) := by decide +kernel
theorem dX11_readLines_17 : decode cX11_readLines 17 = .ok (.aload_n 0, 1) := by decide +kernel
theorem dX11_readLines_18 : decode cX11_readLines 18 = .ok (.getfield 96, 3) := by decide +kernel
theorem dX11_readLines_21 : decode cX11_readLines 21 = .ok (.if_icmp .ge 136, 3) := by decide +kernel
theorem dX11_readLines_24 : decode cX11_readLines 24 = .ok (.aload_n 0, 1) := by decide +kernel
theorem dX11_readLines_25 : decode cX11_readLines 25 = .ok (.getfield 7, 3) := by decide +kernel
theorem dX11_readLines_28 : decode cX11_readLines 28 = .ok (.iload_n 3, 1) := by decide +kernel
theorem dX11_readLines_29 : decode cX11_readLines 29 = .ok (.iaload, 1) := by decide +kernel
theorem dX11_readLines_30 : decode cX11_readLines 30 = .ok (.invokestatic 105, 3) := by decide +kernel
theorem dX11_readLines_33 : decode cX11_readLines 33 = .ok (.istore 4, 2) := by decide +kernel
theorem dX11_readLines_35 : decode cX11_readLines 35 = .ok (.aload_n 0, 1) := by decide +kernel
theorem dX11_readLines_36 : decode cX11_readLines 36 = .ok (.getfield 7, 3) := by decide +kernel
theorem dX11_readLines_39 : decode cX11_readLines 39 = .ok (.iload_n 3, 1) := by decide +kernel
theorem dX11_readLines_40 : decode cX11_readLines 40 = .ok (.iaload, 1) := by decide +kernel
theorem dX11_readLines_41 : decode cX11_readLines 41 = .ok (.bipush 47, 2) := by decide +kernel
theorem dX11_readLines_43 : decode cX11_readLines 43 = .ok (.if_icmp .ne 46, 3) := by decide +kernel
theorem dX11_readLines_46 : decode cX11_readLines 46 = .ok (.iload_n 2, 1) := by decide +kernel
theorem dX11_readLines_47 : decode cX11_readLines 47 = .ok (.ifCond .eq 21, 3) := by decide +kernel
theorem dX11_readLines_50 : decode cX11_readLines 50 = .ok (.iload_n 1, 1) := by decide +kernel
theorem dX11_readLines_51 : decode cX11_readLines 51 = .ok (.ifCond .le 11, 3) := by decide +kernel
theorem dX11_readLines_54 : decode cX11_readLines 54 = .ok (.iload_n 2, 1) := by decide +kernel
theorem dX11_readLines_55 : decode cX11_readLines 55 = .ok (.aload_n 0, 1) := by decide +kernel
theorem dX11_readLines_56 : decode cX11_readLines 56 = .ok (.getfield 102, 3) := by decide +kernel
theorem dX11_readLines_59 : decode cX11_readLines 59 = .ok (.if_icmp .lt 9, 3) := by decide +kernel
theorem dX11_readLines_62 : decode cX11_readLines 62 = .ok (.iload_n 1, 1) := by decide +kernel
theorem dX11_readLines_63 : decode cX11_readLines 63 = .ok (.bipush 7, 2) := by decide +kernel
theorem dX11_readLines_65 : decode cX11_readLines 65 = .ok (.if_icmp .ne 11, 3) := by decide +kernel
theorem dX11_readLines_68 : decode cX11_readLines 68 = .ok (.aload_n 0, 1) := by decide +kernel
theorem dX11_readLines_69 : decode cX11_readLines 69 = .ok (.bipush (-12), 2) := by decide +kernel
theorem dX11_readLines_71 : decode cX11_readLines 71 = .ok (.iload_n 3, 1) := by decide +kernel
theorem dX11_readLines_72 : decode cX11_readLines 72 = .ok (.invokevirtual 109, 3) := by decide +kernel
theorem dX11_readLines_75 : decode cX11_readLines 75 = .ok (.ireturn, 1) := by decide +kernel
theorem dX11_readLines_76 : decode cX11_readLines 76 = .ok (.aload_n 0, 1) := by decide +kernel
theorem dX11_readLines_77 : decode cX11_readLines 77 = .ok (.iload_n 2, 1) := by decide +kernel
theorem dX11_readLines_78 : decode cX11_readLines 78 = .ok (.putfield 102, 3) := by decide +kernel
theorem dX11_readLines_81 : decode cX11_readLines 81 = .ok (.iinc 1 1, 3) := by decide +kernel
theorem dX11_readLines_84 : decode cX11_readLines 84 = .ok (.iconst 0, 1) := by decide +kernel
theorem dX11_readLines_85 : decode cX11_readLines 85 = .ok (.istore_n 2, 1) := by decide +kernel
theorem dX11_readLines_86 : decode cX11_readLines 86 = .ok (.goto 65, 3) := by decide +kernel
theorem dX11_readLines_89 : decode cX11_readLines 89 = .ok (.iload 4, 2) := by decide +kernel
theorem dX11_readLines_91 : decode cX11_readLines 91 = .ok (.ifCond .ge 11, 3) := by decide +kernel
theorem dX11_readLines_94 : decode cX11_readLines 94 = .ok (.aload_n 0, 1) := by decide +kernel
theorem dX11_readLines_95 : decode cX11_readLines 95 = .ok (.bipush (-11), 2) := by decide +kernel
theorem dX11_readLines_97 : decode cX11_readLines 97 = .ok (.iload_n 3, 1) := by decide +kernel
theorem dX11_readLines_98 : decode cX11_readLines 98 = .ok (.invokevirtual 109, 3) := by decide +kernel
theorem dX11_readLines_101 : decode cX11_readLines 101 = .ok (.ireturn, 1) := by decide +kernel
theorem dX11_readLines_102 : decode cX11_readLines 102 = .ok (.iload_n 2, 1) := by decide +kernel
theorem dX11_readLines_103 : decode cX11_readLines 103 = .ok (.iload_n 1, 1) := by decide +kernel
theorem dX11_readLines_104 : decode cX11_readLines 104 = .ok (.ifCond .ne 8, 3) := by decide +kernel
theorem dX11_readLines_107 : decode cX11_readLines 107 = .ok (.bipush 10, 2) := by decide +kernel
theorem dX11_readLines_109 : decode cX11_readLines 109 = .ok (.goto 7, 3) := by decide +kernel
theorem dX11_readLines_112 : decode cX11_readLines 112 = .ok (.aload_n 0, 1) := by decide +kernel
theorem dX11_readLines_113 : decode cX11_readLines 113 = .ok (.getfield 102, 3) := by decide +kernel
theorem dX11_readLines_116 : decode cX11_readLines 116 = .ok (.if_icmp .ne 11, 3) := by decide +kernel
theorem dX11_readLines_119 : decode cX11_readLines 119 = .ok (.aload_n 0, 1) := by decide +kernel
theorem dX11_readLines_120 : decode cX11_readLines 120 = .ok (.bipush (-12), 2) := by decide +kernel
theorem dX11_readLines_122 : decode cX11_readLines 122 = .ok (.iload_n 3, 1) := by decide +kernel
theorem dX11_readLines_123 : decode cX11_readLines 123 = .ok (.invokevirtual 109, 3) := by decide +kernel
theorem dX11_readLines_126 : decode cX11_readLines 126 = .ok (.ireturn, 1) := by decide +kernel
theorem dX11_readLines_127 : decode cX11_readLines 127 = .ok (.aload_n 0, 1) := by decide +kernel
theorem dX11_readLines_128 : decode cX11_readLines 128 = .ok (.getfield 20, 3) := by decide +kernel
theorem dX11_readLines_131 : decode cX11_readLines 131 = .ok (.aload_n 0, 1) := by decide +kernel
theorem dX11_readLines_132 : decode cX11_readLines 132 = .ok (.getfield 99, 3) := by decide +kernel
theorem dX11_readLines_135 : decode cX11_readLines 135 = .ok (.iload 4, 2) := by decide +kernel
theorem dX11_readLines_137 : decode cX11_readLines 137 = .ok (.iastore, 1) := by decide +kernel
theorem dX11_readLines_138 : decode cX11_readLines 138 = .ok (.aload_n 0, 1) := by decide +kernel
theorem dX11_readLines_139 : decode cX11_readLines 139 = .ok (.dup, 1) := by decide +kernel
theorem dX11_readLines_140 : decode cX11_readLines 140 = .ok (.getfield 99, 3) := by decide +kernel
theorem dX11_readLines_143 : decode cX11_readLines 143 = .ok (.iconst 1, 1) := by decide +kernel
theorem dX11_readLines_144 : decode cX11_readLines 144 = .ok (.iadd, 1) := by decide +kernel
theorem dX11_readLines_145 : decode cX11_readLines 145 = .ok (.putfield 99, 3) := by decide +kernel
theorem dX11_readLines_148 : decode cX11_readLines 148 = .ok (.iinc 2 1, 3) := by decide +kernel
theorem dX11_readLines_151 : decode cX11_readLines 151 = .ok (.iinc 3 1, 3) := by decide +kernel
theorem dX11_readLines_154 : decode cX11_readLines 154 = .ok (.goto (-138), 3) := by decide +kernel
theorem dX11_readLines_157 : decode cX11_readLines 157 = .ok (.iload_n 2, 1) := by decide +kernel
theorem dX11_readLines_158 : decode cX11_readLines 158 = .ok (.ifCond .eq 15, 3) := by decide +kernel
theorem dX11_readLines_161 : decode cX11_readLines 161 = .ok (.iload_n 1, 1) := by decide +kernel
theorem dX11_readLines_162 : decode cX11_readLines 162 = .ok (.ifCond .le 22, 3) := by decide +kernel
theorem dX11_readLines_165 : decode cX11_readLines 165 = .ok (.iload_n 2, 1) := by decide +kernel
theorem dX11_readLines_166 : decode cX11_readLines 166 = .ok (.aload_n 0, 1) := by decide +kernel
theorem dX11_readLines_167 : decode cX11_readLines 167 = .ok (.getfield 102, 3) := by decide +kernel
theorem dX11_readLines_170 : decode cX11_readLines 170 = .ok (.if_icmp .ge 14, 3) := by decide +kernel
theorem dX11_readLines_173 : decode cX11_readLines 173 = .ok (.aload_n 0, 1) := by decide +kernel
theorem dX11_readLines_174 : decode cX11_readLines 174 = .ok (.bipush (-12), 2) := by decide +kernel
theorem dX11_readLines_176 : decode cX11_readLines 176 = .ok (.aload_n 0, 1) := by decide +kernel
theorem dX11_readLines_177 : decode cX11_readLines 177 = .ok (.getfield 96, 3) := by decide +kernel
theorem dX11_readLines_180 : decode cX11_readLines 180 = .ok (.invokevirtual 109, 3) := by decide +kernel
theorem dX11_readLines_183 : decode cX11_readLines 183 = .ok (.ireturn, 1) := by decide +kernel
theorem dX11_readLines_184 : decode cX11_readLines 184 = .ok (.aload_n 0, 1) := by decide +kernel
theorem dX11_readLines_185 : decode cX11_readLines 185 = .ok (.iload_n 2, 1) := by decide +kernel
theorem dX11_readLines_186 : decode cX11_readLines 186 = .ok (.putfield 102, 3) := by decide +kernel
theorem dX11_readLines_189 : decode cX11_readLines 189 = .ok (.iconst 0, 1) := by decide +kernel
theorem dX11_readLines_190 : decode cX11_readLines 190 = .ok (.ireturn, 1) := by decide +kernel
theorem dX11_hasKind_0 : decode cX11_hasKind 0 = .ok (.iconst 0, 1) := by decide +kernel
theorem dX11_hasKind_1 : decode cX11_hasKind 1 = .ok (.istore_n 2, 1) := by decide +kernel
theorem dX11_hasKind_2 : decode cX11_hasKind 2 = .ok (.iconst 0, 1) := by decide +kernel
theorem dX11_hasKind_3 : decode cX11_hasKind 3 = .ok (.istore_n 3, 1) := by decide +kernel
theorem dX11_hasKind_4 : decode cX11_hasKind 4 = .ok (.iload_n 3, 1) := by decide +kernel
theorem dX11_hasKind_5 : decode cX11_hasKind 5 = .ok (.aload_n 0, 1) := by decide +kernel
theorem dX11_hasKind_6 : decode cX11_hasKind 6 = .ok (.getfield 99, 3) := by decide +kernel
theorem dX11_hasKind_9 : decode cX11_hasKind 9 = .ok (.if_icmp .ge 29, 3) := by decide +kernel
theorem dX11_hasKind_12 : decode cX11_hasKind 12 = .ok (.iload_n 2, 1) := by decide +kernel
theorem dX11_hasKind_13 : decode cX11_hasKind 13 = .ok (.ifCond .ne 13, 3) := by decide +kernel
theorem dX11_hasKind_16 : decode cX11_hasKind 16 = .ok (.aload_n 0, 1) := by decide +kernel
theorem dX11_hasKind_17 : decode cX11_hasKind 17 = .ok (.getfield 20, 3) := by decide +kernel
theorem dX11_hasKind_20 : decode cX11_hasKind 20 = .ok (.iload_n 3, 1) := by decide +kernel
theorem dX11_hasKind_21 : decode cX11_hasKind 21 = .ok (.iaload, 1) := by decide +kernel
theorem dX11_hasKind_22 : decode cX11_hasKind 22 = .ok (.iload_n 1, 1) := by decide +kernel
theorem dX11_hasKind_23 : decode cX11_hasKind 23 = .ok (.if_icmp .ne 7, 3) := by decide +kernel
theorem dX11_hasKind_26 : decode cX11_hasKind 26 = .ok (.iconst 1, 1) := by decide +kernel
theorem dX11_hasKind_27 : decode cX11_hasKind 27 = .ok (.goto 4, 3) := by decide +kernel
theorem dX11_hasKind_30 : decode cX11_hasKind 30 = .ok (.iconst 0, 1) := by decide +kernel
theorem dX11_hasKind_31 : decode cX11_hasKind 31 = .ok (.istore_n 2, 1) := by decide +kernel
theorem dX11_hasKind_32 : decode cX11_hasKind 32 = .ok (.iinc 3 1, 3) := by decide +kernel
theorem dX11_hasKind_35 : decode cX11_hasKind 35 = .ok (.goto (-31), 3) := by decide +kernel
theorem dX11_hasKind_38 : decode cX11_hasKind 38 = .ok (.iload_n 2, 1) := by decide +kernel
theorem dX11_hasKind_39 : decode cX11_hasKind 39 = .ok (.ireturn, 1) := by decide +kernel
theorem dX11_beside_0 : decode cX11_beside 0 = .ok (.iload_n 1, 1) := by decide +kernel
theorem dX11_beside_1 : decode cX11_beside 1 = .ok (.tableswitch 78 0 3 #[31, 33, 46, 63], 31) := by decide +kernel
theorem dX11_beside_32 : decode cX11_beside 32 = .ok (.iload_n 0, 1) := by decide +kernel
theorem dX11_beside_33 : decode cX11_beside 33 = .ok (.ireturn, 1) := by decide +kernel
theorem dX11_beside_34 : decode cX11_beside 34 = .ok (.iload_n 0, 1) := by decide +kernel
theorem dX11_beside_35 : decode cX11_beside 35 = .ok (.iload_n 2, 1) := by decide +kernel
theorem dX11_beside_36 : decode cX11_beside 36 = .ok (.if_icmp .lt 9, 3) := by decide +kernel
theorem dX11_beside_39 : decode cX11_beside 39 = .ok (.iload_n 0, 1) := by decide +kernel
theorem dX11_beside_40 : decode cX11_beside 40 = .ok (.iload_n 2, 1) := by decide +kernel
theorem dX11_beside_41 : decode cX11_beside 41 = .ok (.isub, 1) := by decide +kernel
theorem dX11_beside_42 : decode cX11_beside 42 = .ok (.goto 4, 3) := by decide +kernel
theorem dX11_beside_45 : decode cX11_beside 45 = .ok (.iconst (-1), 1) := by decide +kernel
theorem dX11_beside_46 : decode cX11_beside 46 = .ok (.ireturn, 1) := by decide +kernel
theorem dX11_beside_47 : decode cX11_beside 47 = .ok (.iload_n 0, 1) := by decide +kernel
theorem dX11_beside_48 : decode cX11_beside 48 = .ok (.iload_n 2, 1) := by decide +kernel
theorem dX11_beside_49 : decode cX11_beside 49 = .ok (.irem, 1) := by decide +kernel
theorem dX11_beside_50 : decode cX11_beside 50 = .ok (.iload_n 2, 1) := by decide +kernel
theorem dX11_beside_51 : decode cX11_beside 51 = .ok (.iconst 1, 1) := by decide +kernel
theorem dX11_beside_52 : decode cX11_beside 52 = .ok (.isub, 1) := by decide +kernel
theorem dX11_beside_53 : decode cX11_beside 53 = .ok (.if_icmp .ge 9, 3) := by decide +kernel
theorem dX11_beside_56 : decode cX11_beside 56 = .ok (.iload_n 0, 1) := by decide +kernel
theorem dX11_beside_57 : decode cX11_beside 57 = .ok (.iconst 1, 1) := by decide +kernel
theorem dX11_beside_58 : decode cX11_beside 58 = .ok (.iadd, 1) := by decide +kernel
theorem dX11_beside_59 : decode cX11_beside 59 = .ok (.goto 4, 3) := by decide +kernel
theorem dX11_beside_62 : decode cX11_beside 62 = .ok (.iconst (-1), 1) := by decide +kernel
theorem dX11_beside_63 : decode cX11_beside 63 = .ok (.ireturn, 1) := by decide +kernel
theorem dX11_beside_64 : decode cX11_beside 64 = .ok (.iload_n 0, 1) := by decide +kernel
theorem dX11_beside_65 : decode cX11_beside 65 = .ok (.iload_n 2, 1) := by decide +kernel
theorem dX11_beside_66 : decode cX11_beside 66 = .ok (.iadd, 1) := by decide +kernel
theorem dX11_beside_67 : decode cX11_beside 67 = .ok (.iload_n 3, 1) := by decide +kernel
theorem dX11_beside_68 : decode cX11_beside 68 = .ok (.if_icmp .ge 9, 3) := by decide +kernel
theorem dX11_beside_71 : decode cX11_beside 71 = .ok (.iload_n 0, 1) := by decide +kernel
theorem dX11_beside_72 : decode cX11_beside 72 = .ok (.iload_n 2, 1) := by decide +kernel
theorem dX11_beside_73 : decode cX11_beside 73 = .ok (.iadd, 1) := by decide +kernel
theorem dX11_beside_74 : decode cX11_beside 74 = .ok (.goto 4, 3) := by decide +kernel
theorem dX11_beside_77 : decode cX11_beside 77 = .ok (.iconst (-1), 1) := by decide +kernel
theorem dX11_beside_78 : decode cX11_beside 78 = .ok (.ireturn, 1) := by decide +kernel
theorem dX11_beside_79 : decode cX11_beside 79 = .ok (.iload_n 0, 1) := by decide +kernel
theorem dX11_beside_80 : decode cX11_beside 80 = .ok (.iload_n 2, 1) := by decide +kernel
theorem dX11_beside_81 : decode cX11_beside 81 = .ok (.irem, 1) := by decide +kernel
theorem dX11_beside_82 : decode cX11_beside 82 = .ok (.ifCond .le 9, 3) := by decide +kernel
theorem dX11_beside_85 : decode cX11_beside 85 = .ok (.iload_n 0, 1) := by decide +kernel
theorem dX11_beside_86 : decode cX11_beside 86 = .ok (.iconst 1, 1) := by decide +kernel
theorem dX11_beside_87 : decode cX11_beside 87 = .ok (.isub, 1) := by decide +kernel
theorem dX11_beside_88 : decode cX11_beside 88 = .ok (.goto 4, 3) := by decide +kernel
theorem dX11_beside_91 : decode cX11_beside 91 = .ok (.iconst (-1), 1) := by decide +kernel
theorem dX11_beside_92 : decode cX11_beside 92 = .ok (.ireturn, 1) := by decide +kernel
theorem dX11_look_0 : decode cX11_look 0 = .ok (.iconst 0, 1) := by decide +kernel
theorem dX11_look_1 : decode cX11_look 1 = .ok (.istore_n 2, 1) := by decide +kernel
theorem dX11_look_2 : decode cX11_look 2 = .ok (.iload_n 2, 1) := by decide +kernel
theorem dX11_look_3 : decode cX11_look 3 = .ok (.bipush 80, 2) := by decide +kernel
theorem dX11_look_5 : decode cX11_look 5 = .ok (.if_icmp .ge 25, 3) := by decide +kernel
theorem dX11_look_8 : decode cX11_look 8 = .ok (.aload_n 0, 1) := by decide +kernel
theorem dX11_look_9 : decode cX11_look 9 = .ok (.getfield 26, 3) := by decide +kernel
theorem dX11_look_12 : decode cX11_look 12 = .ok (.iload_n 2, 1) := by decide +kernel
theorem dX11_look_13 : decode cX11_look 13 = .ok (.iload_n 2, 1) := by decide +kernel
theorem dX11_look_14 : decode cX11_look 14 = .ok (.iload_n 1, 1) := by decide +kernel
theorem dX11_look_15 : decode cX11_look 15 = .ok (.if_icmp .ne 7, 3) := by decide +kernel
theorem dX11_look_18 : decode cX11_look 18 = .ok (.iconst 1, 1) := by decide +kernel
theorem dX11_look_19 : decode cX11_look 19 = .ok (.goto 4, 3) := by decide +kernel
theorem dX11_look_22 : decode cX11_look 22 = .ok (.iconst 0, 1) := by decide +kernel
theorem dX11_look_23 : decode cX11_look 23 = .ok (.bastore, 1) := by decide +kernel
theorem dX11_look_24 : decode cX11_look 24 = .ok (.iinc 2 1, 3) := by decide +kernel
theorem dX11_look_27 : decode cX11_look 27 = .ok (.goto (-25), 3) := by decide +kernel
theorem dX11_look_30 : decode cX11_look 30 = .ok (.iconst 1, 1) := by decide +kernel
theorem dX11_look_31 : decode cX11_look 31 = .ok (.istore_n 2, 1) := by decide +kernel
theorem dX11_look_32 : decode cX11_look 32 = .ok (.iload_n 2, 1) := by decide +kernel
theorem dX11_look_33 : decode cX11_look 33 = .ok (.ifCond .eq 126, 3) := by decide +kernel
theorem dX11_look_36 : decode cX11_look 36 = .ok (.iconst 0, 1) := by decide +kernel
theorem dX11_look_37 : decode cX11_look 37 = .ok (.istore_n 2, 1) := by decide +kernel
theorem dX11_look_38 : decode cX11_look 38 = .ok (.iconst 0, 1) := by decide +kernel
theorem dX11_look_39 : decode cX11_look 39 = .ok (.istore_n 3, 1) := by decide +kernel
theorem dX11_look_40 : decode cX11_look 40 = .ok (.iload_n 3, 1) := by decide +kernel
theorem dX11_look_41 : decode cX11_look 41 = .ok (.aload_n 0, 1) := by decide +kernel
theorem dX11_look_42 : decode cX11_look 42 = .ok (.getfield 99, 3) := by decide +kernel
theorem dX11_look_45 : decode cX11_look 45 = .ok (.if_icmp .ge 111, 3) := by decide +kernel
theorem dX11_look_48 : decode cX11_look 48 = .ok (.aload_n 0, 1) := by decide +kernel
theorem dX11_look_49 : decode cX11_look 49 = .ok (.getfield 26, 3) := by decide +kernel
theorem dX11_look_52 : decode cX11_look 52 = .ok (.iload_n 3, 1) := by decide +kernel
theorem dX11_look_53 : decode cX11_look 53 = .ok (.baload, 1) := by decide +kernel
theorem dX11_look_54 : decode cX11_look 54 = .ok (.ifCond .eq 22, 3) := by decide +kernel
theorem dX11_look_57 : decode cX11_look 57 = .ok (.iload_n 3, 1) := by decide +kernel
theorem dX11_look_58 : decode cX11_look 58 = .ok (.iload_n 1, 1) := by decide +kernel
theorem dX11_look_59 : decode cX11_look 59 = .ok (.if_icmp .eq 13, 3) := by decide +kernel
theorem dX11_look_62 : decode cX11_look 62 = .ok (.aload_n 0, 1) := by decide +kernel
theorem dX11_look_63 : decode cX11_look 63 = .ok (.getfield 20, 3) := by decide +kernel
theorem dX11_look_66 : decode cX11_look 66 = .ok (.iload_n 3, 1) := by decide +kernel
theorem dX11_look_67 : decode cX11_look 67 = .ok (.iaload, 1) := by decide +kernel
theorem dX11_look_68 : decode cX11_look 68 = .ok (.iconst 1, 1) := by decide +kernel
theorem dX11_look_69 : decode cX11_look 69 = .ok (.if_icmp .ne 7, 3) := by decide +kernel
theorem dX11_look_72 : decode cX11_look 72 = .ok (.iconst 1, 1) := by decide +kernel
theorem dX11_look_73 : decode cX11_look 73 = .ok (.goto 4, 3) := by decide +kernel
theorem dX11_look_76 : decode cX11_look 76 = .ok (.iconst 0, 1) := by decide +kernel
theorem dX11_look_77 : decode cX11_look 77 = .ok (.istore 4, 2) := by decide +kernel
theorem dX11_look_79 : decode cX11_look 79 = .ok (.iconst 1, 1) := by decide +kernel
theorem dX11_look_80 : decode cX11_look 80 = .ok (.istore 5, 2) := by decide +kernel
theorem dX11_look_82 : decode cX11_look 82 = .ok (.iload 5, 2) := by decide +kernel
theorem dX11_look_84 : decode cX11_look 84 = .ok (.iconst 5, 1) := by decide +kernel
theorem dX11_look_85 : decode cX11_look 85 = .ok (.if_icmp .ge 65, 3) := by decide +kernel
theorem dX11_look_88 : decode cX11_look 88 = .ok (.iload 4, 2) := by decide +kernel
theorem dX11_look_90 : decode cX11_look 90 = .ok (.ifCond .eq 60, 3) := by decide +kernel
theorem dX11_look_93 : decode cX11_look 93 = .ok (.iload_n 3, 1) := by decide +kernel
theorem dX11_look_94 : decode cX11_look 94 = .ok (.iload 5, 2) := by decide +kernel
theorem dX11_look_96 : decode cX11_look 96 = .ok (.aload_n 0, 1) := by decide +kernel
theorem dX11_look_97 : decode cX11_look 97 = .ok (.getfield 102, 3) := by decide +kernel
theorem dX11_look_100 : decode cX11_look 100 = .ok (.aload_n 0, 1) := by decide +kernel
theorem dX11_look_101 : decode cX11_look 101 = .ok (.getfield 99, 3) := by decide +kernel
theorem dX11_look_104 : decode cX11_look 104 = .ok (.invokestatic 113, 3) := by decide +kernel
theorem dX11_look_107 : decode cX11_look 107 = .ok (.istore 6, 2) := by decide +kernel
theorem dX11_look_109 : decode cX11_look 109 = .ok (.iload 6, 2) := by decide +kernel
theorem dX11_look_111 : decode cX11_look 111 = .ok (.ifCond .lt 33, 3) := by decide +kernel
theorem dX11_look_114 : decode cX11_look 114 = .ok (.aload_n 0, 1) := by decide +kernel
theorem dX11_look_115 : decode cX11_look 115 = .ok (.getfield 20, 3) := by decide +kernel
theorem dX11_look_118 : decode cX11_look 118 = .ok (.iload 6, 2) := by decide +kernel
theorem dX11_look_120 : decode cX11_look 120 = .ok (.iaload, 1) := by decide +kernel
theorem dX11_look_121 : decode cX11_look 121 = .ok (.ifCond .eq 23, 3) := by decide +kernel
theorem dX11_look_124 : decode cX11_look 124 = .ok (.aload_n 0, 1) := by decide +kernel
theorem dX11_look_125 : decode cX11_look 125 = .ok (.getfield 26, 3) := by decide +kernel
theorem dX11_look_128 : decode cX11_look 128 = .ok (.iload 6, 2) := by decide +kernel
theorem dX11_look_130 : decode cX11_look 130 = .ok (.baload, 1) := by decide +kernel
theorem dX11_look_131 : decode cX11_look 131 = .ok (.ifCond .ne 13, 3) := by decide +kernel
theorem dX11_look_134 : decode cX11_look 134 = .ok (.aload_n 0, 1) := by decide +kernel
theorem dX11_look_135 : decode cX11_look 135 = .ok (.getfield 26, 3) := by decide +kernel
theorem dX11_look_138 : decode cX11_look 138 = .ok (.iload 6, 2) := by decide +kernel
theorem dX11_look_140 : decode cX11_look 140 = .ok (.iconst 1, 1) := by decide +kernel
theorem dX11_look_141 : decode cX11_look 141 = .ok (.bastore, 1) := by decide +kernel
theorem dX11_look_142 : decode cX11_look 142 = .ok (.iconst 1, 1) := by decide +kernel
theorem dX11_look_143 : decode cX11_look 143 = .ok (.istore_n 2, 1) := by decide +kernel
theorem dX11_look_144 : decode cX11_look 144 = .ok (.iinc 5 1, 3) := by decide +kernel
theorem dX11_look_147 : decode cX11_look 147 = .ok (.goto (-65), 3) := by decide +kernel
theorem dX11_look_150 : decode cX11_look 150 = .ok (.iinc 3 1, 3) := by decide +kernel
theorem dX11_look_153 : decode cX11_look 153 = .ok (.goto (-113), 3) := by decide +kernel
theorem dX11_look_156 : decode cX11_look 156 = .ok (.goto (-124), 3) := by decide +kernel
theorem dX11_look_159 : decode cX11_look 159 = .ok (.return_, 1) := by decide +kernel
theorem dX11_isApart_0 : decode cX11_isApart 0 = .ok (.aload_n 0, 1) := by decide +kernel
theorem dX11_isApart_1 : decode cX11_isApart 1 = .ok (.iload_n 1, 1) := by decide +kernel
theorem dX11_isApart_2 : decode cX11_isApart 2 = .ok (.invokevirtual 117, 3) := by decide +kernel
theorem dX11_isApart_5 : decode cX11_isApart 5 = .ok (.iconst 0, 1) := by decide +kernel
theorem dX11_isApart_6 : decode cX11_isApart 6 = .ok (.istore_n 2, 1) := by decide +kernel
theorem dX11_isApart_7 : decode cX11_isApart 7 = .ok (.iload_n 1, 1) := by decide +kernel
theorem dX11_isApart_8 : decode cX11_isApart 8 = .ok (.iconst 1, 1) := by decide +kernel
theorem dX11_isApart_9 : decode cX11_isApart 9 = .ok (.iadd, 1) := by decide +kernel
theorem dX11_isApart_10 : decode cX11_isApart 10 = .ok (.istore_n 3, 1) := by decide +kernel
theorem dX11_isApart_11 : decode cX11_isApart 11 = .ok (.iload_n 3, 1) := by decide +kernel
theorem dX11_isApart_12 : decode cX11_isApart 12 = .ok (.aload_n 0, 1) := by decide +kernel
theorem dX11_isApart_13 : decode cX11_isApart 13 = .ok (.getfield 99, 3) := by decide +kernel
theorem dX11_isApart_16 : decode cX11_isApart 16 = .ok (.if_icmp .ge 38, 3) := by decide +kernel
theorem dX11_isApart_19 : decode cX11_isApart 19 = .ok (.iload_n 2, 1) := by decide +kernel
theorem dX11_isApart_20 : decode cX11_isApart 20 = .ok (.ifCond .ne 22, 3) := by decide +kernel
theorem dX11_isApart_23 : decode cX11_isApart 23 = .ok (.aload_n 0, 1) := by decide +kernel
theorem dX11_isApart_24 : decode cX11_isApart 24 = .ok (.getfield 20, 3) := by decide +kernel
theorem dX11_isApart_27 : decode cX11_isApart 27 = .ok (.iload_n 3, 1) := by decide +kernel
theorem dX11_isApart_28 : decode cX11_isApart 28 = .ok (.iaload, 1) := by decide +kernel
theorem dX11_isApart_29 : decode cX11_isApart 29 = .ok (.iconst 1, 1) := by decide +kernel
theorem dX11_isApart_30 : decode cX11_isApart 30 = .ok (.if_icmp .le 16, 3) := by decide +kernel
theorem dX11_isApart_33 : decode cX11_isApart 33 = .ok (.aload_n 0, 1) := by decide +kernel
theorem dX11_isApart_34 : decode cX11_isApart 34 = .ok (.getfield 26, 3) := by decide +kernel
theorem dX11_isApart_37 : decode cX11_isApart 37 = .ok (.iload_n 3, 1) := by decide +kernel
theorem dX11_isApart_38 : decode cX11_isApart 38 = .ok (.baload, 1) := by decide +kernel
theorem dX11_isApart_39 : decode cX11_isApart 39 = .ok (.ifCond .ne 7, 3) := by decide +kernel
theorem dX11_isApart_42 : decode cX11_isApart 42 = .ok (.iconst 1, 1) := by decide +kernel
theorem dX11_isApart_43 : decode cX11_isApart 43 = .ok (.goto 4, 3) := by decide +kernel
theorem dX11_isApart_46 : decode cX11_isApart 46 = .ok (.iconst 0, 1) := by decide +kernel
theorem dX11_isApart_47 : decode cX11_isApart 47 = .ok (.istore_n 2, 1) := by decide +kernel
theorem dX11_isApart_48 : decode cX11_isApart 48 = .ok (.iinc 3 1, 3) := by decide +kernel
theorem dX11_isApart_51 : decode cX11_isApart 51 = .ok (.goto (-40), 3) := by decide +kernel
theorem dX11_isApart_54 : decode cX11_isApart 54 = .ok (.iload_n 2, 1) := by decide +kernel
theorem dX11_isApart_55 : decode cX11_isApart 55 = .ok (.ireturn, 1) := by decide +kernel
theorem dX11_read_0 : decode cX11_read 0 = .ok (.aload_n 0, 1) := by decide +kernel
theorem dX11_read_1 : decode cX11_read 1 = .ok (.iconst (-1), 1) := by decide +kernel
theorem dX11_read_2 : decode cX11_read 2 = .ok (.putfield 13, 3) := by decide +kernel
theorem dX11_read_5 : decode cX11_read 5 = .ok (.aload_n 0, 1) := by decide +kernel
theorem dX11_read_6 : decode cX11_read 6 = .ok (.invokevirtual 121, 3) := by decide +kernel
theorem dX11_read_9 : decode cX11_read 9 = .ok (.istore_n 1, 1) := by decide +kernel
theorem dX11_read_10 : decode cX11_read 10 = .ok (.iload_n 1, 1) := by decide +kernel
theorem dX11_read_11 : decode cX11_read 11 = .ok (.ifCond .ge 5, 3) := by decide +kernel
theorem dX11_read_14 : decode cX11_read 14 = .ok (.iload_n 1, 1) := by decide +kernel
theorem dX11_read_15 : decode cX11_read 15 = .ok (.ireturn, 1) := by decide +kernel
theorem dX11_read_16 : decode cX11_read 16 = .ok (.aload_n 0, 1) := by decide +kernel
theorem dX11_read_17 : decode cX11_read 17 = .ok (.iconst 2, 1) := by decide +kernel
theorem dX11_read_18 : decode cX11_read 18 = .ok (.invokevirtual 125, 3) := by decide +kernel
theorem dX11_read_21 : decode cX11_read 21 = .ok (.ifCond .eq 19, 3) := by decide +kernel
theorem dX11_read_24 : decode cX11_read 24 = .ok (.aload_n 0, 1) := by decide +kernel
theorem dX11_read_25 : decode cX11_read 25 = .ok (.iconst 3, 1) := by decide +kernel
theorem dX11_read_26 : decode cX11_read 26 = .ok (.invokevirtual 125, 3) := by decide +kernel
theorem dX11_read_29 : decode cX11_read 29 = .ok (.ifCond .eq 11, 3) := by decide +kernel
theorem dX11_read_32 : decode cX11_read 32 = .ok (.aload_n 0, 1) := by decide +kernel
theorem dX11_read_33 : decode cX11_read 33 = .ok (.iconst 4, 1) := by decide +kernel
theorem dX11_read_34 : decode cX11_read 34 = .ok (.invokevirtual 125, 3) := by decide +kernel
theorem dX11_read_37 : decode cX11_read 37 = .ok (.ifCond .ne 14, 3) := by decide +kernel
theorem dX11_read_40 : decode cX11_read 40 = .ok (.aload_n 0, 1) := by decide +kernel
theorem dX11_read_41 : decode cX11_read 41 = .ok (.bipush (-13), 2) := by decide +kernel
theorem dX11_read_43 : decode cX11_read 43 = .ok (.aload_n 0, 1) := by decide +kernel
theorem dX11_read_44 : decode cX11_read 44 = .ok (.getfield 96, 3) := by decide +kernel
theorem dX11_read_47 : decode cX11_read 47 = .ok (.invokevirtual 109, 3) := by decide +kernel
theorem dX11_read_50 : decode cX11_read 50 = .ok (.ireturn, 1) := by decide +kernel
theorem dX11_read_51 : decode cX11_read 51 = .ok (.iconst 0, 1) := by decide +kernel
theorem dX11_read_52 : decode cX11_read 52 = .ok (.istore_n 2, 1) := by decide +kernel
theorem dX11_read_53 : decode cX11_read 53 = .ok (.iload_n 2, 1) := by decide +kernel
theorem dX11_read_54 : decode cX11_read 54 = .ok (.aload_n 0, 1) := by decide +kernel
theorem dX11_read_55 : decode cX11_read 55 = .ok (.getfield 99, 3) := by decide +kernel
theorem dX11_read_58 : decode cX11_read 58 = .ok (.if_icmp .ge 54, 3) := by decide +kernel
theorem dX11_read_61 : decode cX11_read 61 = .ok (.aload_n 0, 1) := by decide +kernel
theorem dX11_read_62 : decode cX11_read 62 = .ok (.getfield 20, 3) := by decide +kernel
theorem dX11_read_65 : decode cX11_read 65 = .ok (.iload_n 2, 1) := by decide +kernel
theorem dX11_read_66 : decode cX11_read 66 = .ok (.iaload, 1) := by decide +kernel
theorem dX11_read_67 : decode cX11_read 67 = .ok (.iconst 1, 1) := by decide +kernel
theorem dX11_read_68 : decode cX11_read 68 = .ok (.if_icmp .le 38, 3) := by decide +kernel
theorem dX11_read_71 : decode cX11_read 71 = .ok (.aload_n 0, 1) := by decide +kernel
theorem dX11_read_72 : decode cX11_read 72 = .ok (.iload_n 2, 1) := by decide +kernel
theorem dX11_read_73 : decode cX11_read 73 = .ok (.invokevirtual 129, 3) := by decide +kernel
theorem dX11_read_76 : decode cX11_read 76 = .ok (.ifCond .eq 30, 3) := by decide +kernel
theorem dX11_read_79 : decode cX11_read 79 = .ok (.aload_n 0, 1) := by decide +kernel
theorem dX11_read_80 : decode cX11_read 80 = .ok (.bipush (-14), 2) := by decide +kernel
theorem dX11_read_82 : decode cX11_read 82 = .ok (.iload_n 2, 1) := by decide +kernel
theorem dX11_read_83 : decode cX11_read 83 = .ok (.aload_n 0, 1) := by decide +kernel
theorem dX11_read_84 : decode cX11_read 84 = .ok (.getfield 102, 3) := by decide +kernel
theorem dX11_read_87 : decode cX11_read 87 = .ok (.idiv, 1) := by decide +kernel
theorem dX11_read_88 : decode cX11_read 88 = .ok (.aload_n 0, 1) := by decide +kernel
theorem dX11_read_89 : decode cX11_read 89 = .ok (.getfield 102, 3) := by decide +kernel
theorem dX11_read_92 : decode cX11_read 92 = .ok (.iconst 1, 1) := by decide +kernel
theorem dX11_read_93 : decode cX11_read 93 = .ok (.iadd, 1) := by decide +kernel
theorem dX11_read_94 : decode cX11_read 94 = .ok (.imul, 1) := by decide +kernel
theorem dX11_read_95 : decode cX11_read 95 = .ok (.iload_n 2, 1) := by decide +kernel
theorem dX11_read_96 : decode cX11_read 96 = .ok (.aload_n 0, 1) := by decide +kernel
theorem dX11_read_97 : decode cX11_read 97 = .ok (.getfield 102, 3) := by decide +kernel
theorem dX11_read_100 : decode cX11_read 100 = .ok (.irem, 1) := by decide +kernel
theorem dX11_read_101 : decode cX11_read 101 = .ok (.iadd, 1) := by decide +kernel
theorem dX11_read_102 : decode cX11_read 102 = .ok (.invokevirtual 109, 3) := by decide +kernel
theorem dX11_read_105 : decode cX11_read 105 = .ok (.ireturn, 1) := by decide +kernel
theorem dX11_read_106 : decode cX11_read 106 = .ok (.iinc 2 1, 3) := by decide +kernel
theorem dX11_read_109 : decode cX11_read 109 = .ok (.goto (-56), 3) := by decide +kernel
theorem dX11_read_112 : decode cX11_read 112 = .ok (.aload_n 0, 1) := by decide +kernel
theorem dX11_read_113 : decode cX11_read 113 = .ok (.aload_n 0, 1) := by decide +kernel
theorem dX11_read_114 : decode cX11_read 114 = .ok (.getfield 99, 3) := by decide +kernel
theorem dX11_read_117 : decode cX11_read 117 = .ok (.putfield 132, 3) := by decide +kernel
theorem dX11_read_120 : decode cX11_read 120 = .ok (.aload_n 0, 1) := by decide +kernel
theorem dX11_read_121 : decode cX11_read 121 = .ok (.aload_n 0, 1) := by decide +kernel
theorem dX11_read_122 : decode cX11_read 122 = .ok (.getfield 102, 3) := by decide +kernel
theorem dX11_read_125 : decode cX11_read 125 = .ok (.putfield 135, 3) := by decide +kernel
theorem dX11_read_128 : decode cX11_read 128 = .ok (.iconst 0, 1) := by decide +kernel
theorem dX11_read_129 : decode cX11_read 129 = .ok (.istore_n 2, 1) := by decide +kernel
theorem dX11_read_130 : decode cX11_read 130 = .ok (.iload_n 2, 1) := by decide +kernel
theorem dX11_read_131 : decode cX11_read 131 = .ok (.aload_n 0, 1) := by decide +kernel
theorem dX11_read_132 : decode cX11_read 132 = .ok (.getfield 132, 3) := by decide +kernel
theorem dX11_read_135 : decode cX11_read 135 = .ok (.if_icmp .ge 21, 3) := by decide +kernel
theorem dX11_read_138 : decode cX11_read 138 = .ok (.aload_n 0, 1) := by decide +kernel
theorem dX11_read_139 : decode cX11_read 139 = .ok (.getfield 17, 3) := by decide +kernel
theorem dX11_read_142 : decode cX11_read 142 = .ok (.iload_n 2, 1) := by decide +kernel
theorem dX11_read_143 : decode cX11_read 143 = .ok (.aload_n 0, 1) := by decide +kernel
theorem dX11_read_144 : decode cX11_read 144 = .ok (.getfield 20, 3) := by decide +kernel
theorem dX11_read_147 : decode cX11_read 147 = .ok (.iload_n 2, 1) := by decide +kernel
theorem dX11_read_148 : decode cX11_read 148 = .ok (.iaload, 1) := by decide +kernel
theorem dX11_read_149 : decode cX11_read 149 = .ok (.iastore, 1) := by decide +kernel
theorem dX11_read_150 : decode cX11_read 150 = .ok (.iinc 2 1, 3) := by decide +kernel
theorem dX11_read_153 : decode cX11_read 153 = .ok (.goto (-23), 3) := by decide +kernel
theorem dX11_read_156 : decode cX11_read 156 = .ok (.iconst 0, 1) := by decide +kernel
theorem dX11_read_157 : decode cX11_read 157 = .ok (.istore_n 2, 1) := by decide +kernel
theorem dX11_read_158 : decode cX11_read 158 = .ok (.iload_n 2, 1) := by decide +kernel
theorem dX11_read_159 : decode cX11_read 159 = .ok (.aload_n 0, 1) := by decide +kernel
theorem dX11_read_160 : decode cX11_read 160 = .ok (.getfield 132, 3) := by decide +kernel
theorem dX11_read_163 : decode cX11_read 163 = .ok (.if_icmp .ge 14, 3) := by decide +kernel
theorem dX11_read_166 : decode cX11_read 166 = .ok (.aload_n 0, 1) := by decide +kernel
theorem dX11_read_167 : decode cX11_read 167 = .ok (.iload_n 2, 1) := by decide +kernel
theorem dX11_read_168 : decode cX11_read 168 = .ok (.invokevirtual 138, 3) := by decide +kernel
theorem dX11_read_171 : decode cX11_read 171 = .ok (.iinc 2 1, 3) := by decide +kernel
theorem dX11_read_174 : decode cX11_read 174 = .ok (.goto (-16), 3) := by decide +kernel
theorem dX11_read_177 : decode cX11_read 177 = .ok (.aload_n 0, 1) := by decide +kernel
theorem dX11_read_178 : decode cX11_read 178 = .ok (.iconst 0, 1) := by decide +kernel
theorem dX11_read_179 : decode cX11_read 179 = .ok (.putfield 141, 3) := by decide +kernel
theorem dX11_read_182 : decode cX11_read 182 = .ok (.aload_n 0, 1) := by decide +kernel
theorem dX11_read_183 : decode cX11_read 183 = .ok (.iconst 0, 1) := by decide +kernel
theorem dX11_read_184 : decode cX11_read 184 = .ok (.putfield 144, 3) := by decide +kernel
theorem dX11_read_187 : decode cX11_read 187 = .ok (.aload_n 0, 1) := by decide +kernel
theorem dX11_read_188 : decode cX11_read 188 = .ok (.iconst 0, 1) := by decide +kernel
theorem dX11_read_189 : decode cX11_read 189 = .ok (.putfield 147, 3) := by decide +kernel
theorem dX11_read_192 : decode cX11_read 192 = .ok (.aload_n 0, 1) := by decide +kernel
theorem dX11_read_193 : decode cX11_read 193 = .ok (.iconst 0, 1) := by decide +kernel
theorem dX11_read_194 : decode cX11_read 194 = .ok (.putfield 150, 3) := by decide +kernel
theorem dX11_read_197 : decode cX11_read 197 = .ok (.aload_n 0, 1) := by decide +kernel
theorem dX11_read_198 : decode cX11_read 198 = .ok (.iconst 0, 1) := by decide +kernel
theorem dX11_read_199 : decode cX11_read 199 = .ok (.putfield 153, 3) := by decide +kernel
theorem dX11_read_202 : decode cX11_read 202 = .ok (.aload_n 0, 1) := by decide +kernel
theorem dX11_read_203 : decode cX11_read 203 = .ok (.iconst 0, 1) := by decide +kernel
theorem dX11_read_204 : decode cX11_read 204 = .ok (.putfield 156, 3) := by decide +kernel
theorem dX11_read_207 : decode cX11_read 207 = .ok (.aload_n 0, 1) := by decide +kernel
theorem dX11_read_208 : decode cX11_read 208 = .ok (.iconst 0, 1) := by decide +kernel
theorem dX11_read_209 : decode cX11_read 209 = .ok (.putfield 159, 3) := by decide +kernel
theorem dX11_read_212 : decode cX11_read 212 = .ok (.aload_n 0, 1) := by decide +kernel
theorem dX11_read_213 : decode cX11_read 213 = .ok (.getfield 132, 3) := by decide +kernel
theorem dX11_read_216 : decode cX11_read 216 = .ok (.ireturn, 1) := by decide +kernel
theorem dX11_measure_0 : decode cX11_measure 0 = .ok (.iconst 0, 1) := by decide +kernel
theorem dX11_measure_1 : decode cX11_measure 1 = .ok (.istore_n 2, 1) := by decide +kernel
theorem dX11_measure_2 : decode cX11_measure 2 = .ok (.iload_n 2, 1) := by decide +kernel
theorem dX11_measure_3 : decode cX11_measure 3 = .ok (.aload_n 0, 1) := by decide +kernel
theorem dX11_measure_4 : decode cX11_measure 4 = .ok (.getfield 132, 3) := by decide +kernel
theorem dX11_measure_7 : decode cX11_measure 7 = .ok (.if_icmp .ge 39, 3) := by decide +kernel
theorem dX11_measure_10 : decode cX11_measure 10 = .ok (.aload_n 0, 1) := by decide +kernel
theorem dX11_measure_11 : decode cX11_measure 11 = .ok (.getfield 23, 3) := by decide +kernel
theorem dX11_measure_14 : decode cX11_measure 14 = .ok (.bipush 80, 2) := by decide +kernel
theorem dX11_measure_16 : decode cX11_measure 16 = .ok (.iload_n 1, 1) := by decide +kernel
theorem dX11_measure_17 : decode cX11_measure 17 = .ok (.imul, 1) := by decide +kernel
theorem dX11_measure_18 : decode cX11_measure 18 = .ok (.iload_n 2, 1) := by decide +kernel
theorem dX11_measure_19 : decode cX11_measure 19 = .ok (.iadd, 1) := by decide +kernel
theorem dX11_measure_20 : decode cX11_measure 20 = .ok (.iload_n 2, 1) := by decide +kernel
theorem dX11_measure_21 : decode cX11_measure 21 = .ok (.iload_n 1, 1) := by decide +kernel
theorem dX11_measure_22 : decode cX11_measure 22 = .ok (.if_icmp .ne 16, 3) := by decide +kernel
theorem dX11_measure_25 : decode cX11_measure 25 = .ok (.aload_n 0, 1) := by decide +kernel
theorem dX11_measure_26 : decode cX11_measure 26 = .ok (.getfield 17, 3) := by decide +kernel
theorem dX11_measure_29 : decode cX11_measure 29 = .ok (.iload_n 2, 1) := by decide +kernel
theorem dX11_measure_30 : decode cX11_measure 30 = .ok (.iaload, 1) := by decide +kernel
theorem dX11_measure_31 : decode cX11_measure 31 = .ok (.ifCond .eq 7, 3) := by decide +kernel
theorem dX11_measure_34 : decode cX11_measure 34 = .ok (.iconst 0, 1) := by decide +kernel
theorem dX11_measure_35 : decode cX11_measure 35 = .ok (.goto 4, 3) := by decide +kernel
theorem dX11_measure_38 : decode cX11_measure 38 = .ok (.iconst (-1), 1) := by decide +kernel
theorem dX11_measure_39 : decode cX11_measure 39 = .ok (.iastore, 1) := by decide +kernel
theorem dX11_measure_40 : decode cX11_measure 40 = .ok (.iinc 2 1, 3) := by decide +kernel
theorem dX11_measure_43 : decode cX11_measure 43 = .ok (.goto (-41), 3) := by decide +kernel
theorem dX11_measure_46 : decode cX11_measure 46 = .ok (.iconst 1, 1) := by decide +kernel
theorem dX11_measure_47 : decode cX11_measure 47 = .ok (.istore_n 2, 1) := by decide +kernel
theorem dX11_measure_48 : decode cX11_measure 48 = .ok (.iconst 0, 1) := by decide +kernel
theorem dX11_measure_49 : decode cX11_measure 49 = .ok (.istore_n 3, 1) := by decide +kernel
theorem dX11_measure_50 : decode cX11_measure 50 = .ok (.iload_n 2, 1) := by decide +kernel
theorem dX11_measure_51 : decode cX11_measure 51 = .ok (.ifCond .eq 124, 3) := by decide +kernel
theorem dX11_measure_54 : decode cX11_measure 54 = .ok (.iconst 0, 1) := by decide +kernel
theorem dX11_measure_55 : decode cX11_measure 55 = .ok (.istore_n 2, 1) := by decide +kernel
theorem dX11_measure_56 : decode cX11_measure 56 = .ok (.iconst 0, 1) := by decide +kernel
theorem dX11_measure_57 : decode cX11_measure 57 = .ok (.istore 4, 2) := by decide +kernel
theorem dX11_measure_59 : decode cX11_measure 59 = .ok (.iload 4, 2) := by decide +kernel
theorem dX11_measure_61 : decode cX11_measure 61 = .ok (.aload_n 0, 1) := by decide +kernel
theorem dX11_measure_62 : decode cX11_measure 62 = .ok (.getfield 132, 3) := by decide +kernel
theorem dX11_measure_65 : decode cX11_measure 65 = .ok (.if_icmp .ge 104, 3) := by decide +kernel
theorem dX11_measure_68 : decode cX11_measure 68 = .ok (.iconst 1, 1) := by decide +kernel
theorem dX11_measure_69 : decode cX11_measure 69 = .ok (.istore 5, 2) := by decide +kernel
theorem dX11_measure_71 : decode cX11_measure 71 = .ok (.iload 5, 2) := by decide +kernel
theorem dX11_measure_73 : decode cX11_measure 73 = .ok (.iconst 5, 1) := by decide +kernel
theorem dX11_measure_74 : decode cX11_measure 74 = .ok (.if_icmp .ge 89, 3) := by decide +kernel
theorem dX11_measure_77 : decode cX11_measure 77 = .ok (.aload_n 0, 1) := by decide +kernel
theorem dX11_measure_78 : decode cX11_measure 78 = .ok (.getfield 23, 3) := by decide +kernel
theorem dX11_measure_81 : decode cX11_measure 81 = .ok (.bipush 80, 2) := by decide +kernel
theorem dX11_measure_83 : decode cX11_measure 83 = .ok (.iload_n 1, 1) := by decide +kernel
theorem dX11_measure_84 : decode cX11_measure 84 = .ok (.imul, 1) := by decide +kernel
theorem dX11_measure_85 : decode cX11_measure 85 = .ok (.iload 4, 2) := by decide +kernel
theorem dX11_measure_87 : decode cX11_measure 87 = .ok (.iadd, 1) := by decide +kernel
theorem dX11_measure_88 : decode cX11_measure 88 = .ok (.iaload, 1) := by decide +kernel
theorem dX11_measure_89 : decode cX11_measure 89 = .ok (.iload_n 3, 1) := by decide +kernel
theorem dX11_measure_90 : decode cX11_measure 90 = .ok (.if_icmp .ne 73, 3) := by decide +kernel
theorem dX11_measure_93 : decode cX11_measure 93 = .ok (.iload 4, 2) := by decide +kernel
theorem dX11_measure_95 : decode cX11_measure 95 = .ok (.iload 5, 2) := by decide +kernel
theorem dX11_measure_97 : decode cX11_measure 97 = .ok (.aload_n 0, 1) := by decide +kernel
theorem dX11_measure_98 : decode cX11_measure 98 = .ok (.getfield 135, 3) := by decide +kernel
theorem dX11_measure_101 : decode cX11_measure 101 = .ok (.aload_n 0, 1) := by decide +kernel
theorem dX11_measure_102 : decode cX11_measure 102 = .ok (.getfield 132, 3) := by decide +kernel
theorem dX11_measure_105 : decode cX11_measure 105 = .ok (.invokestatic 113, 3) := by decide +kernel
theorem dX11_measure_108 : decode cX11_measure 108 = .ok (.istore 6, 2) := by decide +kernel
theorem dX11_measure_110 : decode cX11_measure 110 = .ok (.iload 6, 2) := by decide +kernel
theorem dX11_measure_112 : decode cX11_measure 112 = .ok (.ifCond .lt 45, 3) := by decide +kernel
theorem dX11_measure_115 : decode cX11_measure 115 = .ok (.aload_n 0, 1) := by decide +kernel
theorem dX11_measure_116 : decode cX11_measure 116 = .ok (.getfield 17, 3) := by decide +kernel
theorem dX11_measure_119 : decode cX11_measure 119 = .ok (.iload 6, 2) := by decide +kernel
theorem dX11_measure_121 : decode cX11_measure 121 = .ok (.iaload, 1) := by decide +kernel
theorem dX11_measure_122 : decode cX11_measure 122 = .ok (.ifCond .eq 35, 3) := by decide +kernel
theorem dX11_measure_125 : decode cX11_measure 125 = .ok (.aload_n 0, 1) := by decide +kernel
theorem dX11_measure_126 : decode cX11_measure 126 = .ok (.getfield 23, 3) := by decide +kernel
theorem dX11_measure_129 : decode cX11_measure 129 = .ok (.bipush 80, 2) := by decide +kernel
theorem dX11_measure_131 : decode cX11_measure 131 = .ok (.iload_n 1, 1) := by decide +kernel
theorem dX11_measure_132 : decode cX11_measure 132 = .ok (.imul, 1) := by decide +kernel
theorem dX11_measure_133 : decode cX11_measure 133 = .ok (.iload 6, 2) := by decide +kernel
theorem dX11_measure_135 : decode cX11_measure 135 = .ok (.iadd, 1) := by decide +kernel
theorem dX11_measure_136 : decode cX11_measure 136 = .ok (.iaload, 1) := by decide +kernel
