theorem dF_init_0 : decode bF_init 0 = .ok (.aload_n 0, 1) := by decide +kernel
theorem dF_init_1 : decode bF_init 1 = .ok (.invokespecial 5, 3) := by decide +kernel
theorem dF_init_4 : decode bF_init 4 = .ok (.aload_n 0, 1) := by decide +kernel
theorem dF_init_5 : decode bF_init 5 = .ok (.sipush 278, 3) := by decide +kernel
theorem dF_init_8 : decode bF_init 8 = .ok (.newarray .long, 2) := by decide +kernel
theorem dF_init_10 : decode bF_init 10 = .ok (.putfield 11, 3) := by decide +kernel
theorem dF_init_13 : decode bF_init 13 = .ok (.aload_n 0, 1) := by decide +kernel
theorem dF_init_14 : decode bF_init 14 = .ok (.getfield 11, 3) := by decide +kernel
theorem dF_init_17 : decode bF_init 17 = .ok (.iconst 1, 1) := by decide +kernel
theorem dF_init_18 : decode bF_init 18 = .ok (.ldc2_w 15, 3) := by decide +kernel
theorem dF_init_21 : decode bF_init 21 = .ok (.lastore, 1) := by decide +kernel
theorem dF_init_22 : decode bF_init 22 = .ok (.aload_n 0, 1) := by decide +kernel
theorem dF_init_23 : decode bF_init 23 = .ok (.iconst 1, 1) := by decide +kernel
theorem dF_init_24 : decode bF_init 24 = .ok (.putfield 17, 3) := by decide +kernel
theorem dF_init_27 : decode bF_init 27 = .ok (.return_, 1) := by decide +kernel
theorem dF_least_0 : decode bF_least 0 = .ok (.aload_n 0, 1) := by decide +kernel
theorem dF_least_1 : decode bF_least 1 = .ok (.getfield 17, 3) := by decide +kernel
theorem dF_least_4 : decode bF_least 4 = .ok (.istore_n 3, 1) := by decide +kernel
theorem dF_least_5 : decode bF_least 5 = .ok (.iload_n 3, 1) := by decide +kernel
theorem dF_least_6 : decode bF_least 6 = .ok (.iload_n 1, 1) := by decide +kernel
theorem dF_least_7 : decode bF_least 7 = .ok (.if_icmp .ge 14, 3) := by decide +kernel
theorem dF_least_10 : decode bF_least 10 = .ok (.aload_n 0, 1) := by decide +kernel
theorem dF_least_11 : decode bF_least 11 = .ok (.iload_n 3, 1) := by decide +kernel
theorem dF_least_12 : decode bF_least 12 = .ok (.invokevirtual 25, 3) := by decide +kernel
theorem dF_least_15 : decode bF_least 15 = .ok (.iinc 3 1, 3) := by decide +kernel
theorem dF_least_18 : decode bF_least 18 = .ok (.goto (-13), 3) := by decide +kernel
theorem dF_least_21 : decode bF_least 21 = .ok (.aload_n 0, 1) := by decide +kernel
theorem dF_least_22 : decode bF_least 22 = .ok (.iload_n 1, 1) := by decide +kernel
theorem dF_least_23 : decode bF_least 23 = .ok (.iload_n 2, 1) := by decide +kernel
theorem dF_least_24 : decode bF_least 24 = .ok (.invokevirtual 29, 3) := by decide +kernel
theorem dF_least_27 : decode bF_least 27 = .ok (.lreturn, 1) := by decide +kernel
theorem dF_fillLevel_0 : decode bF_fillLevel 0 = .ok (.iconst 1, 1) := by decide +kernel
theorem dF_fillLevel_1 : decode bF_fillLevel 1 = .ok (.iconst 1, 1) := by decide +kernel
theorem dF_fillLevel_2 : decode bF_fillLevel 2 = .ok (.iload_n 1, 1) := by decide +kernel
theorem dF_fillLevel_3 : decode bF_fillLevel 3 = .ok (.ishl, 1) := by decide +kernel
theorem dF_fillLevel_4 : decode bF_fillLevel 4 = .ok (.ishl, 1) := by decide +kernel
theorem dF_fillLevel_5 : decode bF_fillLevel 5 = .ok (.istore_n 2, 1) := by decide +kernel
theorem dF_fillLevel_6 : decode bF_fillLevel 6 = .ok (.iconst 0, 1) := by decide +kernel
theorem dF_fillLevel_7 : decode bF_fillLevel 7 = .ok (.istore_n 3, 1) := by decide +kernel
theorem dF_fillLevel_8 : decode bF_fillLevel 8 = .ok (.iload_n 3, 1) := by decide +kernel
theorem dF_fillLevel_9 : decode bF_fillLevel 9 = .ok (.iload_n 2, 1) := by decide +kernel
theorem dF_fillLevel_10 : decode bF_fillLevel 10 = .ok (.if_icmp .ge 27, 3) := by decide +kernel
theorem dF_fillLevel_13 : decode bF_fillLevel 13 = .ok (.aload_n 0, 1) := by decide +kernel
theorem dF_fillLevel_14 : decode bF_fillLevel 14 = .ok (.getfield 11, 3) := by decide +kernel
theorem dF_fillLevel_17 : decode bF_fillLevel 17 = .ok (.getstatic 33, 3) := by decide +kernel
theorem dF_fillLevel_20 : decode bF_fillLevel 20 = .ok (.iload_n 1, 1) := by decide +kernel
theorem dF_fillLevel_21 : decode bF_fillLevel 21 = .ok (.iaload, 1) := by decide +kernel
theorem dF_fillLevel_22 : decode bF_fillLevel 22 = .ok (.iload_n 3, 1) := by decide +kernel
theorem dF_fillLevel_23 : decode bF_fillLevel 23 = .ok (.iadd, 1) := by decide +kernel
theorem dF_fillLevel_24 : decode bF_fillLevel 24 = .ok (.aload_n 0, 1) := by decide +kernel
theorem dF_fillLevel_25 : decode bF_fillLevel 25 = .ok (.iload_n 1, 1) := by decide +kernel
theorem dF_fillLevel_26 : decode bF_fillLevel 26 = .ok (.iload_n 3, 1) := by decide +kernel
theorem dF_fillLevel_27 : decode bF_fillLevel 27 = .ok (.invokevirtual 29, 3) := by decide +kernel
theorem dF_fillLevel_30 : decode bF_fillLevel 30 = .ok (.lastore, 1) := by decide +kernel
theorem dF_fillLevel_31 : decode bF_fillLevel 31 = .ok (.iinc 3 1, 3) := by decide +kernel
theorem dF_fillLevel_34 : decode bF_fillLevel 34 = .ok (.goto (-26), 3) := by decide +kernel
theorem dF_fillLevel_37 : decode bF_fillLevel 37 = .ok (.aload_n 0, 1) := by decide +kernel
theorem dF_fillLevel_38 : decode bF_fillLevel 38 = .ok (.iload_n 1, 1) := by decide +kernel
theorem dF_fillLevel_39 : decode bF_fillLevel 39 = .ok (.iconst 1, 1) := by decide +kernel
theorem dF_fillLevel_40 : decode bF_fillLevel 40 = .ok (.iadd, 1) := by decide +kernel
theorem dF_fillLevel_41 : decode bF_fillLevel 41 = .ok (.putfield 17, 3) := by decide +kernel
theorem dF_fillLevel_44 : decode bF_fillLevel 44 = .ok (.return_, 1) := by decide +kernel
theorem dF_leastFrom_0 : decode bF_leastFrom 0 = .ok (.iconst 1, 1) := by decide +kernel
theorem dF_leastFrom_1 : decode bF_leastFrom 1 = .ok (.iload_n 1, 1) := by decide +kernel
theorem dF_leastFrom_2 : decode bF_leastFrom 2 = .ok (.iconst 1, 1) := by decide +kernel
theorem dF_leastFrom_3 : decode bF_leastFrom 3 = .ok (.isub, 1) := by decide +kernel
theorem dF_leastFrom_4 : decode bF_leastFrom 4 = .ok (.ishl, 1) := by decide +kernel
theorem dF_leastFrom_5 : decode bF_leastFrom 5 = .ok (.istore_n 3, 1) := by decide +kernel
theorem dF_leastFrom_6 : decode bF_leastFrom 6 = .ok (.iconst 1, 1) := by decide +kernel
theorem dF_leastFrom_7 : decode bF_leastFrom 7 = .ok (.iload_n 3, 1) := by decide +kernel
theorem dF_leastFrom_8 : decode bF_leastFrom 8 = .ok (.ishl, 1) := by decide +kernel
theorem dF_leastFrom_9 : decode bF_leastFrom 9 = .ok (.istore 4, 2) := by decide +kernel
theorem dF_leastFrom_11 : decode bF_leastFrom 11 = .ok (.iload_n 2, 1) := by decide +kernel
theorem dF_leastFrom_12 : decode bF_leastFrom 12 = .ok (.iload 4, 2) := by decide +kernel
theorem dF_leastFrom_14 : decode bF_leastFrom 14 = .ok (.iconst 1, 1) := by decide +kernel
theorem dF_leastFrom_15 : decode bF_leastFrom 15 = .ok (.isub, 1) := by decide +kernel
theorem dF_leastFrom_16 : decode bF_leastFrom 16 = .ok (.iand, 1) := by decide +kernel
theorem dF_leastFrom_17 : decode bF_leastFrom 17 = .ok (.istore 5, 2) := by decide +kernel
theorem dF_leastFrom_19 : decode bF_leastFrom 19 = .ok (.iload_n 2, 1) := by decide +kernel
theorem dF_leastFrom_20 : decode bF_leastFrom 20 = .ok (.iload_n 3, 1) := by decide +kernel
theorem dF_leastFrom_21 : decode bF_leastFrom 21 = .ok (.ishr, 1) := by decide +kernel
theorem dF_leastFrom_22 : decode bF_leastFrom 22 = .ok (.iload 4, 2) := by decide +kernel
theorem dF_leastFrom_24 : decode bF_leastFrom 24 = .ok (.iconst 1, 1) := by decide +kernel
theorem dF_leastFrom_25 : decode bF_leastFrom 25 = .ok (.isub, 1) := by decide +kernel
theorem dF_leastFrom_26 : decode bF_leastFrom 26 = .ok (.iand, 1) := by decide +kernel
theorem dF_leastFrom_27 : decode bF_leastFrom 27 = .ok (.istore 6, 2) := by decide +kernel
theorem dF_leastFrom_29 : decode bF_leastFrom 29 = .ok (.getstatic 33, 3) := by decide +kernel
theorem dF_leastFrom_32 : decode bF_leastFrom 32 = .ok (.iload_n 1, 1) := by decide +kernel
theorem dF_leastFrom_33 : decode bF_leastFrom 33 = .ok (.iconst 1, 1) := by decide +kernel
theorem dF_leastFrom_34 : decode bF_leastFrom 34 = .ok (.isub, 1) := by decide +kernel
theorem dF_leastFrom_35 : decode bF_leastFrom 35 = .ok (.iaload, 1) := by decide +kernel
theorem dF_leastFrom_36 : decode bF_leastFrom 36 = .ok (.istore 7, 2) := by decide +kernel
theorem dF_leastFrom_38 : decode bF_leastFrom 38 = .ok (.iload_n 1, 1) := by decide +kernel
theorem dF_leastFrom_39 : decode bF_leastFrom 39 = .ok (.iconst 1, 1) := by decide +kernel
theorem dF_leastFrom_40 : decode bF_leastFrom 40 = .ok (.isub, 1) := by decide +kernel
theorem dF_leastFrom_41 : decode bF_leastFrom 41 = .ok (.invokestatic 37, 3) := by decide +kernel
theorem dF_leastFrom_44 : decode bF_leastFrom 44 = .ok (.istore 8, 2) := by decide +kernel
theorem dF_leastFrom_46 : decode bF_leastFrom 46 = .ok (.ldc2_w 43, 3) := by decide +kernel
theorem dF_leastFrom_49 : decode bF_leastFrom 49 = .ok (.lstore 9, 2) := by decide +kernel
theorem dF_leastFrom_51 : decode bF_leastFrom 51 = .ok (.iconst 0, 1) := by decide +kernel
theorem dF_leastFrom_52 : decode bF_leastFrom 52 = .ok (.istore 11, 2) := by decide +kernel
theorem dF_leastFrom_54 : decode bF_leastFrom 54 = .ok (.iload 11, 2) := by decide +kernel
theorem dF_leastFrom_56 : decode bF_leastFrom 56 = .ok (.iload 4, 2) := by decide +kernel
theorem dF_leastFrom_58 : decode bF_leastFrom 58 = .ok (.if_icmp .ge 105, 3) := by decide +kernel
theorem dF_leastFrom_61 : decode bF_leastFrom 61 = .ok (.aload_n 0, 1) := by decide +kernel
theorem dF_leastFrom_62 : decode bF_leastFrom 62 = .ok (.getfield 11, 3) := by decide +kernel
theorem dF_leastFrom_65 : decode bF_leastFrom 65 = .ok (.iload 7, 2) := by decide +kernel
theorem dF_leastFrom_67 : decode bF_leastFrom 67 = .ok (.iload 11, 2) := by decide +kernel
theorem dF_leastFrom_69 : decode bF_leastFrom 69 = .ok (.iadd, 1) := by decide +kernel
theorem dF_leastFrom_70 : decode bF_leastFrom 70 = .ok (.laload, 1) := by decide +kernel
theorem dF_leastFrom_71 : decode bF_leastFrom 71 = .ok (.lstore 12, 2) := by decide +kernel
theorem dF_leastFrom_73 : decode bF_leastFrom 73 = .ok (.aload_n 0, 1) := by decide +kernel
theorem dF_leastFrom_74 : decode bF_leastFrom 74 = .ok (.getfield 11, 3) := by decide +kernel
theorem dF_leastFrom_77 : decode bF_leastFrom 77 = .ok (.iload 7, 2) := by decide +kernel
theorem dF_leastFrom_79 : decode bF_leastFrom 79 = .ok (.iload 6, 2) := by decide +kernel
theorem dF_leastFrom_81 : decode bF_leastFrom 81 = .ok (.iload 11, 2) := by decide +kernel
theorem dF_leastFrom_83 : decode bF_leastFrom 83 = .ok (.ixor, 1) := by decide +kernel
theorem dF_leastFrom_84 : decode bF_leastFrom 84 = .ok (.iadd, 1) := by decide +kernel
theorem dF_leastFrom_85 : decode bF_leastFrom 85 = .ok (.laload, 1) := by decide +kernel
theorem dF_leastFrom_86 : decode bF_leastFrom 86 = .ok (.lstore 14, 2) := by decide +kernel
theorem dF_leastFrom_88 : decode bF_leastFrom 88 = .ok (.aload_n 0, 1) := by decide +kernel
theorem dF_leastFrom_89 : decode bF_leastFrom 89 = .ok (.getfield 11, 3) := by decide +kernel
theorem dF_leastFrom_92 : decode bF_leastFrom 92 = .ok (.iload 7, 2) := by decide +kernel
theorem dF_leastFrom_94 : decode bF_leastFrom 94 = .ok (.iload 5, 2) := by decide +kernel
theorem dF_leastFrom_96 : decode bF_leastFrom 96 = .ok (.iload 11, 2) := by decide +kernel
theorem dF_leastFrom_98 : decode bF_leastFrom 98 = .ok (.ixor, 1) := by decide +kernel
theorem dF_leastFrom_99 : decode bF_leastFrom 99 = .ok (.iadd, 1) := by decide +kernel
theorem dF_leastFrom_100 : decode bF_leastFrom 100 = .ok (.laload, 1) := by decide +kernel
theorem dF_leastFrom_101 : decode bF_leastFrom 101 = .ok (.lstore 16, 2) := by decide +kernel
theorem dF_leastFrom_103 : decode bF_leastFrom 103 = .ok (.lload 12, 2) := by decide +kernel
theorem dF_leastFrom_105 : decode bF_leastFrom 105 = .ok (.invokestatic 21, 3) := by decide +kernel
theorem dF_leastFrom_108 : decode bF_leastFrom 108 = .ok (.lload 14, 2) := by decide +kernel
theorem dF_leastFrom_110 : decode bF_leastFrom 110 = .ok (.invokestatic 21, 3) := by decide +kernel
theorem dF_leastFrom_113 : decode bF_leastFrom 113 = .ok (.iadd, 1) := by decide +kernel
theorem dF_leastFrom_114 : decode bF_leastFrom 114 = .ok (.lload 16, 2) := by decide +kernel
theorem dF_leastFrom_116 : decode bF_leastFrom 116 = .ok (.invokestatic 21, 3) := by decide +kernel
theorem dF_leastFrom_119 : decode bF_leastFrom 119 = .ok (.iadd, 1) := by decide +kernel
theorem dF_leastFrom_120 : decode bF_leastFrom 120 = .ok (.lload 9, 2) := by decide +kernel
theorem dF_leastFrom_122 : decode bF_leastFrom 122 = .ok (.invokestatic 21, 3) := by decide +kernel
theorem dF_leastFrom_125 : decode bF_leastFrom 125 = .ok (.if_icmp .gt 32, 3) := by decide +kernel
theorem dF_leastFrom_128 : decode bF_leastFrom 128 = .ok (.lload 12, 2) := by decide +kernel
theorem dF_leastFrom_130 : decode bF_leastFrom 130 = .ok (.lload 14, 2) := by decide +kernel
theorem dF_leastFrom_132 : decode bF_leastFrom 132 = .ok (.iload 8, 2) := by decide +kernel
theorem dF_leastFrom_134 : decode bF_leastFrom 134 = .ok (.invokestatic 45, 3) := by decide +kernel
theorem dF_leastFrom_137 : decode bF_leastFrom 137 = .ok (.lload 16, 2) := by decide +kernel
theorem dF_leastFrom_139 : decode bF_leastFrom 139 = .ok (.iconst 2, 1) := by decide +kernel
theorem dF_leastFrom_140 : decode bF_leastFrom 140 = .ok (.iload 8, 2) := by decide +kernel
theorem dF_leastFrom_142 : decode bF_leastFrom 142 = .ok (.imul, 1) := by decide +kernel
theorem dF_leastFrom_143 : decode bF_leastFrom 143 = .ok (.invokestatic 45, 3) := by decide +kernel
theorem dF_leastFrom_146 : decode bF_leastFrom 146 = .ok (.lstore 18, 2) := by decide +kernel
theorem dF_leastFrom_148 : decode bF_leastFrom 148 = .ok (.lload 9, 2) := by decide +kernel
theorem dF_leastFrom_150 : decode bF_leastFrom 150 = .ok (.lload 18, 2) := by decide +kernel
theorem dF_leastFrom_152 : decode bF_leastFrom 152 = .ok (.invokestatic 49, 3) := by decide +kernel
theorem dF_leastFrom_155 : decode bF_leastFrom 155 = .ok (.lstore 9, 2) := by decide +kernel
theorem dF_leastFrom_157 : decode bF_leastFrom 157 = .ok (.iinc 11 1, 3) := by decide +kernel
theorem dF_leastFrom_160 : decode bF_leastFrom 160 = .ok (.goto (-106), 3) := by decide +kernel
theorem dF_leastFrom_163 : decode bF_leastFrom 163 = .ok (.lload 9, 2) := by decide +kernel
theorem dF_leastFrom_165 : decode bF_leastFrom 165 = .ok (.lreturn, 1) := by decide +kernel
theorem dF_sizeOf_0 : decode bF_sizeOf 0 = .ok (.lload_n 0, 1) := by decide +kernel
theorem dF_sizeOf_1 : decode bF_sizeOf 1 = .ok (.bipush 48, 2) := by decide +kernel
theorem dF_sizeOf_3 : decode bF_sizeOf 3 = .ok (.lushr, 1) := by decide +kernel
theorem dF_sizeOf_4 : decode bF_sizeOf 4 = .ok (.l2i, 1) := by decide +kernel
theorem dF_sizeOf_5 : decode bF_sizeOf 5 = .ok (.ireturn, 1) := by decide +kernel
theorem dF_join_0 : decode bF_join 0 = .ok (.lload_n 2, 1) := by decide +kernel
theorem dF_join_1 : decode bF_join 1 = .ok (.invokestatic 21, 3) := by decide +kernel
theorem dF_join_4 : decode bF_join 4 = .ok (.istore 5, 2) := by decide +kernel
theorem dF_join_6 : decode bF_join 6 = .ok (.bipush 7, 2) := by decide +kernel
theorem dF_join_8 : decode bF_join 8 = .ok (.iload 5, 2) := by decide +kernel
theorem dF_join_10 : decode bF_join 10 = .ok (.imul, 1) := by decide +kernel
theorem dF_join_11 : decode bF_join 11 = .ok (.istore 6, 2) := by decide +kernel
theorem dF_join_13 : decode bF_join 13 = .ok (.ldc2_w 55, 3) := by decide +kernel
theorem dF_join_16 : decode bF_join 16 = .ok (.lconst 1, 1) := by decide +kernel
theorem dF_join_17 : decode bF_join 17 = .ok (.iload 6, 2) := by decide +kernel
theorem dF_join_19 : decode bF_join 19 = .ok (.lshl, 1) := by decide +kernel
theorem dF_join_20 : decode bF_join 20 = .ok (.lconst 1, 1) := by decide +kernel
theorem dF_join_21 : decode bF_join 21 = .ok (.lsub, 1) := by decide +kernel
theorem dF_join_22 : decode bF_join 22 = .ok (.land, 1) := by decide +kernel
theorem dF_join_23 : decode bF_join 23 = .ok (.lstore 7, 2) := by decide +kernel
theorem dF_join_25 : decode bF_join 25 = .ok (.lload_n 0, 1) := by decide +kernel
theorem dF_join_26 : decode bF_join 26 = .ok (.ldc2_w 57, 3) := by decide +kernel
theorem dF_join_29 : decode bF_join 29 = .ok (.land, 1) := by decide +kernel
theorem dF_join_30 : decode bF_join 30 = .ok (.iload 6, 2) := by decide +kernel
theorem dF_join_32 : decode bF_join 32 = .ok (.lshl, 1) := by decide +kernel
theorem dF_join_33 : decode bF_join 33 = .ok (.lload_n 2, 1) := by decide +kernel
theorem dF_join_34 : decode bF_join 34 = .ok (.ldc2_w 57, 3) := by decide +kernel
theorem dF_join_37 : decode bF_join 37 = .ok (.land, 1) := by decide +kernel
theorem dF_join_38 : decode bF_join 38 = .ok (.iload 4, 2) := by decide +kernel
theorem dF_join_40 : decode bF_join 40 = .ok (.i2l, 1) := by decide +kernel
theorem dF_join_41 : decode bF_join 41 = .ok (.lload 7, 2) := by decide +kernel
theorem dF_join_43 : decode bF_join 43 = .ok (.lmul, 1) := by decide +kernel
theorem dF_join_44 : decode bF_join 44 = .ok (.ladd, 1) := by decide +kernel
theorem dF_join_45 : decode bF_join 45 = .ok (.lor, 1) := by decide +kernel
theorem dF_join_46 : decode bF_join 46 = .ok (.lstore 9, 2) := by decide +kernel
theorem dF_join_48 : decode bF_join 48 = .ok (.lload_n 0, 1) := by decide +kernel
theorem dF_join_49 : decode bF_join 49 = .ok (.invokestatic 21, 3) := by decide +kernel
theorem dF_join_52 : decode bF_join 52 = .ok (.iload 5, 2) := by decide +kernel
theorem dF_join_54 : decode bF_join 54 = .ok (.iadd, 1) := by decide +kernel
theorem dF_join_55 : decode bF_join 55 = .ok (.i2l, 1) := by decide +kernel
theorem dF_join_56 : decode bF_join 56 = .ok (.bipush 48, 2) := by decide +kernel
theorem dF_join_58 : decode bF_join 58 = .ok (.lshl, 1) := by decide +kernel
theorem dF_join_59 : decode bF_join 59 = .ok (.lload 9, 2) := by decide +kernel
theorem dF_join_61 : decode bF_join 61 = .ok (.lor, 1) := by decide +kernel
theorem dF_join_62 : decode bF_join 62 = .ok (.lreturn, 1) := by decide +kernel
theorem dF_numberAt_0 : decode bF_numberAt 0 = .ok (.lload_n 0, 1) := by decide +kernel
theorem dF_numberAt_1 : decode bF_numberAt 1 = .ok (.invokestatic 21, 3) := by decide +kernel
theorem dF_numberAt_4 : decode bF_numberAt 4 = .ok (.istore_n 3, 1) := by decide +kernel
theorem dF_numberAt_5 : decode bF_numberAt 5 = .ok (.iload_n 2, 1) := by decide +kernel
theorem dF_numberAt_6 : decode bF_numberAt 6 = .ok (.ifCond .lt 8, 3) := by decide +kernel
theorem dF_numberAt_9 : decode bF_numberAt 9 = .ok (.iload_n 2, 1) := by decide +kernel
theorem dF_numberAt_10 : decode bF_numberAt 10 = .ok (.iload_n 3, 1) := by decide +kernel
theorem dF_numberAt_11 : decode bF_numberAt 11 = .ok (.if_icmp .lt 5, 3) := by decide +kernel
theorem dF_numberAt_14 : decode bF_numberAt 14 = .ok (.iconst (-1), 1) := by decide +kernel
theorem dF_numberAt_15 : decode bF_numberAt 15 = .ok (.ireturn, 1) := by decide +kernel
theorem dF_numberAt_16 : decode bF_numberAt 16 = .ok (.lload_n 0, 1) := by decide +kernel
theorem dF_numberAt_17 : decode bF_numberAt 17 = .ok (.bipush 7, 2) := by decide +kernel
theorem dF_numberAt_19 : decode bF_numberAt 19 = .ok (.iload_n 3, 1) := by decide +kernel
theorem dF_numberAt_20 : decode bF_numberAt 20 = .ok (.iconst 1, 1) := by decide +kernel
theorem dF_numberAt_21 : decode bF_numberAt 21 = .ok (.isub, 1) := by decide +kernel
theorem dF_numberAt_22 : decode bF_numberAt 22 = .ok (.iload_n 2, 1) := by decide +kernel
theorem dF_numberAt_23 : decode bF_numberAt 23 = .ok (.isub, 1) := by decide +kernel
theorem dF_numberAt_24 : decode bF_numberAt 24 = .ok (.imul, 1) := by decide +kernel
theorem dF_numberAt_25 : decode bF_numberAt 25 = .ok (.lushr, 1) := by decide +kernel
theorem dF_numberAt_26 : decode bF_numberAt 26 = .ok (.l2i, 1) := by decide +kernel
theorem dF_numberAt_27 : decode bF_numberAt 27 = .ok (.bipush 127, 2) := by decide +kernel
theorem dF_numberAt_29 : decode bF_numberAt 29 = .ok (.iand, 1) := by decide +kernel
theorem dF_numberAt_30 : decode bF_numberAt 30 = .ok (.ireturn, 1) := by decide +kernel
