theorem dM_init_0 : decode bM_init 0 = .ok (.aload_n 0, 1) := by decide +kernel
theorem dM_init_1 : decode bM_init 1 = .ok (.invokespecial 1, 3) := by decide +kernel
theorem dM_init_4 : decode bM_init 4 = .ok (.aload_n 0, 1) := by decide +kernel
theorem dM_init_5 : decode bM_init 5 = .ok (.bipush 16, 2) := by decide +kernel
theorem dM_init_7 : decode bM_init 7 = .ok (.newarray .int, 2) := by decide +kernel
theorem dM_init_9 : decode bM_init 9 = .ok (.putfield 7, 3) := by decide +kernel
theorem dM_init_12 : decode bM_init 12 = .ok (.aload_n 0, 1) := by decide +kernel
theorem dM_init_13 : decode bM_init 13 = .ok (.bipush 12, 2) := by decide +kernel
theorem dM_init_15 : decode bM_init 15 = .ok (.newarray .int, 2) := by decide +kernel
theorem dM_init_17 : decode bM_init 17 = .ok (.putfield 13, 3) := by decide +kernel
theorem dM_init_20 : decode bM_init 20 = .ok (.aload_n 0, 1) := by decide +kernel
theorem dM_init_21 : decode bM_init 21 = .ok (.bipush 16, 2) := by decide +kernel
theorem dM_init_23 : decode bM_init 23 = .ok (.newarray .int, 2) := by decide +kernel
theorem dM_init_25 : decode bM_init 25 = .ok (.putfield 16, 3) := by decide +kernel
theorem dM_init_28 : decode bM_init 28 = .ok (.aload_n 0, 1) := by decide +kernel
theorem dM_init_29 : decode bM_init 29 = .ok (.bipush 64, 2) := by decide +kernel
theorem dM_init_31 : decode bM_init 31 = .ok (.newarray .int, 2) := by decide +kernel
theorem dM_init_33 : decode bM_init 33 = .ok (.putfield 19, 3) := by decide +kernel
theorem dM_init_36 : decode bM_init 36 = .ok (.aload_n 0, 1) := by decide +kernel
theorem dM_init_37 : decode bM_init 37 = .ok (.iconst 5, 1) := by decide +kernel
theorem dM_init_38 : decode bM_init 38 = .ok (.newarray .boolean, 2) := by decide +kernel
theorem dM_init_40 : decode bM_init 40 = .ok (.putfield 22, 3) := by decide +kernel
theorem dM_init_43 : decode bM_init 43 = .ok (.aload_n 0, 1) := by decide +kernel
theorem dM_init_44 : decode bM_init 44 = .ok (.ldc 26, 2) := by decide +kernel
theorem dM_init_46 : decode bM_init 46 = .ok (.newarray .int, 2) := by decide +kernel
theorem dM_init_48 : decode bM_init 48 = .ok (.putfield 27, 3) := by decide +kernel
theorem dM_init_51 : decode bM_init 51 = .ok (.aload_n 0, 1) := by decide +kernel
theorem dM_init_52 : decode bM_init 52 = .ok (.bipush 120, 2) := by decide +kernel
theorem dM_init_54 : decode bM_init 54 = .ok (.newarray .int, 2) := by decide +kernel
theorem dM_init_56 : decode bM_init 56 = .ok (.putfield 30, 3) := by decide +kernel
theorem dM_init_59 : decode bM_init 59 = .ok (.aload_n 0, 1) := by decide +kernel
theorem dM_init_60 : decode bM_init 60 = .ok (.sipush 4096, 3) := by decide +kernel
theorem dM_init_63 : decode bM_init 63 = .ok (.newarray .boolean, 2) := by decide +kernel
theorem dM_init_65 : decode bM_init 65 = .ok (.putfield 33, 3) := by decide +kernel
theorem dM_init_68 : decode bM_init 68 = .ok (.aload_n 0, 1) := by decide +kernel
theorem dM_init_69 : decode bM_init 69 = .ok (.sipush 4096, 3) := by decide +kernel
theorem dM_init_72 : decode bM_init 72 = .ok (.newarray .int, 2) := by decide +kernel
theorem dM_init_74 : decode bM_init 74 = .ok (.putfield 36, 3) := by decide +kernel
theorem dM_init_77 : decode bM_init 77 = .ok (.aload_n 0, 1) := by decide +kernel
theorem dM_init_78 : decode bM_init 78 = .ok (.sipush 4096, 3) := by decide +kernel
theorem dM_init_81 : decode bM_init 81 = .ok (.newarray .int, 2) := by decide +kernel
theorem dM_init_83 : decode bM_init 83 = .ok (.putfield 39, 3) := by decide +kernel
theorem dM_init_86 : decode bM_init 86 = .ok (.aload_n 0, 1) := by decide +kernel
theorem dM_init_87 : decode bM_init 87 = .ok (.sipush 4096, 3) := by decide +kernel
theorem dM_init_90 : decode bM_init 90 = .ok (.newarray .int, 2) := by decide +kernel
theorem dM_init_92 : decode bM_init 92 = .ok (.putfield 42, 3) := by decide +kernel
theorem dM_init_95 : decode bM_init 95 = .ok (.aload_n 0, 1) := by decide +kernel
theorem dM_init_96 : decode bM_init 96 = .ok (.iconst 1, 1) := by decide +kernel
theorem dM_init_97 : decode bM_init 97 = .ok (.invokevirtual 45, 3) := by decide +kernel
theorem dM_init_100 : decode bM_init 100 = .ok (.aload_n 0, 1) := by decide +kernel
theorem dM_init_101 : decode bM_init 101 = .ok (.iconst 1, 1) := by decide +kernel
theorem dM_init_102 : decode bM_init 102 = .ok (.putfield 49, 3) := by decide +kernel
theorem dM_init_105 : decode bM_init 105 = .ok (.return_, 1) := by decide +kernel
theorem dM_start_0 : decode bM_start 0 = .ok (.aload_n 0, 1) := by decide +kernel
theorem dM_start_1 : decode bM_start 1 = .ok (.iload_n 1, 1) := by decide +kernel
theorem dM_start_2 : decode bM_start 2 = .ok (.putfield 56, 3) := by decide +kernel
theorem dM_start_5 : decode bM_start 5 = .ok (.iconst 0, 1) := by decide +kernel
theorem dM_start_6 : decode bM_start 6 = .ok (.istore_n 2, 1) := by decide +kernel
theorem dM_start_7 : decode bM_start 7 = .ok (.iload_n 2, 1) := by decide +kernel
theorem dM_start_8 : decode bM_start 8 = .ok (.bipush 16, 2) := by decide +kernel
theorem dM_start_10 : decode bM_start 10 = .ok (.if_icmp .ge 16, 3) := by decide +kernel
theorem dM_start_13 : decode bM_start 13 = .ok (.aload_n 0, 1) := by decide +kernel
theorem dM_start_14 : decode bM_start 14 = .ok (.getfield 7, 3) := by decide +kernel
theorem dM_start_17 : decode bM_start 17 = .ok (.iload_n 2, 1) := by decide +kernel
theorem dM_start_18 : decode bM_start 18 = .ok (.iload_n 2, 1) := by decide +kernel
theorem dM_start_19 : decode bM_start 19 = .ok (.iastore, 1) := by decide +kernel
theorem dM_start_20 : decode bM_start 20 = .ok (.iinc 2 1, 3) := by decide +kernel
theorem dM_start_23 : decode bM_start 23 = .ok (.goto (-16), 3) := by decide +kernel
theorem dM_start_26 : decode bM_start 26 = .ok (.return_, 1) := by decide +kernel
theorem dM_begin_0 : decode bM_begin 0 = .ok (.aload_n 0, 1) := by decide +kernel
theorem dM_begin_1 : decode bM_begin 1 = .ok (.iconst 0, 1) := by decide +kernel
theorem dM_begin_2 : decode bM_begin 2 = .ok (.putfield 53, 3) := by decide +kernel
theorem dM_begin_5 : decode bM_begin 5 = .ok (.iload_n 1, 1) := by decide +kernel
theorem dM_begin_6 : decode bM_begin 6 = .ok (.iconst 1, 1) := by decide +kernel
theorem dM_begin_7 : decode bM_begin 7 = .ok (.if_icmp .lt 8, 3) := by decide +kernel
theorem dM_begin_10 : decode bM_begin 10 = .ok (.iload_n 1, 1) := by decide +kernel
theorem dM_begin_11 : decode bM_begin 11 = .ok (.iconst 4, 1) := by decide +kernel
theorem dM_begin_12 : decode bM_begin 12 = .ok (.if_icmp .le 5, 3) := by decide +kernel
theorem dM_begin_15 : decode bM_begin 15 = .ok (.iconst 0, 1) := by decide +kernel
theorem dM_begin_16 : decode bM_begin 16 = .ok (.ireturn, 1) := by decide +kernel
theorem dM_begin_17 : decode bM_begin 17 = .ok (.aload_n 0, 1) := by decide +kernel
theorem dM_begin_18 : decode bM_begin 18 = .ok (.iload_n 1, 1) := by decide +kernel
theorem dM_begin_19 : decode bM_begin 19 = .ok (.invokevirtual 45, 3) := by decide +kernel
theorem dM_begin_22 : decode bM_begin 22 = .ok (.iconst 1, 1) := by decide +kernel
theorem dM_begin_23 : decode bM_begin 23 = .ok (.ireturn, 1) := by decide +kernel
theorem dM_put_0 : decode bM_put 0 = .ok (.aload_n 0, 1) := by decide +kernel
theorem dM_put_1 : decode bM_put 1 = .ok (.iconst 0, 1) := by decide +kernel
theorem dM_put_2 : decode bM_put 2 = .ok (.putfield 53, 3) := by decide +kernel
theorem dM_put_5 : decode bM_put 5 = .ok (.aload_n 0, 1) := by decide +kernel
theorem dM_put_6 : decode bM_put 6 = .ok (.iload_n 1, 1) := by decide +kernel
theorem dM_put_7 : decode bM_put 7 = .ok (.invokevirtual 63, 3) := by decide +kernel
theorem dM_put_10 : decode bM_put 10 = .ok (.ifCond .eq 11, 3) := by decide +kernel
theorem dM_put_13 : decode bM_put 13 = .ok (.aload_n 0, 1) := by decide +kernel
theorem dM_put_14 : decode bM_put 14 = .ok (.iload_n 2, 1) := by decide +kernel
theorem dM_put_15 : decode bM_put 15 = .ok (.invokevirtual 63, 3) := by decide +kernel
theorem dM_put_18 : decode bM_put 18 = .ok (.ifCond .ne 5, 3) := by decide +kernel
theorem dM_put_21 : decode bM_put 21 = .ok (.iconst 0, 1) := by decide +kernel
theorem dM_put_22 : decode bM_put 22 = .ok (.ireturn, 1) := by decide +kernel
theorem dM_put_23 : decode bM_put 23 = .ok (.aload_n 0, 1) := by decide +kernel
theorem dM_put_24 : decode bM_put 24 = .ok (.getfield 7, 3) := by decide +kernel
theorem dM_put_27 : decode bM_put 27 = .ok (.iload_n 1, 1) := by decide +kernel
theorem dM_put_28 : decode bM_put 28 = .ok (.iload_n 2, 1) := by decide +kernel
theorem dM_put_29 : decode bM_put 29 = .ok (.iastore, 1) := by decide +kernel
theorem dM_put_30 : decode bM_put 30 = .ok (.iconst 1, 1) := by decide +kernel
theorem dM_put_31 : decode bM_put 31 = .ok (.ireturn, 1) := by decide +kernel
theorem dM_isValue_0 : decode bM_isValue 0 = .ok (.iload_n 1, 1) := by decide +kernel
theorem dM_isValue_1 : decode bM_isValue 1 = .ok (.ifCond .lt 15, 3) := by decide +kernel
theorem dM_isValue_4 : decode bM_isValue 4 = .ok (.iload_n 1, 1) := by decide +kernel
theorem dM_isValue_5 : decode bM_isValue 5 = .ok (.aload_n 0, 1) := by decide +kernel
theorem dM_isValue_6 : decode bM_isValue 6 = .ok (.invokevirtual 59, 3) := by decide +kernel
theorem dM_isValue_9 : decode bM_isValue 9 = .ok (.if_icmp .ge 7, 3) := by decide +kernel
theorem dM_isValue_12 : decode bM_isValue 12 = .ok (.iconst 1, 1) := by decide +kernel
theorem dM_isValue_13 : decode bM_isValue 13 = .ok (.goto 4, 3) := by decide +kernel
theorem dM_isValue_16 : decode bM_isValue 16 = .ok (.iconst 0, 1) := by decide +kernel
theorem dM_isValue_17 : decode bM_isValue 17 = .ok (.ireturn, 1) := by decide +kernel
theorem dM_values_0 : decode bM_values 0 = .ok (.iconst 1, 1) := by decide +kernel
theorem dM_values_1 : decode bM_values 1 = .ok (.aload_n 0, 1) := by decide +kernel
theorem dM_values_2 : decode bM_values 2 = .ok (.getfield 56, 3) := by decide +kernel
theorem dM_values_5 : decode bM_values 5 = .ok (.ishl, 1) := by decide +kernel
theorem dM_values_6 : decode bM_values 6 = .ok (.ireturn, 1) := by decide +kernel
theorem dM_apply_0 : decode bM_apply 0 = .ok (.aload_n 0, 1) := by decide +kernel
theorem dM_apply_1 : decode bM_apply 1 = .ok (.iconst 0, 1) := by decide +kernel
theorem dM_apply_2 : decode bM_apply 2 = .ok (.putfield 53, 3) := by decide +kernel
theorem dM_apply_5 : decode bM_apply 5 = .ok (.iload_n 1, 1) := by decide +kernel
theorem dM_apply_6 : decode bM_apply 6 = .ok (.ifCond .ge 5, 3) := by decide +kernel
theorem dM_apply_9 : decode bM_apply 9 = .ok (.iconst 0, 1) := by decide +kernel
theorem dM_apply_10 : decode bM_apply 10 = .ok (.ireturn, 1) := by decide +kernel
theorem dM_apply_11 : decode bM_apply 11 = .ok (.iload_n 1, 1) := by decide +kernel
theorem dM_apply_12 : decode bM_apply 12 = .ok (.bipush 16, 2) := by decide +kernel
theorem dM_apply_14 : decode bM_apply 14 = .ok (.idiv, 1) := by decide +kernel
theorem dM_apply_15 : decode bM_apply 15 = .ok (.istore_n 2, 1) := by decide +kernel
theorem dM_apply_16 : decode bM_apply 16 = .ok (.iload_n 1, 1) := by decide +kernel
theorem dM_apply_17 : decode bM_apply 17 = .ok (.bipush 16, 2) := by decide +kernel
theorem dM_apply_19 : decode bM_apply 19 = .ok (.irem, 1) := by decide +kernel
theorem dM_apply_20 : decode bM_apply 20 = .ok (.istore_n 3, 1) := by decide +kernel
theorem dM_apply_21 : decode bM_apply 21 = .ok (.iload_n 2, 1) := by decide +kernel
theorem dM_apply_22 : decode bM_apply 22 = .ok (.aload_n 0, 1) := by decide +kernel
theorem dM_apply_23 : decode bM_apply 23 = .ok (.getfield 56, 3) := by decide +kernel
theorem dM_apply_26 : decode bM_apply 26 = .ok (.if_icmp .ge 20, 3) := by decide +kernel
theorem dM_apply_29 : decode bM_apply 29 = .ok (.aload_n 0, 1) := by decide +kernel
theorem dM_apply_30 : decode bM_apply 30 = .ok (.iload_n 3, 1) := by decide +kernel
theorem dM_apply_31 : decode bM_apply 31 = .ok (.invokevirtual 63, 3) := by decide +kernel
theorem dM_apply_34 : decode bM_apply 34 = .ok (.ifCond .eq 12, 3) := by decide +kernel
theorem dM_apply_37 : decode bM_apply 37 = .ok (.iload_n 3, 1) := by decide +kernel
theorem dM_apply_38 : decode bM_apply 38 = .ok (.iload_n 2, 1) := by decide +kernel
theorem dM_apply_39 : decode bM_apply 39 = .ok (.ishr, 1) := by decide +kernel
theorem dM_apply_40 : decode bM_apply 40 = .ok (.iconst 1, 1) := by decide +kernel
theorem dM_apply_41 : decode bM_apply 41 = .ok (.iand, 1) := by decide +kernel
theorem dM_apply_42 : decode bM_apply 42 = .ok (.iconst 1, 1) := by decide +kernel
theorem dM_apply_43 : decode bM_apply 43 = .ok (.if_icmp .ne 5, 3) := by decide +kernel
theorem dM_apply_46 : decode bM_apply 46 = .ok (.iconst 0, 1) := by decide +kernel
theorem dM_apply_47 : decode bM_apply 47 = .ok (.ireturn, 1) := by decide +kernel
theorem dM_apply_48 : decode bM_apply 48 = .ok (.iconst 0, 1) := by decide +kernel
theorem dM_apply_49 : decode bM_apply 49 = .ok (.istore 4, 2) := by decide +kernel
theorem dM_apply_51 : decode bM_apply 51 = .ok (.iload 4, 2) := by decide +kernel
theorem dM_apply_53 : decode bM_apply 53 = .ok (.aload_n 0, 1) := by decide +kernel
theorem dM_apply_54 : decode bM_apply 54 = .ok (.invokevirtual 59, 3) := by decide +kernel
theorem dM_apply_57 : decode bM_apply 57 = .ok (.if_icmp .ge 28, 3) := by decide +kernel
theorem dM_apply_60 : decode bM_apply 60 = .ok (.aload_n 0, 1) := by decide +kernel
theorem dM_apply_61 : decode bM_apply 61 = .ok (.getfield 7, 3) := by decide +kernel
theorem dM_apply_64 : decode bM_apply 64 = .ok (.iload 4, 2) := by decide +kernel
theorem dM_apply_66 : decode bM_apply 66 = .ok (.aload_n 0, 1) := by decide +kernel
theorem dM_apply_67 : decode bM_apply 67 = .ok (.getfield 7, 3) := by decide +kernel
theorem dM_apply_70 : decode bM_apply 70 = .ok (.iload 4, 2) := by decide +kernel
theorem dM_apply_72 : decode bM_apply 72 = .ok (.iaload, 1) := by decide +kernel
theorem dM_apply_73 : decode bM_apply 73 = .ok (.iload_n 2, 1) := by decide +kernel
theorem dM_apply_74 : decode bM_apply 74 = .ok (.iload_n 3, 1) := by decide +kernel
theorem dM_apply_75 : decode bM_apply 75 = .ok (.invokestatic 67, 3) := by decide +kernel
theorem dM_apply_78 : decode bM_apply 78 = .ok (.iastore, 1) := by decide +kernel
theorem dM_apply_79 : decode bM_apply 79 = .ok (.iinc 4 1, 3) := by decide +kernel
theorem dM_apply_82 : decode bM_apply 82 = .ok (.goto (-31), 3) := by decide +kernel
theorem dM_apply_85 : decode bM_apply 85 = .ok (.iconst 1, 1) := by decide +kernel
theorem dM_apply_86 : decode bM_apply 86 = .ok (.ireturn, 1) := by decide +kernel
theorem dM_changed_0 : decode bM_changed 0 = .ok (.iload_n 0, 1) := by decide +kernel
theorem dM_changed_1 : decode bM_changed 1 = .ok (.iload_n 2, 1) := by decide +kernel
theorem dM_changed_2 : decode bM_changed 2 = .ok (.iand, 1) := by decide +kernel
theorem dM_changed_3 : decode bM_changed 3 = .ok (.iload_n 2, 1) := by decide +kernel
theorem dM_changed_4 : decode bM_changed 4 = .ok (.if_icmp .ne 11, 3) := by decide +kernel
theorem dM_changed_7 : decode bM_changed 7 = .ok (.iload_n 0, 1) := by decide +kernel
theorem dM_changed_8 : decode bM_changed 8 = .ok (.iconst 1, 1) := by decide +kernel
theorem dM_changed_9 : decode bM_changed 9 = .ok (.iload_n 1, 1) := by decide +kernel
theorem dM_changed_10 : decode bM_changed 10 = .ok (.ishl, 1) := by decide +kernel
theorem dM_changed_11 : decode bM_changed 11 = .ok (.ixor, 1) := by decide +kernel
theorem dM_changed_12 : decode bM_changed 12 = .ok (.goto 4, 3) := by decide +kernel
theorem dM_changed_15 : decode bM_changed 15 = .ok (.iload_n 0, 1) := by decide +kernel
theorem dM_changed_16 : decode bM_changed 16 = .ok (.ireturn, 1) := by decide +kernel
theorem dM_gate_0 : decode bM_gate 0 = .ok (.aload_n 0, 1) := by decide +kernel
theorem dM_gate_1 : decode bM_gate 1 = .ok (.iconst 0, 1) := by decide +kernel
theorem dM_gate_2 : decode bM_gate 2 = .ok (.putfield 53, 3) := by decide +kernel
theorem dM_gate_5 : decode bM_gate 5 = .ok (.aload_n 0, 1) := by decide +kernel
theorem dM_gate_6 : decode bM_gate 6 = .ok (.invokevirtual 78, 3) := by decide +kernel
theorem dM_gate_9 : decode bM_gate 9 = .ok (.ifCond .ne 5, 3) := by decide +kernel
theorem dM_gate_12 : decode bM_gate 12 = .ok (.iconst (-1), 1) := by decide +kernel
theorem dM_gate_13 : decode bM_gate 13 = .ok (.ireturn, 1) := by decide +kernel
theorem dM_gate_14 : decode bM_gate 14 = .ok (.aload_n 0, 1) := by decide +kernel
theorem dM_gate_15 : decode bM_gate 15 = .ok (.invokevirtual 82, 3) := by decide +kernel
theorem dM_gate_18 : decode bM_gate 18 = .ok (.iload_n 1, 1) := by decide +kernel
theorem dM_gate_19 : decode bM_gate 19 = .ok (.iconst (-1), 1) := by decide +kernel
theorem dM_gate_20 : decode bM_gate 20 = .ok (.if_icmp .ne 8, 3) := by decide +kernel
theorem dM_gate_23 : decode bM_gate 23 = .ok (.aload_n 0, 1) := by decide +kernel
theorem dM_gate_24 : decode bM_gate 24 = .ok (.getfield 71, 3) := by decide +kernel
theorem dM_gate_27 : decode bM_gate 27 = .ok (.ireturn, 1) := by decide +kernel
theorem dM_gate_28 : decode bM_gate 28 = .ok (.iload_n 1, 1) := by decide +kernel
theorem dM_gate_29 : decode bM_gate 29 = .ok (.ifCond .lt 27, 3) := by decide +kernel
theorem dM_gate_32 : decode bM_gate 32 = .ok (.iload_n 1, 1) := by decide +kernel
theorem dM_gate_33 : decode bM_gate 33 = .ok (.aload_n 0, 1) := by decide +kernel
theorem dM_gate_34 : decode bM_gate 34 = .ok (.getfield 71, 3) := by decide +kernel
theorem dM_gate_37 : decode bM_gate 37 = .ok (.if_icmp .ge 19, 3) := by decide +kernel
theorem dM_gate_40 : decode bM_gate 40 = .ok (.aload_n 0, 1) := by decide +kernel
theorem dM_gate_41 : decode bM_gate 41 = .ok (.getfield 19, 3) := by decide +kernel
theorem dM_gate_44 : decode bM_gate 44 = .ok (.aload_n 0, 1) := by decide +kernel
theorem dM_gate_45 : decode bM_gate 45 = .ok (.getfield 71, 3) := by decide +kernel
theorem dM_gate_48 : decode bM_gate 48 = .ok (.iconst 1, 1) := by decide +kernel
theorem dM_gate_49 : decode bM_gate 49 = .ok (.isub, 1) := by decide +kernel
theorem dM_gate_50 : decode bM_gate 50 = .ok (.iload_n 1, 1) := by decide +kernel
theorem dM_gate_51 : decode bM_gate 51 = .ok (.isub, 1) := by decide +kernel
theorem dM_gate_52 : decode bM_gate 52 = .ok (.iaload, 1) := by decide +kernel
theorem dM_gate_53 : decode bM_gate 53 = .ok (.goto 4, 3) := by decide +kernel
theorem dM_gate_56 : decode bM_gate 56 = .ok (.iconst (-1), 1) := by decide +kernel
theorem dM_gate_57 : decode bM_gate 57 = .ok (.ireturn, 1) := by decide +kernel
theorem dM_isPermutation_0 : decode bM_isPermutation 0 = .ok (.iconst 0, 1) := by decide +kernel
theorem dM_isPermutation_1 : decode bM_isPermutation 1 = .ok (.istore_n 1, 1) := by decide +kernel
theorem dM_isPermutation_2 : decode bM_isPermutation 2 = .ok (.iconst 0, 1) := by decide +kernel
theorem dM_isPermutation_3 : decode bM_isPermutation 3 = .ok (.istore_n 2, 1) := by decide +kernel
theorem dM_isPermutation_4 : decode bM_isPermutation 4 = .ok (.iload_n 2, 1) := by decide +kernel
theorem dM_isPermutation_5 : decode bM_isPermutation 5 = .ok (.aload_n 0, 1) := by decide +kernel
theorem dM_isPermutation_6 : decode bM_isPermutation 6 = .ok (.invokevirtual 59, 3) := by decide +kernel
theorem dM_isPermutation_9 : decode bM_isPermutation 9 = .ok (.if_icmp .ge 20, 3) := by decide +kernel
theorem dM_isPermutation_12 : decode bM_isPermutation 12 = .ok (.iload_n 1, 1) := by decide +kernel
theorem dM_isPermutation_13 : decode bM_isPermutation 13 = .ok (.iconst 1, 1) := by decide +kernel
theorem dM_isPermutation_14 : decode bM_isPermutation 14 = .ok (.aload_n 0, 1) := by decide +kernel
theorem dM_isPermutation_15 : decode bM_isPermutation 15 = .ok (.getfield 7, 3) := by decide +kernel
theorem dM_isPermutation_18 : decode bM_isPermutation 18 = .ok (.iload_n 2, 1) := by decide +kernel
theorem dM_isPermutation_19 : decode bM_isPermutation 19 = .ok (.iaload, 1) := by decide +kernel
theorem dM_isPermutation_20 : decode bM_isPermutation 20 = .ok (.ishl, 1) := by decide +kernel
theorem dM_isPermutation_21 : decode bM_isPermutation 21 = .ok (.ior, 1) := by decide +kernel
theorem dM_isPermutation_22 : decode bM_isPermutation 22 = .ok (.istore_n 1, 1) := by decide +kernel
theorem dM_isPermutation_23 : decode bM_isPermutation 23 = .ok (.iinc 2 1, 3) := by decide +kernel
theorem dM_isPermutation_26 : decode bM_isPermutation 26 = .ok (.goto (-22), 3) := by decide +kernel
theorem dM_isPermutation_29 : decode bM_isPermutation 29 = .ok (.iload_n 1, 1) := by decide +kernel
theorem dM_isPermutation_30 : decode bM_isPermutation 30 = .ok (.iconst 1, 1) := by decide +kernel
theorem dM_isPermutation_31 : decode bM_isPermutation 31 = .ok (.aload_n 0, 1) := by decide +kernel
theorem dM_isPermutation_32 : decode bM_isPermutation 32 = .ok (.invokevirtual 59, 3) := by decide +kernel
theorem dM_isPermutation_35 : decode bM_isPermutation 35 = .ok (.ishl, 1) := by decide +kernel
theorem dM_isPermutation_36 : decode bM_isPermutation 36 = .ok (.iconst 1, 1) := by decide +kernel
theorem dM_isPermutation_37 : decode bM_isPermutation 37 = .ok (.isub, 1) := by decide +kernel
theorem dM_isPermutation_38 : decode bM_isPermutation 38 = .ok (.if_icmp .ne 7, 3) := by decide +kernel
theorem dM_isPermutation_41 : decode bM_isPermutation 41 = .ok (.iconst 1, 1) := by decide +kernel
theorem dM_isPermutation_42 : decode bM_isPermutation 42 = .ok (.goto 4, 3) := by decide +kernel
theorem dM_isPermutation_45 : decode bM_isPermutation 45 = .ok (.iconst 0, 1) := by decide +kernel
theorem dM_isPermutation_46 : decode bM_isPermutation 46 = .ok (.ireturn, 1) := by decide +kernel
theorem dM_findGates_0 : decode bM_findGates 0 = .ok (.aload_n 0, 1) := by decide +kernel
theorem dM_findGates_1 : decode bM_findGates 1 = .ok (.iconst 0, 1) := by decide +kernel
theorem dM_findGates_2 : decode bM_findGates 2 = .ok (.putfield 71, 3) := by decide +kernel
theorem dM_findGates_5 : decode bM_findGates 5 = .ok (.iconst 0, 1) := by decide +kernel
theorem dM_findGates_6 : decode bM_findGates 6 = .ok (.istore_n 1, 1) := by decide +kernel
theorem dM_findGates_7 : decode bM_findGates 7 = .ok (.iload_n 1, 1) := by decide +kernel
theorem dM_findGates_8 : decode bM_findGates 8 = .ok (.aload_n 0, 1) := by decide +kernel
theorem dM_findGates_9 : decode bM_findGates 9 = .ok (.invokevirtual 59, 3) := by decide +kernel
theorem dM_findGates_12 : decode bM_findGates 12 = .ok (.if_icmp .ge 21, 3) := by decide +kernel
theorem dM_findGates_15 : decode bM_findGates 15 = .ok (.aload_n 0, 1) := by decide +kernel
theorem dM_findGates_16 : decode bM_findGates 16 = .ok (.getfield 16, 3) := by decide +kernel
theorem dM_findGates_19 : decode bM_findGates 19 = .ok (.iload_n 1, 1) := by decide +kernel
theorem dM_findGates_20 : decode bM_findGates 20 = .ok (.aload_n 0, 1) := by decide +kernel
theorem dM_findGates_21 : decode bM_findGates 21 = .ok (.getfield 7, 3) := by decide +kernel
theorem dM_findGates_24 : decode bM_findGates 24 = .ok (.iload_n 1, 1) := by decide +kernel
theorem dM_findGates_25 : decode bM_findGates 25 = .ok (.iaload, 1) := by decide +kernel
theorem dM_findGates_26 : decode bM_findGates 26 = .ok (.iastore, 1) := by decide +kernel
theorem dM_findGates_27 : decode bM_findGates 27 = .ok (.iinc 1 1, 3) := by decide +kernel
theorem dM_findGates_30 : decode bM_findGates 30 = .ok (.goto (-23), 3) := by decide +kernel
theorem dM_findGates_33 : decode bM_findGates 33 = .ok (.iconst 0, 1) := by decide +kernel
theorem dM_findGates_34 : decode bM_findGates 34 = .ok (.istore_n 1, 1) := by decide +kernel
theorem dM_findGates_35 : decode bM_findGates 35 = .ok (.iload_n 1, 1) := by decide +kernel
theorem dM_findGates_36 : decode bM_findGates 36 = .ok (.aload_n 0, 1) := by decide +kernel
theorem dM_findGates_37 : decode bM_findGates 37 = .ok (.invokevirtual 59, 3) := by decide +kernel
theorem dM_findGates_40 : decode bM_findGates 40 = .ok (.if_icmp .ge 92, 3) := by decide +kernel
theorem dM_findGates_43 : decode bM_findGates 43 = .ok (.iconst 0, 1) := by decide +kernel
theorem dM_findGates_44 : decode bM_findGates 44 = .ok (.istore_n 2, 1) := by decide +kernel
theorem dM_findGates_45 : decode bM_findGates 45 = .ok (.iload_n 2, 1) := by decide +kernel
theorem dM_findGates_46 : decode bM_findGates 46 = .ok (.aload_n 0, 1) := by decide +kernel
theorem dM_findGates_47 : decode bM_findGates 47 = .ok (.getfield 56, 3) := by decide +kernel
theorem dM_findGates_50 : decode bM_findGates 50 = .ok (.if_icmp .ge 37, 3) := by decide +kernel
theorem dM_findGates_53 : decode bM_findGates 53 = .ok (.iload_n 1, 1) := by decide +kernel
theorem dM_findGates_54 : decode bM_findGates 54 = .ok (.aload_n 0, 1) := by decide +kernel
theorem dM_findGates_55 : decode bM_findGates 55 = .ok (.getfield 16, 3) := by decide +kernel
theorem dM_findGates_58 : decode bM_findGates 58 = .ok (.iload_n 1, 1) := by decide +kernel
theorem dM_findGates_59 : decode bM_findGates 59 = .ok (.iaload, 1) := by decide +kernel
theorem dM_findGates_60 : decode bM_findGates 60 = .ok (.iconst (-1), 1) := by decide +kernel
theorem dM_findGates_61 : decode bM_findGates 61 = .ok (.ixor, 1) := by decide +kernel
theorem dM_findGates_62 : decode bM_findGates 62 = .ok (.iand, 1) := by decide +kernel
theorem dM_findGates_63 : decode bM_findGates 63 = .ok (.iconst 1, 1) := by decide +kernel
theorem dM_findGates_64 : decode bM_findGates 64 = .ok (.iload_n 2, 1) := by decide +kernel
theorem dM_findGates_65 : decode bM_findGates 65 = .ok (.ishl, 1) := by decide +kernel
theorem dM_findGates_66 : decode bM_findGates 66 = .ok (.iand, 1) := by decide +kernel
theorem dM_findGates_67 : decode bM_findGates 67 = .ok (.ifCond .eq 14, 3) := by decide +kernel
theorem dM_findGates_70 : decode bM_findGates 70 = .ok (.aload_n 0, 1) := by decide +kernel
theorem dM_findGates_71 : decode bM_findGates 71 = .ok (.iload_n 2, 1) := by decide +kernel
theorem dM_findGates_72 : decode bM_findGates 72 = .ok (.aload_n 0, 1) := by decide +kernel
theorem dM_findGates_73 : decode bM_findGates 73 = .ok (.getfield 16, 3) := by decide +kernel
theorem dM_findGates_76 : decode bM_findGates 76 = .ok (.iload_n 1, 1) := by decide +kernel
theorem dM_findGates_77 : decode bM_findGates 77 = .ok (.iaload, 1) := by decide +kernel
theorem dM_findGates_78 : decode bM_findGates 78 = .ok (.invokevirtual 74, 3) := by decide +kernel
theorem dM_findGates_81 : decode bM_findGates 81 = .ok (.iinc 2 1, 3) := by decide +kernel
theorem dM_findGates_84 : decode bM_findGates 84 = .ok (.goto (-39), 3) := by decide +kernel
theorem dM_findGates_87 : decode bM_findGates 87 = .ok (.iconst 0, 1) := by decide +kernel
theorem dM_findGates_88 : decode bM_findGates 88 = .ok (.istore_n 2, 1) := by decide +kernel
theorem dM_findGates_89 : decode bM_findGates 89 = .ok (.iload_n 2, 1) := by decide +kernel
theorem dM_findGates_90 : decode bM_findGates 90 = .ok (.aload_n 0, 1) := by decide +kernel
theorem dM_findGates_91 : decode bM_findGates 91 = .ok (.getfield 56, 3) := by decide +kernel
theorem dM_findGates_94 : decode bM_findGates 94 = .ok (.if_icmp .ge 32, 3) := by decide +kernel
theorem dM_findGates_97 : decode bM_findGates 97 = .ok (.aload_n 0, 1) := by decide +kernel
theorem dM_findGates_98 : decode bM_findGates 98 = .ok (.getfield 16, 3) := by decide +kernel
theorem dM_findGates_101 : decode bM_findGates 101 = .ok (.iload_n 1, 1) := by decide +kernel
theorem dM_findGates_102 : decode bM_findGates 102 = .ok (.iaload, 1) := by decide +kernel
theorem dM_findGates_103 : decode bM_findGates 103 = .ok (.iload_n 1, 1) := by decide +kernel
theorem dM_findGates_104 : decode bM_findGates 104 = .ok (.iconst (-1), 1) := by decide +kernel
theorem dM_findGates_105 : decode bM_findGates 105 = .ok (.ixor, 1) := by decide +kernel
theorem dM_findGates_106 : decode bM_findGates 106 = .ok (.iand, 1) := by decide +kernel
theorem dM_findGates_107 : decode bM_findGates 107 = .ok (.iconst 1, 1) := by decide +kernel
theorem dM_findGates_108 : decode bM_findGates 108 = .ok (.iload_n 2, 1) := by decide +kernel
theorem dM_findGates_109 : decode bM_findGates 109 = .ok (.ishl, 1) := by decide +kernel
theorem dM_findGates_110 : decode bM_findGates 110 = .ok (.iand, 1) := by decide +kernel
theorem dM_findGates_111 : decode bM_findGates 111 = .ok (.ifCond .eq 9, 3) := by decide +kernel
theorem dM_findGates_114 : decode bM_findGates 114 = .ok (.aload_n 0, 1) := by decide +kernel
theorem dM_findGates_115 : decode bM_findGates 115 = .ok (.iload_n 2, 1) := by decide +kernel
theorem dM_findGates_116 : decode bM_findGates 116 = .ok (.iload_n 1, 1) := by decide +kernel
theorem dM_findGates_117 : decode bM_findGates 117 = .ok (.invokevirtual 74, 3) := by decide +kernel
theorem dM_findGates_120 : decode bM_findGates 120 = .ok (.iinc 2 1, 3) := by decide +kernel
theorem dM_findGates_123 : decode bM_findGates 123 = .ok (.goto (-34), 3) := by decide +kernel
theorem dM_findGates_126 : decode bM_findGates 126 = .ok (.iinc 1 1, 3) := by decide +kernel
theorem dM_findGates_129 : decode bM_findGates 129 = .ok (.goto (-94), 3) := by decide +kernel
theorem dM_findGates_132 : decode bM_findGates 132 = .ok (.return_, 1) := by decide +kernel
theorem dM_doGate_0 : decode bM_doGate 0 = .ok (.iconst 0, 1) := by decide +kernel
theorem dM_doGate_1 : decode bM_doGate 1 = .ok (.istore_n 3, 1) := by decide +kernel
theorem dM_doGate_2 : decode bM_doGate 2 = .ok (.iload_n 3, 1) := by decide +kernel
theorem dM_doGate_3 : decode bM_doGate 3 = .ok (.aload_n 0, 1) := by decide +kernel
theorem dM_doGate_4 : decode bM_doGate 4 = .ok (.invokevirtual 59, 3) := by decide +kernel
theorem dM_doGate_7 : decode bM_doGate 7 = .ok (.if_icmp .ge 26, 3) := by decide +kernel
theorem dM_doGate_10 : decode bM_doGate 10 = .ok (.aload_n 0, 1) := by decide +kernel
theorem dM_doGate_11 : decode bM_doGate 11 = .ok (.getfield 16, 3) := by decide +kernel
theorem dM_doGate_14 : decode bM_doGate 14 = .ok (.iload_n 3, 1) := by decide +kernel
theorem dM_doGate_15 : decode bM_doGate 15 = .ok (.aload_n 0, 1) := by decide +kernel
theorem dM_doGate_16 : decode bM_doGate 16 = .ok (.getfield 16, 3) := by decide +kernel
theorem dM_doGate_19 : decode bM_doGate 19 = .ok (.iload_n 3, 1) := by decide +kernel
theorem dM_doGate_20 : decode bM_doGate 20 = .ok (.iaload, 1) := by decide +kernel
theorem dM_doGate_21 : decode bM_doGate 21 = .ok (.iload_n 1, 1) := by decide +kernel
theorem dM_doGate_22 : decode bM_doGate 22 = .ok (.iload_n 2, 1) := by decide +kernel
theorem dM_doGate_23 : decode bM_doGate 23 = .ok (.invokestatic 67, 3) := by decide +kernel
theorem dM_doGate_26 : decode bM_doGate 26 = .ok (.iastore, 1) := by decide +kernel
theorem dM_doGate_27 : decode bM_doGate 27 = .ok (.iinc 3 1, 3) := by decide +kernel
theorem dM_doGate_30 : decode bM_doGate 30 = .ok (.goto (-28), 3) := by decide +kernel
theorem dM_doGate_33 : decode bM_doGate 33 = .ok (.aload_n 0, 1) := by decide +kernel
theorem dM_doGate_34 : decode bM_doGate 34 = .ok (.getfield 19, 3) := by decide +kernel
theorem dM_doGate_37 : decode bM_doGate 37 = .ok (.aload_n 0, 1) := by decide +kernel
theorem dM_doGate_38 : decode bM_doGate 38 = .ok (.getfield 71, 3) := by decide +kernel
theorem dM_doGate_41 : decode bM_doGate 41 = .ok (.bipush 16, 2) := by decide +kernel
theorem dM_doGate_43 : decode bM_doGate 43 = .ok (.iload_n 1, 1) := by decide +kernel
theorem dM_doGate_44 : decode bM_doGate 44 = .ok (.imul, 1) := by decide +kernel
theorem dM_doGate_45 : decode bM_doGate 45 = .ok (.iload_n 2, 1) := by decide +kernel
theorem dM_doGate_46 : decode bM_doGate 46 = .ok (.iadd, 1) := by decide +kernel
theorem dM_doGate_47 : decode bM_doGate 47 = .ok (.iastore, 1) := by decide +kernel
theorem dM_doGate_48 : decode bM_doGate 48 = .ok (.aload_n 0, 1) := by decide +kernel
theorem dM_doGate_49 : decode bM_doGate 49 = .ok (.dup, 1) := by decide +kernel
theorem dM_doGate_50 : decode bM_doGate 50 = .ok (.getfield 71, 3) := by decide +kernel
theorem dM_doGate_53 : decode bM_doGate 53 = .ok (.iconst 1, 1) := by decide +kernel
theorem dM_doGate_54 : decode bM_doGate 54 = .ok (.iadd, 1) := by decide +kernel
theorem dM_doGate_55 : decode bM_doGate 55 = .ok (.putfield 71, 3) := by decide +kernel
theorem dM_doGate_58 : decode bM_doGate 58 = .ok (.return_, 1) := by decide +kernel
theorem dM_look_0 : decode bM_look 0 = .ok (.aload_n 0, 1) := by decide +kernel
theorem dM_look_1 : decode bM_look 1 = .ok (.iconst 0, 1) := by decide +kernel
theorem dM_look_2 : decode bM_look 2 = .ok (.putfield 53, 3) := by decide +kernel
theorem dM_look_5 : decode bM_look 5 = .ok (.aload_n 0, 1) := by decide +kernel
theorem dM_look_6 : decode bM_look 6 = .ok (.iload_n 1, 1) := by decide +kernel
theorem dM_look_7 : decode bM_look 7 = .ok (.invokevirtual 63, 3) := by decide +kernel
theorem dM_look_10 : decode bM_look 10 = .ok (.ifCond .eq 12, 3) := by decide +kernel
theorem dM_look_13 : decode bM_look 13 = .ok (.aload_n 0, 1) := by decide +kernel
theorem dM_look_14 : decode bM_look 14 = .ok (.getfield 7, 3) := by decide +kernel
theorem dM_look_17 : decode bM_look 17 = .ok (.iload_n 1, 1) := by decide +kernel
theorem dM_look_18 : decode bM_look 18 = .ok (.iaload, 1) := by decide +kernel
theorem dM_look_19 : decode bM_look 19 = .ok (.goto 4, 3) := by decide +kernel
theorem dM_look_22 : decode bM_look 22 = .ok (.iconst (-1), 1) := by decide +kernel
theorem dM_look_23 : decode bM_look 23 = .ok (.ireturn, 1) := by decide +kernel
theorem dM_form_0 : decode bM_form 0 = .ok (.aload_n 0, 1) := by decide +kernel
theorem dM_form_1 : decode bM_form 1 = .ok (.iconst 0, 1) := by decide +kernel
theorem dM_form_2 : decode bM_form 2 = .ok (.putfield 53, 3) := by decide +kernel
theorem dM_form_5 : decode bM_form 5 = .ok (.iload_n 1, 1) := by decide +kernel
theorem dM_form_6 : decode bM_form 6 = .ok (.ifCond .lt 16, 3) := by decide +kernel
theorem dM_form_9 : decode bM_form 9 = .ok (.iload_n 1, 1) := by decide +kernel
theorem dM_form_10 : decode bM_form 10 = .ok (.aload_n 0, 1) := by decide +kernel
theorem dM_form_11 : decode bM_form 11 = .ok (.invokevirtual 95, 3) := by decide +kernel
theorem dM_form_14 : decode bM_form 14 = .ok (.if_icmp .ge 8, 3) := by decide +kernel
theorem dM_form_17 : decode bM_form 17 = .ok (.iload_n 2, 1) := by decide +kernel
theorem dM_form_18 : decode bM_form 18 = .ok (.iconst (-1), 1) := by decide +kernel
theorem dM_form_19 : decode bM_form 19 = .ok (.if_icmp .ge 5, 3) := by decide +kernel
theorem dM_form_22 : decode bM_form 22 = .ok (.iconst (-1), 1) := by decide +kernel
theorem dM_form_23 : decode bM_form 23 = .ok (.ireturn, 1) := by decide +kernel
theorem dM_form_24 : decode bM_form 24 = .ok (.aload_n 0, 1) := by decide +kernel
theorem dM_form_25 : decode bM_form 25 = .ok (.invokevirtual 101, 3) := by decide +kernel
theorem dM_form_28 : decode bM_form 28 = .ok (.iload_n 2, 1) := by decide +kernel
theorem dM_form_29 : decode bM_form 29 = .ok (.iconst (-1), 1) := by decide +kernel
theorem dM_form_30 : decode bM_form 30 = .ok (.if_icmp .ne 14, 3) := by decide +kernel
theorem dM_form_33 : decode bM_form 33 = .ok (.aload_n 0, 1) := by decide +kernel
theorem dM_form_34 : decode bM_form 34 = .ok (.getfield 27, 3) := by decide +kernel
theorem dM_form_37 : decode bM_form 37 = .ok (.aload_n 0, 1) := by decide +kernel
theorem dM_form_38 : decode bM_form 38 = .ok (.iload_n 1, 1) := by decide +kernel
theorem dM_form_39 : decode bM_form 39 = .ok (.invokevirtual 98, 3) := by decide +kernel
theorem dM_form_42 : decode bM_form 42 = .ok (.iaload, 1) := by decide +kernel
theorem dM_form_43 : decode bM_form 43 = .ok (.ireturn, 1) := by decide +kernel
theorem dM_form_44 : decode bM_form 44 = .ok (.iload_n 1, 1) := by decide +kernel
theorem dM_form_45 : decode bM_form 45 = .ok (.istore_n 3, 1) := by decide +kernel
theorem dM_form_46 : decode bM_form 46 = .ok (.iconst (-1), 1) := by decide +kernel
theorem dM_form_47 : decode bM_form 47 = .ok (.istore 4, 2) := by decide +kernel
theorem dM_form_49 : decode bM_form 49 = .ok (.iconst 0, 1) := by decide +kernel
theorem dM_form_50 : decode bM_form 50 = .ok (.istore 5, 2) := by decide +kernel
theorem dM_form_52 : decode bM_form 52 = .ok (.iload 5, 2) := by decide +kernel
theorem dM_form_54 : decode bM_form 54 = .ok (.iload_n 2, 1) := by decide +kernel
theorem dM_form_55 : decode bM_form 55 = .ok (.if_icmp .gt 75, 3) := by decide +kernel
theorem dM_form_58 : decode bM_form 58 = .ok (.iload_n 3, 1) := by decide +kernel
theorem dM_form_59 : decode bM_form 59 = .ok (.ifCond .ne 5, 3) := by decide +kernel
theorem dM_form_62 : decode bM_form 62 = .ok (.iconst (-1), 1) := by decide +kernel
theorem dM_form_63 : decode bM_form 63 = .ok (.ireturn, 1) := by decide +kernel
theorem dM_form_64 : decode bM_form 64 = .ok (.iconst 0, 1) := by decide +kernel
theorem dM_form_65 : decode bM_form 65 = .ok (.istore 4, 2) := by decide +kernel
theorem dM_form_67 : decode bM_form 67 = .ok (.aload_n 0, 1) := by decide +kernel
theorem dM_form_68 : decode bM_form 68 = .ok (.getfield 27, 3) := by decide +kernel
theorem dM_form_71 : decode bM_form 71 = .ok (.aload_n 0, 1) := by decide +kernel
theorem dM_form_72 : decode bM_form 72 = .ok (.iload_n 3, 1) := by decide +kernel
theorem dM_form_73 : decode bM_form 73 = .ok (.aload_n 0, 1) := by decide +kernel
theorem dM_form_74 : decode bM_form 74 = .ok (.getfield 30, 3) := by decide +kernel
theorem dM_form_77 : decode bM_form 77 = .ok (.aload_n 0, 1) := by decide +kernel
theorem dM_form_78 : decode bM_form 78 = .ok (.iload 4, 2) := by decide +kernel
theorem dM_form_80 : decode bM_form 80 = .ok (.invokevirtual 88, 3) := by decide +kernel
theorem dM_form_83 : decode bM_form 83 = .ok (.iaload, 1) := by decide +kernel
theorem dM_form_84 : decode bM_form 84 = .ok (.ixor, 1) := by decide +kernel
theorem dM_form_85 : decode bM_form 85 = .ok (.invokevirtual 98, 3) := by decide +kernel
theorem dM_form_88 : decode bM_form 88 = .ok (.iaload, 1) := by decide +kernel
theorem dM_form_89 : decode bM_form 89 = .ok (.aload_n 0, 1) := by decide +kernel
theorem dM_form_90 : decode bM_form 90 = .ok (.getfield 27, 3) := by decide +kernel
theorem dM_form_93 : decode bM_form 93 = .ok (.aload_n 0, 1) := by decide +kernel
theorem dM_form_94 : decode bM_form 94 = .ok (.iload_n 3, 1) := by decide +kernel
theorem dM_form_95 : decode bM_form 95 = .ok (.invokevirtual 98, 3) := by decide +kernel
theorem dM_form_98 : decode bM_form 98 = .ok (.iaload, 1) := by decide +kernel
theorem dM_form_99 : decode bM_form 99 = .ok (.iconst 1, 1) := by decide +kernel
theorem dM_form_100 : decode bM_form 100 = .ok (.isub, 1) := by decide +kernel
theorem dM_form_101 : decode bM_form 101 = .ok (.if_icmp .eq 9, 3) := by decide +kernel
theorem dM_form_104 : decode bM_form 104 = .ok (.iinc 4 1, 3) := by decide +kernel
theorem dM_form_107 : decode bM_form 107 = .ok (.goto (-40), 3) := by decide +kernel
theorem dM_form_110 : decode bM_form 110 = .ok (.iload_n 3, 1) := by decide +kernel
theorem dM_form_111 : decode bM_form 111 = .ok (.aload_n 0, 1) := by decide +kernel
theorem dM_form_112 : decode bM_form 112 = .ok (.getfield 30, 3) := by decide +kernel
theorem dM_form_115 : decode bM_form 115 = .ok (.aload_n 0, 1) := by decide +kernel
theorem dM_form_116 : decode bM_form 116 = .ok (.iload 4, 2) := by decide +kernel
theorem dM_form_118 : decode bM_form 118 = .ok (.invokevirtual 88, 3) := by decide +kernel
theorem dM_form_121 : decode bM_form 121 = .ok (.iaload, 1) := by decide +kernel
theorem dM_form_122 : decode bM_form 122 = .ok (.ixor, 1) := by decide +kernel
theorem dM_form_123 : decode bM_form 123 = .ok (.istore_n 3, 1) := by decide +kernel
theorem dM_form_124 : decode bM_form 124 = .ok (.iinc 5 1, 3) := by decide +kernel
theorem dM_form_127 : decode bM_form 127 = .ok (.goto (-75), 3) := by decide +kernel
theorem dM_form_130 : decode bM_form 130 = .ok (.iload 4, 2) := by decide +kernel
theorem dM_form_132 : decode bM_form 132 = .ok (.ireturn, 1) := by decide +kernel
theorem dM_functions_0 : decode bM_functions 0 = .ok (.iconst 1, 1) := by decide +kernel
theorem dM_functions_1 : decode bM_functions 1 = .ok (.aload_n 0, 1) := by decide +kernel
theorem dM_functions_2 : decode bM_functions 2 = .ok (.invokevirtual 59, 3) := by decide +kernel
theorem dM_functions_5 : decode bM_functions 5 = .ok (.ishl, 1) := by decide +kernel
theorem dM_functions_6 : decode bM_functions 6 = .ok (.ireturn, 1) := by decide +kernel
theorem dM_findCosts_0 : decode bM_findCosts 0 = .ok (.aload_n 0, 1) := by decide +kernel
theorem dM_findCosts_1 : decode bM_findCosts 1 = .ok (.getfield 22, 3) := by decide +kernel
theorem dM_findCosts_4 : decode bM_findCosts 4 = .ok (.aload_n 0, 1) := by decide +kernel
theorem dM_findCosts_5 : decode bM_findCosts 5 = .ok (.getfield 56, 3) := by decide +kernel
theorem dM_findCosts_8 : decode bM_findCosts 8 = .ok (.baload, 1) := by decide +kernel
theorem dM_findCosts_9 : decode bM_findCosts 9 = .ok (.ifCond .eq 4, 3) := by decide +kernel
theorem dM_findCosts_12 : decode bM_findCosts 12 = .ok (.return_, 1) := by decide +kernel
theorem dM_findCosts_13 : decode bM_findCosts 13 = .ok (.aload_n 0, 1) := by decide +kernel
theorem dM_findCosts_14 : decode bM_findCosts 14 = .ok (.getfield 22, 3) := by decide +kernel
theorem dM_findCosts_17 : decode bM_findCosts 17 = .ok (.aload_n 0, 1) := by decide +kernel
theorem dM_findCosts_18 : decode bM_findCosts 18 = .ok (.getfield 56, 3) := by decide +kernel
theorem dM_findCosts_21 : decode bM_findCosts 21 = .ok (.iconst 1, 1) := by decide +kernel
theorem dM_findCosts_22 : decode bM_findCosts 22 = .ok (.bastore, 1) := by decide +kernel
theorem dM_findCosts_23 : decode bM_findCosts 23 = .ok (.iconst 0, 1) := by decide +kernel
theorem dM_findCosts_24 : decode bM_findCosts 24 = .ok (.istore_n 1, 1) := by decide +kernel
theorem dM_findCosts_25 : decode bM_findCosts 25 = .ok (.iload_n 1, 1) := by decide +kernel
theorem dM_findCosts_26 : decode bM_findCosts 26 = .ok (.aload_n 0, 1) := by decide +kernel
theorem dM_findCosts_27 : decode bM_findCosts 27 = .ok (.invokevirtual 85, 3) := by decide +kernel
theorem dM_findCosts_30 : decode bM_findCosts 30 = .ok (.if_icmp .ge 24, 3) := by decide +kernel
theorem dM_findCosts_33 : decode bM_findCosts 33 = .ok (.aload_n 0, 1) := by decide +kernel
theorem dM_findCosts_34 : decode bM_findCosts 34 = .ok (.getfield 30, 3) := by decide +kernel
theorem dM_findCosts_37 : decode bM_findCosts 37 = .ok (.aload_n 0, 1) := by decide +kernel
theorem dM_findCosts_38 : decode bM_findCosts 38 = .ok (.iload_n 1, 1) := by decide +kernel
theorem dM_findCosts_39 : decode bM_findCosts 39 = .ok (.invokevirtual 88, 3) := by decide +kernel
theorem dM_findCosts_42 : decode bM_findCosts 42 = .ok (.aload_n 0, 1) := by decide +kernel
theorem dM_findCosts_43 : decode bM_findCosts 43 = .ok (.iload_n 1, 1) := by decide +kernel
theorem dM_findCosts_44 : decode bM_findCosts 44 = .ok (.invokevirtual 92, 3) := by decide +kernel
theorem dM_findCosts_47 : decode bM_findCosts 47 = .ok (.iastore, 1) := by decide +kernel
theorem dM_findCosts_48 : decode bM_findCosts 48 = .ok (.iinc 1 1, 3) := by decide +kernel
theorem dM_findCosts_51 : decode bM_findCosts 51 = .ok (.goto (-26), 3) := by decide +kernel
theorem dM_findCosts_54 : decode bM_findCosts 54 = .ok (.iconst 0, 1) := by decide +kernel
theorem dM_findCosts_55 : decode bM_findCosts 55 = .ok (.istore_n 1, 1) := by decide +kernel
theorem dM_findCosts_56 : decode bM_findCosts 56 = .ok (.iload_n 1, 1) := by decide +kernel
theorem dM_findCosts_57 : decode bM_findCosts 57 = .ok (.aload_n 0, 1) := by decide +kernel
theorem dM_findCosts_58 : decode bM_findCosts 58 = .ok (.invokevirtual 95, 3) := by decide +kernel
theorem dM_findCosts_61 : decode bM_findCosts 61 = .ok (.if_icmp .ge 20, 3) := by decide +kernel
theorem dM_findCosts_64 : decode bM_findCosts 64 = .ok (.aload_n 0, 1) := by decide +kernel
theorem dM_findCosts_65 : decode bM_findCosts 65 = .ok (.getfield 27, 3) := by decide +kernel
theorem dM_findCosts_68 : decode bM_findCosts 68 = .ok (.aload_n 0, 1) := by decide +kernel
theorem dM_findCosts_69 : decode bM_findCosts 69 = .ok (.iload_n 1, 1) := by decide +kernel
theorem dM_findCosts_70 : decode bM_findCosts 70 = .ok (.invokevirtual 98, 3) := by decide +kernel
theorem dM_findCosts_73 : decode bM_findCosts 73 = .ok (.iconst (-1), 1) := by decide +kernel
theorem dM_findCosts_74 : decode bM_findCosts 74 = .ok (.iastore, 1) := by decide +kernel
theorem dM_findCosts_75 : decode bM_findCosts 75 = .ok (.iinc 1 1, 3) := by decide +kernel
theorem dM_findCosts_78 : decode bM_findCosts 78 = .ok (.goto (-22), 3) := by decide +kernel
theorem dM_findCosts_81 : decode bM_findCosts 81 = .ok (.aload_n 0, 1) := by decide +kernel
theorem dM_findCosts_82 : decode bM_findCosts 82 = .ok (.getfield 27, 3) := by decide +kernel
theorem dM_findCosts_85 : decode bM_findCosts 85 = .ok (.aload_n 0, 1) := by decide +kernel
theorem dM_findCosts_86 : decode bM_findCosts 86 = .ok (.iconst 0, 1) := by decide +kernel
theorem dM_findCosts_87 : decode bM_findCosts 87 = .ok (.invokevirtual 98, 3) := by decide +kernel
theorem dM_findCosts_90 : decode bM_findCosts 90 = .ok (.iconst 0, 1) := by decide +kernel
theorem dM_findCosts_91 : decode bM_findCosts 91 = .ok (.iastore, 1) := by decide +kernel
theorem dM_findCosts_92 : decode bM_findCosts 92 = .ok (.iconst 1, 1) := by decide +kernel
theorem dM_findCosts_93 : decode bM_findCosts 93 = .ok (.istore_n 1, 1) := by decide +kernel
theorem dM_findCosts_94 : decode bM_findCosts 94 = .ok (.iconst 0, 1) := by decide +kernel
theorem dM_findCosts_95 : decode bM_findCosts 95 = .ok (.istore_n 2, 1) := by decide +kernel
theorem dM_findCosts_96 : decode bM_findCosts 96 = .ok (.iload_n 1, 1) := by decide +kernel
theorem dM_findCosts_97 : decode bM_findCosts 97 = .ok (.ifCond .eq 107, 3) := by decide +kernel
theorem dM_findCosts_100 : decode bM_findCosts 100 = .ok (.iconst 0, 1) := by decide +kernel
theorem dM_findCosts_101 : decode bM_findCosts 101 = .ok (.istore_n 1, 1) := by decide +kernel
theorem dM_findCosts_102 : decode bM_findCosts 102 = .ok (.iconst 0, 1) := by decide +kernel
theorem dM_findCosts_103 : decode bM_findCosts 103 = .ok (.istore_n 3, 1) := by decide +kernel
theorem dM_findCosts_104 : decode bM_findCosts 104 = .ok (.iload_n 3, 1) := by decide +kernel
theorem dM_findCosts_105 : decode bM_findCosts 105 = .ok (.aload_n 0, 1) := by decide +kernel
theorem dM_findCosts_106 : decode bM_findCosts 106 = .ok (.invokevirtual 95, 3) := by decide +kernel
theorem dM_findCosts_109 : decode bM_findCosts 109 = .ok (.if_icmp .ge 89, 3) := by decide +kernel
theorem dM_findCosts_112 : decode bM_findCosts 112 = .ok (.aload_n 0, 1) := by decide +kernel
theorem dM_findCosts_113 : decode bM_findCosts 113 = .ok (.getfield 27, 3) := by decide +kernel
theorem dM_findCosts_116 : decode bM_findCosts 116 = .ok (.aload_n 0, 1) := by decide +kernel
theorem dM_findCosts_117 : decode bM_findCosts 117 = .ok (.iload_n 3, 1) := by decide +kernel
theorem dM_findCosts_118 : decode bM_findCosts 118 = .ok (.invokevirtual 98, 3) := by decide +kernel
theorem dM_findCosts_121 : decode bM_findCosts 121 = .ok (.iaload, 1) := by decide +kernel
theorem dM_findCosts_122 : decode bM_findCosts 122 = .ok (.iload_n 2, 1) := by decide +kernel
theorem dM_findCosts_123 : decode bM_findCosts 123 = .ok (.if_icmp .eq 6, 3) := by decide +kernel
theorem dM_findCosts_126 : decode bM_findCosts 126 = .ok (.goto 66, 3) := by decide +kernel
theorem dM_findCosts_129 : decode bM_findCosts 129 = .ok (.iconst 0, 1) := by decide +kernel
theorem dM_findCosts_130 : decode bM_findCosts 130 = .ok (.istore 4, 2) := by decide +kernel
theorem dM_findCosts_132 : decode bM_findCosts 132 = .ok (.iload 4, 2) := by decide +kernel
theorem dM_findCosts_134 : decode bM_findCosts 134 = .ok (.aload_n 0, 1) := by decide +kernel
theorem dM_findCosts_135 : decode bM_findCosts 135 = .ok (.invokevirtual 85, 3) := by decide +kernel
theorem dM_findCosts_138 : decode bM_findCosts 138 = .ok (.if_icmp .ge 54, 3) := by decide +kernel
theorem dM_findCosts_141 : decode bM_findCosts 141 = .ok (.aload_n 0, 1) := by decide +kernel
theorem dM_findCosts_142 : decode bM_findCosts 142 = .ok (.iload_n 3, 1) := by decide +kernel
theorem dM_findCosts_143 : decode bM_findCosts 143 = .ok (.aload_n 0, 1) := by decide +kernel
theorem dM_findCosts_144 : decode bM_findCosts 144 = .ok (.getfield 30, 3) := by decide +kernel
theorem dM_findCosts_147 : decode bM_findCosts 147 = .ok (.aload_n 0, 1) := by decide +kernel
theorem dM_findCosts_148 : decode bM_findCosts 148 = .ok (.iload 4, 2) := by decide +kernel
theorem dM_findCosts_150 : decode bM_findCosts 150 = .ok (.invokevirtual 88, 3) := by decide +kernel
theorem dM_findCosts_153 : decode bM_findCosts 153 = .ok (.iaload, 1) := by decide +kernel
theorem dM_findCosts_154 : decode bM_findCosts 154 = .ok (.ixor, 1) := by decide +kernel
theorem dM_findCosts_155 : decode bM_findCosts 155 = .ok (.invokevirtual 98, 3) := by decide +kernel
theorem dM_findCosts_158 : decode bM_findCosts 158 = .ok (.istore 5, 2) := by decide +kernel
theorem dM_findCosts_160 : decode bM_findCosts 160 = .ok (.aload_n 0, 1) := by decide +kernel
theorem dM_findCosts_161 : decode bM_findCosts 161 = .ok (.getfield 27, 3) := by decide +kernel
theorem dM_findCosts_164 : decode bM_findCosts 164 = .ok (.iload 5, 2) := by decide +kernel
theorem dM_findCosts_166 : decode bM_findCosts 166 = .ok (.iaload, 1) := by decide +kernel
theorem dM_findCosts_167 : decode bM_findCosts 167 = .ok (.iconst (-1), 1) := by decide +kernel
theorem dM_findCosts_168 : decode bM_findCosts 168 = .ok (.if_icmp .eq 6, 3) := by decide +kernel
theorem dM_findCosts_171 : decode bM_findCosts 171 = .ok (.goto 15, 3) := by decide +kernel
theorem dM_findCosts_174 : decode bM_findCosts 174 = .ok (.aload_n 0, 1) := by decide +kernel
theorem dM_findCosts_175 : decode bM_findCosts 175 = .ok (.getfield 27, 3) := by decide +kernel
theorem dM_findCosts_178 : decode bM_findCosts 178 = .ok (.iload 5, 2) := by decide +kernel
theorem dM_findCosts_180 : decode bM_findCosts 180 = .ok (.iload_n 2, 1) := by decide +kernel
theorem dM_findCosts_181 : decode bM_findCosts 181 = .ok (.iconst 1, 1) := by decide +kernel
theorem dM_findCosts_182 : decode bM_findCosts 182 = .ok (.iadd, 1) := by decide +kernel
theorem dM_findCosts_183 : decode bM_findCosts 183 = .ok (.iastore, 1) := by decide +kernel
theorem dM_findCosts_184 : decode bM_findCosts 184 = .ok (.iconst 1, 1) := by decide +kernel
theorem dM_findCosts_185 : decode bM_findCosts 185 = .ok (.istore_n 1, 1) := by decide +kernel
theorem dM_findCosts_186 : decode bM_findCosts 186 = .ok (.iinc 4 1, 3) := by decide +kernel
theorem dM_findCosts_189 : decode bM_findCosts 189 = .ok (.goto (-57), 3) := by decide +kernel
theorem dM_findCosts_192 : decode bM_findCosts 192 = .ok (.iinc 3 1, 3) := by decide +kernel
theorem dM_findCosts_195 : decode bM_findCosts 195 = .ok (.goto (-91), 3) := by decide +kernel
theorem dM_findCosts_198 : decode bM_findCosts 198 = .ok (.iinc 2 1, 3) := by decide +kernel
theorem dM_findCosts_201 : decode bM_findCosts 201 = .ok (.goto (-105), 3) := by decide +kernel
theorem dM_findCosts_204 : decode bM_findCosts 204 = .ok (.return_, 1) := by decide +kernel
theorem dM_products_0 : decode bM_products 0 = .ok (.iconst 1, 1) := by decide +kernel
theorem dM_products_1 : decode bM_products 1 = .ok (.istore_n 1, 1) := by decide +kernel
theorem dM_products_2 : decode bM_products 2 = .ok (.iconst 0, 1) := by decide +kernel
theorem dM_products_3 : decode bM_products 3 = .ok (.istore_n 2, 1) := by decide +kernel
theorem dM_products_4 : decode bM_products 4 = .ok (.iload_n 2, 1) := by decide +kernel
theorem dM_products_5 : decode bM_products 5 = .ok (.aload_n 0, 1) := by decide +kernel
theorem dM_products_6 : decode bM_products 6 = .ok (.getfield 56, 3) := by decide +kernel
theorem dM_products_9 : decode bM_products 9 = .ok (.if_icmp .ge 13, 3) := by decide +kernel
theorem dM_products_12 : decode bM_products 12 = .ok (.iconst 3, 1) := by decide +kernel
theorem dM_products_13 : decode bM_products 13 = .ok (.iload_n 1, 1) := by decide +kernel
theorem dM_products_14 : decode bM_products 14 = .ok (.imul, 1) := by decide +kernel
theorem dM_products_15 : decode bM_products 15 = .ok (.istore_n 1, 1) := by decide +kernel
theorem dM_products_16 : decode bM_products 16 = .ok (.iinc 2 1, 3) := by decide +kernel
theorem dM_products_19 : decode bM_products 19 = .ok (.goto (-15), 3) := by decide +kernel
theorem dM_products_22 : decode bM_products 22 = .ok (.iload_n 1, 1) := by decide +kernel
theorem dM_products_23 : decode bM_products 23 = .ok (.ireturn, 1) := by decide +kernel
theorem dM_productAt_0 : decode bM_productAt 0 = .ok (.iload_n 1, 1) := by decide +kernel
theorem dM_productAt_1 : decode bM_productAt 1 = .ok (.aload_n 0, 1) := by decide +kernel
theorem dM_productAt_2 : decode bM_productAt 2 = .ok (.getfield 56, 3) := by decide +kernel
theorem dM_productAt_5 : decode bM_productAt 5 = .ok (.iconst 1, 1) := by decide +kernel
theorem dM_productAt_6 : decode bM_productAt 6 = .ok (.if_icmp .ne 7, 3) := by decide +kernel
theorem dM_productAt_9 : decode bM_productAt 9 = .ok (.iconst 0, 1) := by decide +kernel
theorem dM_productAt_10 : decode bM_productAt 10 = .ok (.goto 30, 3) := by decide +kernel
theorem dM_productAt_13 : decode bM_productAt 13 = .ok (.aload_n 0, 1) := by decide +kernel
theorem dM_productAt_14 : decode bM_productAt 14 = .ok (.getfield 56, 3) := by decide +kernel
theorem dM_productAt_17 : decode bM_productAt 17 = .ok (.iconst 2, 1) := by decide +kernel
theorem dM_productAt_18 : decode bM_productAt 18 = .ok (.if_icmp .ne 7, 3) := by decide +kernel
theorem dM_productAt_21 : decode bM_productAt 21 = .ok (.iconst 3, 1) := by decide +kernel
theorem dM_productAt_22 : decode bM_productAt 22 = .ok (.goto 18, 3) := by decide +kernel
theorem dM_productAt_25 : decode bM_productAt 25 = .ok (.aload_n 0, 1) := by decide +kernel
theorem dM_productAt_26 : decode bM_productAt 26 = .ok (.getfield 56, 3) := by decide +kernel
theorem dM_productAt_29 : decode bM_productAt 29 = .ok (.iconst 3, 1) := by decide +kernel
theorem dM_productAt_30 : decode bM_productAt 30 = .ok (.if_icmp .ne 8, 3) := by decide +kernel
theorem dM_productAt_33 : decode bM_productAt 33 = .ok (.bipush 12, 2) := by decide +kernel
theorem dM_productAt_35 : decode bM_productAt 35 = .ok (.goto 5, 3) := by decide +kernel
theorem dM_productAt_38 : decode bM_productAt 38 = .ok (.bipush 39, 2) := by decide +kernel
theorem dM_productAt_40 : decode bM_productAt 40 = .ok (.iadd, 1) := by decide +kernel
theorem dM_productAt_41 : decode bM_productAt 41 = .ok (.ireturn, 1) := by decide +kernel
theorem dM_functionFor_0 : decode bM_functionFor 0 = .ok (.iconst 0, 1) := by decide +kernel
theorem dM_functionFor_1 : decode bM_functionFor 1 = .ok (.istore_n 2, 1) := by decide +kernel
theorem dM_functionFor_2 : decode bM_functionFor 2 = .ok (.iconst 0, 1) := by decide +kernel
theorem dM_functionFor_3 : decode bM_functionFor 3 = .ok (.istore_n 3, 1) := by decide +kernel
theorem dM_functionFor_4 : decode bM_functionFor 4 = .ok (.iload_n 3, 1) := by decide +kernel
theorem dM_functionFor_5 : decode bM_functionFor 5 = .ok (.aload_n 0, 1) := by decide +kernel
theorem dM_functionFor_6 : decode bM_functionFor 6 = .ok (.invokevirtual 59, 3) := by decide +kernel
theorem dM_functionFor_9 : decode bM_functionFor 9 = .ok (.if_icmp .ge 106, 3) := by decide +kernel
theorem dM_functionFor_12 : decode bM_functionFor 12 = .ok (.iconst 1, 1) := by decide +kernel
theorem dM_functionFor_13 : decode bM_functionFor 13 = .ok (.istore 4, 2) := by decide +kernel
theorem dM_functionFor_15 : decode bM_functionFor 15 = .ok (.iload_n 1, 1) := by decide +kernel
theorem dM_functionFor_16 : decode bM_functionFor 16 = .ok (.istore 5, 2) := by decide +kernel
theorem dM_functionFor_18 : decode bM_functionFor 18 = .ok (.iconst 0, 1) := by decide +kernel
theorem dM_functionFor_19 : decode bM_functionFor 19 = .ok (.istore 6, 2) := by decide +kernel
theorem dM_functionFor_21 : decode bM_functionFor 21 = .ok (.iload 6, 2) := by decide +kernel
theorem dM_functionFor_23 : decode bM_functionFor 23 = .ok (.aload_n 0, 1) := by decide +kernel
theorem dM_functionFor_24 : decode bM_functionFor 24 = .ok (.getfield 56, 3) := by decide +kernel
theorem dM_functionFor_27 : decode bM_functionFor 27 = .ok (.if_icmp .ge 67, 3) := by decide +kernel
theorem dM_functionFor_30 : decode bM_functionFor 30 = .ok (.iload 5, 2) := by decide +kernel
theorem dM_functionFor_32 : decode bM_functionFor 32 = .ok (.iconst 3, 1) := by decide +kernel
theorem dM_functionFor_33 : decode bM_functionFor 33 = .ok (.irem, 1) := by decide +kernel
theorem dM_functionFor_34 : decode bM_functionFor 34 = .ok (.istore 7, 2) := by decide +kernel
theorem dM_functionFor_36 : decode bM_functionFor 36 = .ok (.iload 5, 2) := by decide +kernel
theorem dM_functionFor_38 : decode bM_functionFor 38 = .ok (.iconst 3, 1) := by decide +kernel
theorem dM_functionFor_39 : decode bM_functionFor 39 = .ok (.idiv, 1) := by decide +kernel
theorem dM_functionFor_40 : decode bM_functionFor 40 = .ok (.istore 5, 2) := by decide +kernel
theorem dM_functionFor_42 : decode bM_functionFor 42 = .ok (.iload 4, 2) := by decide +kernel
theorem dM_functionFor_44 : decode bM_functionFor 44 = .ok (.ifCond .eq 41, 3) := by decide +kernel
theorem dM_functionFor_47 : decode bM_functionFor 47 = .ok (.iload 7, 2) := by decide +kernel
theorem dM_functionFor_49 : decode bM_functionFor 49 = .ok (.ifCond .eq 32, 3) := by decide +kernel
theorem dM_functionFor_52 : decode bM_functionFor 52 = .ok (.iload 7, 2) := by decide +kernel
theorem dM_functionFor_54 : decode bM_functionFor 54 = .ok (.iconst 1, 1) := by decide +kernel
theorem dM_functionFor_55 : decode bM_functionFor 55 = .ok (.if_icmp .ne 7, 3) := by decide +kernel
theorem dM_functionFor_58 : decode bM_functionFor 58 = .ok (.iconst 1, 1) := by decide +kernel
theorem dM_functionFor_59 : decode bM_functionFor 59 = .ok (.goto 4, 3) := by decide +kernel
theorem dM_functionFor_62 : decode bM_functionFor 62 = .ok (.iconst 0, 1) := by decide +kernel
theorem dM_functionFor_63 : decode bM_functionFor 63 = .ok (.iload_n 3, 1) := by decide +kernel
theorem dM_functionFor_64 : decode bM_functionFor 64 = .ok (.iload 6, 2) := by decide +kernel
theorem dM_functionFor_66 : decode bM_functionFor 66 = .ok (.ishr, 1) := by decide +kernel
theorem dM_functionFor_67 : decode bM_functionFor 67 = .ok (.iconst 1, 1) := by decide +kernel
theorem dM_functionFor_68 : decode bM_functionFor 68 = .ok (.iand, 1) := by decide +kernel
theorem dM_functionFor_69 : decode bM_functionFor 69 = .ok (.iconst 1, 1) := by decide +kernel
theorem dM_functionFor_70 : decode bM_functionFor 70 = .ok (.if_icmp .ne 7, 3) := by decide +kernel
theorem dM_functionFor_73 : decode bM_functionFor 73 = .ok (.iconst 1, 1) := by decide +kernel
theorem dM_functionFor_74 : decode bM_functionFor 74 = .ok (.goto 4, 3) := by decide +kernel
theorem dM_functionFor_77 : decode bM_functionFor 77 = .ok (.iconst 0, 1) := by decide +kernel
theorem dM_functionFor_78 : decode bM_functionFor 78 = .ok (.if_icmp .ne 7, 3) := by decide +kernel
theorem dM_functionFor_81 : decode bM_functionFor 81 = .ok (.iconst 1, 1) := by decide +kernel
theorem dM_functionFor_82 : decode bM_functionFor 82 = .ok (.goto 4, 3) := by decide +kernel
theorem dM_functionFor_85 : decode bM_functionFor 85 = .ok (.iconst 0, 1) := by decide +kernel
theorem dM_functionFor_86 : decode bM_functionFor 86 = .ok (.istore 4, 2) := by decide +kernel
theorem dM_functionFor_88 : decode bM_functionFor 88 = .ok (.iinc 6 1, 3) := by decide +kernel
theorem dM_functionFor_91 : decode bM_functionFor 91 = .ok (.goto (-70), 3) := by decide +kernel
theorem dM_functionFor_94 : decode bM_functionFor 94 = .ok (.iload_n 2, 1) := by decide +kernel
theorem dM_functionFor_95 : decode bM_functionFor 95 = .ok (.iload 4, 2) := by decide +kernel
theorem dM_functionFor_97 : decode bM_functionFor 97 = .ok (.ifCond .eq 9, 3) := by decide +kernel
theorem dM_functionFor_100 : decode bM_functionFor 100 = .ok (.iconst 1, 1) := by decide +kernel
theorem dM_functionFor_101 : decode bM_functionFor 101 = .ok (.iload_n 3, 1) := by decide +kernel
theorem dM_functionFor_102 : decode bM_functionFor 102 = .ok (.ishl, 1) := by decide +kernel
theorem dM_functionFor_103 : decode bM_functionFor 103 = .ok (.goto 4, 3) := by decide +kernel
theorem dM_functionFor_106 : decode bM_functionFor 106 = .ok (.iconst 0, 1) := by decide +kernel
theorem dM_functionFor_107 : decode bM_functionFor 107 = .ok (.ior, 1) := by decide +kernel
theorem dM_functionFor_108 : decode bM_functionFor 108 = .ok (.istore_n 2, 1) := by decide +kernel
theorem dM_functionFor_109 : decode bM_functionFor 109 = .ok (.iinc 3 1, 3) := by decide +kernel
theorem dM_functionFor_112 : decode bM_functionFor 112 = .ok (.goto (-108), 3) := by decide +kernel
theorem dM_functionFor_115 : decode bM_functionFor 115 = .ok (.iload_n 2, 1) := by decide +kernel
theorem dM_functionFor_116 : decode bM_functionFor 116 = .ok (.ireturn, 1) := by decide +kernel
theorem dM_costAt_0 : decode bM_costAt 0 = .ok (.iload_n 1, 1) := by decide +kernel
theorem dM_costAt_1 : decode bM_costAt 1 = .ok (.aload_n 0, 1) := by decide +kernel
theorem dM_costAt_2 : decode bM_costAt 2 = .ok (.getfield 56, 3) := by decide +kernel
theorem dM_costAt_5 : decode bM_costAt 5 = .ok (.iconst 1, 1) := by decide +kernel
theorem dM_costAt_6 : decode bM_costAt 6 = .ok (.if_icmp .ne 7, 3) := by decide +kernel
theorem dM_costAt_9 : decode bM_costAt 9 = .ok (.iconst 0, 1) := by decide +kernel
theorem dM_costAt_10 : decode bM_costAt 10 = .ok (.goto 31, 3) := by decide +kernel
theorem dM_costAt_13 : decode bM_costAt 13 = .ok (.aload_n 0, 1) := by decide +kernel
theorem dM_costAt_14 : decode bM_costAt 14 = .ok (.getfield 56, 3) := by decide +kernel
theorem dM_costAt_17 : decode bM_costAt 17 = .ok (.iconst 2, 1) := by decide +kernel
theorem dM_costAt_18 : decode bM_costAt 18 = .ok (.if_icmp .ne 7, 3) := by decide +kernel
theorem dM_costAt_21 : decode bM_costAt 21 = .ok (.iconst 4, 1) := by decide +kernel
theorem dM_costAt_22 : decode bM_costAt 22 = .ok (.goto 19, 3) := by decide +kernel
theorem dM_costAt_25 : decode bM_costAt 25 = .ok (.aload_n 0, 1) := by decide +kernel
theorem dM_costAt_26 : decode bM_costAt 26 = .ok (.getfield 56, 3) := by decide +kernel
theorem dM_costAt_29 : decode bM_costAt 29 = .ok (.iconst 3, 1) := by decide +kernel
theorem dM_costAt_30 : decode bM_costAt 30 = .ok (.if_icmp .ne 8, 3) := by decide +kernel
theorem dM_costAt_33 : decode bM_costAt 33 = .ok (.bipush 20, 2) := by decide +kernel
theorem dM_costAt_35 : decode bM_costAt 35 = .ok (.goto 6, 3) := by decide +kernel
theorem dM_costAt_38 : decode bM_costAt 38 = .ok (.sipush 276, 3) := by decide +kernel
theorem dM_costAt_41 : decode bM_costAt 41 = .ok (.iadd, 1) := by decide +kernel
theorem dM_costAt_42 : decode bM_costAt 42 = .ok (.ireturn, 1) := by decide +kernel
theorem dM_product_0 : decode bM_product 0 = .ok (.aload_n 0, 1) := by decide +kernel
theorem dM_product_1 : decode bM_product 1 = .ok (.iconst 0, 1) := by decide +kernel
theorem dM_product_2 : decode bM_product 2 = .ok (.putfield 53, 3) := by decide +kernel
theorem dM_product_5 : decode bM_product 5 = .ok (.iload_n 1, 1) := by decide +kernel
theorem dM_product_6 : decode bM_product 6 = .ok (.ifCond .lt 19, 3) := by decide +kernel
theorem dM_product_9 : decode bM_product 9 = .ok (.iload_n 1, 1) := by decide +kernel
theorem dM_product_10 : decode bM_product 10 = .ok (.aload_n 0, 1) := by decide +kernel
theorem dM_product_11 : decode bM_product 11 = .ok (.invokevirtual 85, 3) := by decide +kernel
theorem dM_product_14 : decode bM_product 14 = .ok (.if_icmp .ge 11, 3) := by decide +kernel
theorem dM_product_17 : decode bM_product 17 = .ok (.aload_n 0, 1) := by decide +kernel
theorem dM_product_18 : decode bM_product 18 = .ok (.iload_n 1, 1) := by decide +kernel
theorem dM_product_19 : decode bM_product 19 = .ok (.invokevirtual 92, 3) := by decide +kernel
theorem dM_product_22 : decode bM_product 22 = .ok (.goto 4, 3) := by decide +kernel
theorem dM_product_25 : decode bM_product 25 = .ok (.iconst (-1), 1) := by decide +kernel
theorem dM_product_26 : decode bM_product 26 = .ok (.ireturn, 1) := by decide +kernel
theorem dM_program_0 : decode bM_program 0 = .ok (.aload_n 0, 1) := by decide +kernel
theorem dM_program_1 : decode bM_program 1 = .ok (.iconst 0, 1) := by decide +kernel
theorem dM_program_2 : decode bM_program 2 = .ok (.putfield 53, 3) := by decide +kernel
theorem dM_program_5 : decode bM_program 5 = .ok (.iload_n 1, 1) := by decide +kernel
theorem dM_program_6 : decode bM_program 6 = .ok (.iconst 1, 1) := by decide +kernel
theorem dM_program_7 : decode bM_program 7 = .ok (.if_icmp .lt 9, 3) := by decide +kernel
theorem dM_program_10 : decode bM_program 10 = .ok (.iload_n 1, 1) := by decide +kernel
theorem dM_program_11 : decode bM_program 11 = .ok (.bipush 12, 2) := by decide +kernel
theorem dM_program_13 : decode bM_program 13 = .ok (.if_icmp .le 5, 3) := by decide +kernel
theorem dM_program_16 : decode bM_program 16 = .ok (.iconst 0, 1) := by decide +kernel
theorem dM_program_17 : decode bM_program 17 = .ok (.ireturn, 1) := by decide +kernel
theorem dM_program_18 : decode bM_program 18 = .ok (.aload_n 0, 1) := by decide +kernel
theorem dM_program_19 : decode bM_program 19 = .ok (.iload_n 1, 1) := by decide +kernel
theorem dM_program_20 : decode bM_program 20 = .ok (.putfield 49, 3) := by decide +kernel
theorem dM_program_23 : decode bM_program 23 = .ok (.iconst 0, 1) := by decide +kernel
theorem dM_program_24 : decode bM_program 24 = .ok (.istore_n 2, 1) := by decide +kernel
theorem dM_program_25 : decode bM_program 25 = .ok (.iload_n 2, 1) := by decide +kernel
theorem dM_program_26 : decode bM_program 26 = .ok (.bipush 12, 2) := by decide +kernel
theorem dM_program_28 : decode bM_program 28 = .ok (.if_icmp .ge 16, 3) := by decide +kernel
theorem dM_program_31 : decode bM_program 31 = .ok (.aload_n 0, 1) := by decide +kernel
theorem dM_program_32 : decode bM_program 32 = .ok (.getfield 13, 3) := by decide +kernel
theorem dM_program_35 : decode bM_program 35 = .ok (.iload_n 2, 1) := by decide +kernel
theorem dM_program_36 : decode bM_program 36 = .ok (.iconst 0, 1) := by decide +kernel
theorem dM_program_37 : decode bM_program 37 = .ok (.iastore, 1) := by decide +kernel
theorem dM_program_38 : decode bM_program 38 = .ok (.iinc 2 1, 3) := by decide +kernel
theorem dM_program_41 : decode bM_program 41 = .ok (.goto (-16), 3) := by decide +kernel
theorem dM_program_44 : decode bM_program 44 = .ok (.iconst 1, 1) := by decide +kernel
theorem dM_program_45 : decode bM_program 45 = .ok (.ireturn, 1) := by decide +kernel
theorem dM_need_0 : decode bM_need 0 = .ok (.aload_n 0, 1) := by decide +kernel
theorem dM_need_1 : decode bM_need 1 = .ok (.iconst 0, 1) := by decide +kernel
theorem dM_need_2 : decode bM_need 2 = .ok (.putfield 53, 3) := by decide +kernel
theorem dM_need_5 : decode bM_need 5 = .ok (.iload_n 1, 1) := by decide +kernel
theorem dM_need_6 : decode bM_need 6 = .ok (.ifCond .lt 22, 3) := by decide +kernel
theorem dM_need_9 : decode bM_need 9 = .ok (.iload_n 1, 1) := by decide +kernel
theorem dM_need_10 : decode bM_need 10 = .ok (.aload_n 0, 1) := by decide +kernel
theorem dM_need_11 : decode bM_need 11 = .ok (.getfield 49, 3) := by decide +kernel
theorem dM_need_14 : decode bM_need 14 = .ok (.if_icmp .ge 14, 3) := by decide +kernel
theorem dM_need_17 : decode bM_need 17 = .ok (.iload_n 2, 1) := by decide +kernel
theorem dM_need_18 : decode bM_need 18 = .ok (.ifCond .lt 10, 3) := by decide +kernel
theorem dM_need_21 : decode bM_need 21 = .ok (.iload_n 2, 1) := by decide +kernel
theorem dM_need_22 : decode bM_need 22 = .ok (.iconst 1, 1) := by decide +kernel
theorem dM_need_23 : decode bM_need 23 = .ok (.iload_n 1, 1) := by decide +kernel
theorem dM_need_24 : decode bM_need 24 = .ok (.ishl, 1) := by decide +kernel
theorem dM_need_25 : decode bM_need 25 = .ok (.if_icmp .lt 5, 3) := by decide +kernel
theorem dM_need_28 : decode bM_need 28 = .ok (.iconst 0, 1) := by decide +kernel
theorem dM_need_29 : decode bM_need 29 = .ok (.ireturn, 1) := by decide +kernel
theorem dM_need_30 : decode bM_need 30 = .ok (.aload_n 0, 1) := by decide +kernel
theorem dM_need_31 : decode bM_need 31 = .ok (.getfield 13, 3) := by decide +kernel
theorem dM_need_34 : decode bM_need 34 = .ok (.iload_n 1, 1) := by decide +kernel
theorem dM_need_35 : decode bM_need 35 = .ok (.iload_n 2, 1) := by decide +kernel
theorem dM_need_36 : decode bM_need 36 = .ok (.iastore, 1) := by decide +kernel
theorem dM_need_37 : decode bM_need 37 = .ok (.iconst 1, 1) := by decide +kernel
theorem dM_need_38 : decode bM_need 38 = .ok (.ireturn, 1) := by decide +kernel
theorem dM_move_0 : decode bM_move 0 = .ok (.aload_n 0, 1) := by decide +kernel
theorem dM_move_1 : decode bM_move 1 = .ok (.iconst 0, 1) := by decide +kernel
theorem dM_move_2 : decode bM_move 2 = .ok (.putfield 53, 3) := by decide +kernel
theorem dM_move_5 : decode bM_move 5 = .ok (.iload_n 1, 1) := by decide +kernel
theorem dM_move_6 : decode bM_move 6 = .ok (.iconst 1, 1) := by decide +kernel
theorem dM_move_7 : decode bM_move 7 = .ok (.if_icmp .lt 8, 3) := by decide +kernel
theorem dM_move_10 : decode bM_move 10 = .ok (.iload_n 2, 1) := by decide +kernel
theorem dM_move_11 : decode bM_move 11 = .ok (.iconst (-1), 1) := by decide +kernel
theorem dM_move_12 : decode bM_move 12 = .ok (.if_icmp .ge 5, 3) := by decide +kernel
theorem dM_move_15 : decode bM_move 15 = .ok (.iconst (-1), 1) := by decide +kernel
theorem dM_move_16 : decode bM_move 16 = .ok (.ireturn, 1) := by decide +kernel
theorem dM_move_17 : decode bM_move 17 = .ok (.aload_n 0, 1) := by decide +kernel
theorem dM_move_18 : decode bM_move 18 = .ok (.iload_n 1, 1) := by decide +kernel
theorem dM_move_19 : decode bM_move 19 = .ok (.invokevirtual 107, 3) := by decide +kernel
theorem dM_move_22 : decode bM_move 22 = .ok (.istore_n 3, 1) := by decide +kernel
theorem dM_move_23 : decode bM_move 23 = .ok (.iload_n 3, 1) := by decide +kernel
theorem dM_move_24 : decode bM_move 24 = .ok (.iconst (-1), 1) := by decide +kernel
theorem dM_move_25 : decode bM_move 25 = .ok (.if_icmp .ne 5, 3) := by decide +kernel
theorem dM_move_28 : decode bM_move 28 = .ok (.iconst (-1), 1) := by decide +kernel
theorem dM_move_29 : decode bM_move 29 = .ok (.ireturn, 1) := by decide +kernel
theorem dM_move_30 : decode bM_move 30 = .ok (.aload_n 0, 1) := by decide +kernel
theorem dM_move_31 : decode bM_move 31 = .ok (.iload_n 3, 1) := by decide +kernel
theorem dM_move_32 : decode bM_move 32 = .ok (.invokevirtual 110, 3) := by decide +kernel
theorem dM_move_35 : decode bM_move 35 = .ok (.istore 4, 2) := by decide +kernel
theorem dM_move_37 : decode bM_move 37 = .ok (.iload_n 2, 1) := by decide +kernel
theorem dM_move_38 : decode bM_move 38 = .ok (.iconst (-1), 1) := by decide +kernel
theorem dM_move_39 : decode bM_move 39 = .ok (.if_icmp .ne 6, 3) := by decide +kernel
theorem dM_move_42 : decode bM_move 42 = .ok (.iload 4, 2) := by decide +kernel
theorem dM_move_44 : decode bM_move 44 = .ok (.ireturn, 1) := by decide +kernel
theorem dM_move_45 : decode bM_move 45 = .ok (.iload_n 2, 1) := by decide +kernel
theorem dM_move_46 : decode bM_move 46 = .ok (.iload 4, 2) := by decide +kernel
theorem dM_move_48 : decode bM_move 48 = .ok (.if_icmp .lt 5, 3) := by decide +kernel
theorem dM_move_51 : decode bM_move 51 = .ok (.iconst (-1), 1) := by decide +kernel
theorem dM_move_52 : decode bM_move 52 = .ok (.ireturn, 1) := by decide +kernel
theorem dM_move_53 : decode bM_move 53 = .ok (.iload_n 3, 1) := by decide +kernel
theorem dM_move_54 : decode bM_move 54 = .ok (.istore 5, 2) := by decide +kernel
theorem dM_move_56 : decode bM_move 56 = .ok (.iload 4, 2) := by decide +kernel
theorem dM_move_58 : decode bM_move 58 = .ok (.iconst 1, 1) := by decide +kernel
theorem dM_move_59 : decode bM_move 59 = .ok (.isub, 1) := by decide +kernel
theorem dM_move_60 : decode bM_move 60 = .ok (.istore 6, 2) := by decide +kernel
theorem dM_move_62 : decode bM_move 62 = .ok (.iload 6, 2) := by decide +kernel
theorem dM_move_64 : decode bM_move 64 = .ok (.iload_n 2, 1) := by decide +kernel
theorem dM_move_65 : decode bM_move 65 = .ok (.if_icmp .le 18, 3) := by decide +kernel
theorem dM_move_68 : decode bM_move 68 = .ok (.aload_n 0, 1) := by decide +kernel
theorem dM_move_69 : decode bM_move 69 = .ok (.getfield 39, 3) := by decide +kernel
theorem dM_move_72 : decode bM_move 72 = .ok (.iload 5, 2) := by decide +kernel
theorem dM_move_74 : decode bM_move 74 = .ok (.iaload, 1) := by decide +kernel
theorem dM_move_75 : decode bM_move 75 = .ok (.istore 5, 2) := by decide +kernel
theorem dM_move_77 : decode bM_move 77 = .ok (.iinc 6 (-1), 3) := by decide +kernel
theorem dM_move_80 : decode bM_move 80 = .ok (.goto (-18), 3) := by decide +kernel
theorem dM_move_83 : decode bM_move 83 = .ok (.aload_n 0, 1) := by decide +kernel
theorem dM_move_84 : decode bM_move 84 = .ok (.getfield 42, 3) := by decide +kernel
theorem dM_move_87 : decode bM_move 87 = .ok (.iload 5, 2) := by decide +kernel
theorem dM_move_89 : decode bM_move 89 = .ok (.iaload, 1) := by decide +kernel
theorem dM_move_90 : decode bM_move 90 = .ok (.ireturn, 1) := by decide +kernel
theorem dM_findEnd_0 : decode bM_findEnd 0 = .ok (.iconst 0, 1) := by decide +kernel
theorem dM_findEnd_1 : decode bM_findEnd 1 = .ok (.istore_n 2, 1) := by decide +kernel
theorem dM_findEnd_2 : decode bM_findEnd 2 = .ok (.iload_n 2, 1) := by decide +kernel
theorem dM_findEnd_3 : decode bM_findEnd 3 = .ok (.sipush 4096, 3) := by decide +kernel
theorem dM_findEnd_6 : decode bM_findEnd 6 = .ok (.if_icmp .ge 16, 3) := by decide +kernel
theorem dM_findEnd_9 : decode bM_findEnd 9 = .ok (.aload_n 0, 1) := by decide +kernel
theorem dM_findEnd_10 : decode bM_findEnd 10 = .ok (.getfield 33, 3) := by decide +kernel
theorem dM_findEnd_13 : decode bM_findEnd 13 = .ok (.iload_n 2, 1) := by decide +kernel
theorem dM_findEnd_14 : decode bM_findEnd 14 = .ok (.iconst 0, 1) := by decide +kernel
theorem dM_findEnd_15 : decode bM_findEnd 15 = .ok (.bastore, 1) := by decide +kernel
theorem dM_findEnd_16 : decode bM_findEnd 16 = .ok (.iinc 2 1, 3) := by decide +kernel
theorem dM_findEnd_19 : decode bM_findEnd 19 = .ok (.goto (-17), 3) := by decide +kernel
theorem dM_findEnd_22 : decode bM_findEnd 22 = .ok (.aload_n 0, 1) := by decide +kernel
theorem dM_findEnd_23 : decode bM_findEnd 23 = .ok (.getfield 33, 3) := by decide +kernel
theorem dM_findEnd_26 : decode bM_findEnd 26 = .ok (.iconst 0, 1) := by decide +kernel
theorem dM_findEnd_27 : decode bM_findEnd 27 = .ok (.iconst 1, 1) := by decide +kernel
theorem dM_findEnd_28 : decode bM_findEnd 28 = .ok (.bastore, 1) := by decide +kernel
theorem dM_findEnd_29 : decode bM_findEnd 29 = .ok (.aload_n 0, 1) := by decide +kernel
theorem dM_findEnd_30 : decode bM_findEnd 30 = .ok (.getfield 36, 3) := by decide +kernel
theorem dM_findEnd_33 : decode bM_findEnd 33 = .ok (.iconst 0, 1) := by decide +kernel
theorem dM_findEnd_34 : decode bM_findEnd 34 = .ok (.iconst 0, 1) := by decide +kernel
theorem dM_findEnd_35 : decode bM_findEnd 35 = .ok (.iastore, 1) := by decide +kernel
theorem dM_findEnd_36 : decode bM_findEnd 36 = .ok (.aload_n 0, 1) := by decide +kernel
theorem dM_findEnd_37 : decode bM_findEnd 37 = .ok (.getfield 39, 3) := by decide +kernel
theorem dM_findEnd_40 : decode bM_findEnd 40 = .ok (.iconst 0, 1) := by decide +kernel
theorem dM_findEnd_41 : decode bM_findEnd 41 = .ok (.iconst (-1), 1) := by decide +kernel
theorem dM_findEnd_42 : decode bM_findEnd 42 = .ok (.iastore, 1) := by decide +kernel
theorem dM_findEnd_43 : decode bM_findEnd 43 = .ok (.iconst 1, 1) := by decide +kernel
theorem dM_findEnd_44 : decode bM_findEnd 44 = .ok (.istore_n 2, 1) := by decide +kernel
theorem dM_findEnd_45 : decode bM_findEnd 45 = .ok (.iconst 0, 1) := by decide +kernel
theorem dM_findEnd_46 : decode bM_findEnd 46 = .ok (.istore_n 3, 1) := by decide +kernel
theorem dM_findEnd_47 : decode bM_findEnd 47 = .ok (.iload_n 3, 1) := by decide +kernel
theorem dM_findEnd_48 : decode bM_findEnd 48 = .ok (.iload_n 2, 1) := by decide +kernel
theorem dM_findEnd_49 : decode bM_findEnd 49 = .ok (.if_icmp .ge 130, 3) := by decide +kernel
theorem dM_findEnd_52 : decode bM_findEnd 52 = .ok (.aload_n 0, 1) := by decide +kernel
theorem dM_findEnd_53 : decode bM_findEnd 53 = .ok (.getfield 36, 3) := by decide +kernel
theorem dM_findEnd_56 : decode bM_findEnd 56 = .ok (.iload_n 3, 1) := by decide +kernel
theorem dM_findEnd_57 : decode bM_findEnd 57 = .ok (.iaload, 1) := by decide +kernel
theorem dM_findEnd_58 : decode bM_findEnd 58 = .ok (.istore 4, 2) := by decide +kernel
theorem dM_findEnd_60 : decode bM_findEnd 60 = .ok (.iload 4, 2) := by decide +kernel
theorem dM_findEnd_62 : decode bM_findEnd 62 = .ok (.iconst 1, 1) := by decide +kernel
theorem dM_findEnd_63 : decode bM_findEnd 63 = .ok (.aload_n 0, 1) := by decide +kernel
theorem dM_findEnd_64 : decode bM_findEnd 64 = .ok (.getfield 49, 3) := by decide +kernel
theorem dM_findEnd_67 : decode bM_findEnd 67 = .ok (.iconst 1, 1) := by decide +kernel
theorem dM_findEnd_68 : decode bM_findEnd 68 = .ok (.isub, 1) := by decide +kernel
theorem dM_findEnd_69 : decode bM_findEnd 69 = .ok (.ishl, 1) := by decide +kernel
theorem dM_findEnd_70 : decode bM_findEnd 70 = .ok (.if_icmp .ne 5, 3) := by decide +kernel
theorem dM_findEnd_73 : decode bM_findEnd 73 = .ok (.iload_n 3, 1) := by decide +kernel
theorem dM_findEnd_74 : decode bM_findEnd 74 = .ok (.ireturn, 1) := by decide +kernel
theorem dM_findEnd_75 : decode bM_findEnd 75 = .ok (.iconst 0, 1) := by decide +kernel
theorem dM_findEnd_76 : decode bM_findEnd 76 = .ok (.istore 5, 2) := by decide +kernel
theorem dM_findEnd_78 : decode bM_findEnd 78 = .ok (.iload 5, 2) := by decide +kernel
theorem dM_findEnd_80 : decode bM_findEnd 80 = .ok (.aload_n 0, 1) := by decide +kernel
theorem dM_findEnd_81 : decode bM_findEnd 81 = .ok (.getfield 49, 3) := by decide +kernel
theorem dM_findEnd_84 : decode bM_findEnd 84 = .ok (.if_icmp .ge 89, 3) := by decide +kernel
theorem dM_findEnd_87 : decode bM_findEnd 87 = .ok (.iload 4, 2) := by decide +kernel
theorem dM_findEnd_89 : decode bM_findEnd 89 = .ok (.iconst 1, 1) := by decide +kernel
theorem dM_findEnd_90 : decode bM_findEnd 90 = .ok (.iload 5, 2) := by decide +kernel
theorem dM_findEnd_92 : decode bM_findEnd 92 = .ok (.ishl, 1) := by decide +kernel
theorem dM_findEnd_93 : decode bM_findEnd 93 = .ok (.ixor, 1) := by decide +kernel
theorem dM_findEnd_94 : decode bM_findEnd 94 = .ok (.istore 6, 2) := by decide +kernel
theorem dM_findEnd_96 : decode bM_findEnd 96 = .ok (.aload_n 0, 1) := by decide +kernel
theorem dM_findEnd_97 : decode bM_findEnd 97 = .ok (.getfield 13, 3) := by decide +kernel
theorem dM_findEnd_100 : decode bM_findEnd 100 = .ok (.iload 5, 2) := by decide +kernel
theorem dM_findEnd_102 : decode bM_findEnd 102 = .ok (.iaload, 1) := by decide +kernel
theorem dM_findEnd_103 : decode bM_findEnd 103 = .ok (.iload 4, 2) := by decide +kernel
theorem dM_findEnd_105 : decode bM_findEnd 105 = .ok (.iconst (-1), 1) := by decide +kernel
theorem dM_findEnd_106 : decode bM_findEnd 106 = .ok (.ixor, 1) := by decide +kernel
theorem dM_findEnd_107 : decode bM_findEnd 107 = .ok (.iand, 1) := by decide +kernel
theorem dM_findEnd_108 : decode bM_findEnd 108 = .ok (.ifCond .ne 59, 3) := by decide +kernel
theorem dM_findEnd_111 : decode bM_findEnd 111 = .ok (.iload 6, 2) := by decide +kernel
theorem dM_findEnd_113 : decode bM_findEnd 113 = .ok (.invokestatic 104, 3) := by decide +kernel
theorem dM_findEnd_116 : decode bM_findEnd 116 = .ok (.iload_n 1, 1) := by decide +kernel
theorem dM_findEnd_117 : decode bM_findEnd 117 = .ok (.if_icmp .gt 50, 3) := by decide +kernel
theorem dM_findEnd_120 : decode bM_findEnd 120 = .ok (.aload_n 0, 1) := by decide +kernel
theorem dM_findEnd_121 : decode bM_findEnd 121 = .ok (.getfield 33, 3) := by decide +kernel
theorem dM_findEnd_124 : decode bM_findEnd 124 = .ok (.iload 6, 2) := by decide +kernel
theorem dM_findEnd_126 : decode bM_findEnd 126 = .ok (.baload, 1) := by decide +kernel
theorem dM_findEnd_127 : decode bM_findEnd 127 = .ok (.ifCond .eq 6, 3) := by decide +kernel
theorem dM_findEnd_130 : decode bM_findEnd 130 = .ok (.goto 37, 3) := by decide +kernel
theorem dM_findEnd_133 : decode bM_findEnd 133 = .ok (.aload_n 0, 1) := by decide +kernel
theorem dM_findEnd_134 : decode bM_findEnd 134 = .ok (.getfield 33, 3) := by decide +kernel
theorem dM_findEnd_137 : decode bM_findEnd 137 = .ok (.iload 6, 2) := by decide +kernel
theorem dM_findEnd_139 : decode bM_findEnd 139 = .ok (.iconst 1, 1) := by decide +kernel
theorem dM_findEnd_140 : decode bM_findEnd 140 = .ok (.bastore, 1) := by decide +kernel
theorem dM_findEnd_141 : decode bM_findEnd 141 = .ok (.aload_n 0, 1) := by decide +kernel
theorem dM_findEnd_142 : decode bM_findEnd 142 = .ok (.getfield 36, 3) := by decide +kernel
theorem dM_findEnd_145 : decode bM_findEnd 145 = .ok (.iload_n 2, 1) := by decide +kernel
theorem dM_findEnd_146 : decode bM_findEnd 146 = .ok (.iload 6, 2) := by decide +kernel
theorem dM_findEnd_148 : decode bM_findEnd 148 = .ok (.iastore, 1) := by decide +kernel
theorem dM_findEnd_149 : decode bM_findEnd 149 = .ok (.aload_n 0, 1) := by decide +kernel
theorem dM_findEnd_150 : decode bM_findEnd 150 = .ok (.getfield 39, 3) := by decide +kernel
theorem dM_findEnd_153 : decode bM_findEnd 153 = .ok (.iload_n 2, 1) := by decide +kernel
theorem dM_findEnd_154 : decode bM_findEnd 154 = .ok (.iload_n 3, 1) := by decide +kernel
theorem dM_findEnd_155 : decode bM_findEnd 155 = .ok (.iastore, 1) := by decide +kernel
theorem dM_findEnd_156 : decode bM_findEnd 156 = .ok (.aload_n 0, 1) := by decide +kernel
theorem dM_findEnd_157 : decode bM_findEnd 157 = .ok (.getfield 42, 3) := by decide +kernel
theorem dM_findEnd_160 : decode bM_findEnd 160 = .ok (.iload_n 2, 1) := by decide +kernel
theorem dM_findEnd_161 : decode bM_findEnd 161 = .ok (.iload 5, 2) := by decide +kernel
theorem dM_findEnd_163 : decode bM_findEnd 163 = .ok (.iastore, 1) := by decide +kernel
theorem dM_findEnd_164 : decode bM_findEnd 164 = .ok (.iinc 2 1, 3) := by decide +kernel
theorem dM_findEnd_167 : decode bM_findEnd 167 = .ok (.iinc 5 1, 3) := by decide +kernel
theorem dM_findEnd_170 : decode bM_findEnd 170 = .ok (.goto (-92), 3) := by decide +kernel
theorem dM_findEnd_173 : decode bM_findEnd 173 = .ok (.iinc 3 1, 3) := by decide +kernel
theorem dM_findEnd_176 : decode bM_findEnd 176 = .ok (.goto (-129), 3) := by decide +kernel
theorem dM_findEnd_179 : decode bM_findEnd 179 = .ok (.iconst (-1), 1) := by decide +kernel
theorem dM_findEnd_180 : decode bM_findEnd 180 = .ok (.ireturn, 1) := by decide +kernel
theorem dM_count_0 : decode bM_count 0 = .ok (.iconst 0, 1) := by decide +kernel
theorem dM_count_1 : decode bM_count 1 = .ok (.istore_n 1, 1) := by decide +kernel
theorem dM_count_2 : decode bM_count 2 = .ok (.iconst 0, 1) := by decide +kernel
theorem dM_count_3 : decode bM_count 3 = .ok (.istore_n 2, 1) := by decide +kernel
theorem dM_count_4 : decode bM_count 4 = .ok (.iload_n 2, 1) := by decide +kernel
theorem dM_count_5 : decode bM_count 5 = .ok (.bipush 12, 2) := by decide +kernel
theorem dM_count_7 : decode bM_count 7 = .ok (.if_icmp .ge 17, 3) := by decide +kernel
theorem dM_count_10 : decode bM_count 10 = .ok (.iload_n 1, 1) := by decide +kernel
theorem dM_count_11 : decode bM_count 11 = .ok (.iload_n 0, 1) := by decide +kernel
theorem dM_count_12 : decode bM_count 12 = .ok (.iload_n 2, 1) := by decide +kernel
theorem dM_count_13 : decode bM_count 13 = .ok (.ishr, 1) := by decide +kernel
theorem dM_count_14 : decode bM_count 14 = .ok (.iconst 1, 1) := by decide +kernel
theorem dM_count_15 : decode bM_count 15 = .ok (.iand, 1) := by decide +kernel
theorem dM_count_16 : decode bM_count 16 = .ok (.iadd, 1) := by decide +kernel
theorem dM_count_17 : decode bM_count 17 = .ok (.istore_n 1, 1) := by decide +kernel
theorem dM_count_18 : decode bM_count 18 = .ok (.iinc 2 1, 3) := by decide +kernel
theorem dM_count_21 : decode bM_count 21 = .ok (.goto (-17), 3) := by decide +kernel
theorem dM_count_24 : decode bM_count 24 = .ok (.iload_n 1, 1) := by decide +kernel
theorem dM_count_25 : decode bM_count 25 = .ok (.ireturn, 1) := by decide +kernel
theorem dM_lengthTo_0 : decode bM_lengthTo 0 = .ok (.iconst 0, 1) := by decide +kernel
theorem dM_lengthTo_1 : decode bM_lengthTo 1 = .ok (.istore_n 2, 1) := by decide +kernel
theorem dM_lengthTo_2 : decode bM_lengthTo 2 = .ok (.iload_n 1, 1) := by decide +kernel
theorem dM_lengthTo_3 : decode bM_lengthTo 3 = .ok (.istore_n 3, 1) := by decide +kernel
theorem dM_lengthTo_4 : decode bM_lengthTo 4 = .ok (.aload_n 0, 1) := by decide +kernel
theorem dM_lengthTo_5 : decode bM_lengthTo 5 = .ok (.getfield 39, 3) := by decide +kernel
theorem dM_lengthTo_8 : decode bM_lengthTo 8 = .ok (.iload_n 3, 1) := by decide +kernel
theorem dM_lengthTo_9 : decode bM_lengthTo 9 = .ok (.iaload, 1) := by decide +kernel
theorem dM_lengthTo_10 : decode bM_lengthTo 10 = .ok (.iconst (-1), 1) := by decide +kernel
theorem dM_lengthTo_11 : decode bM_lengthTo 11 = .ok (.if_icmp .eq 16, 3) := by decide +kernel
theorem dM_lengthTo_14 : decode bM_lengthTo 14 = .ok (.iinc 2 1, 3) := by decide +kernel
theorem dM_lengthTo_17 : decode bM_lengthTo 17 = .ok (.aload_n 0, 1) := by decide +kernel
theorem dM_lengthTo_18 : decode bM_lengthTo 18 = .ok (.getfield 39, 3) := by decide +kernel
theorem dM_lengthTo_21 : decode bM_lengthTo 21 = .ok (.iload_n 3, 1) := by decide +kernel
theorem dM_lengthTo_22 : decode bM_lengthTo 22 = .ok (.iaload, 1) := by decide +kernel
theorem dM_lengthTo_23 : decode bM_lengthTo 23 = .ok (.istore_n 3, 1) := by decide +kernel
theorem dM_lengthTo_24 : decode bM_lengthTo 24 = .ok (.goto (-20), 3) := by decide +kernel
theorem dM_lengthTo_27 : decode bM_lengthTo 27 = .ok (.iload_n 2, 1) := by decide +kernel
theorem dM_lengthTo_28 : decode bM_lengthTo 28 = .ok (.ireturn, 1) := by decide +kernel
theorem dM_marks_0 : decode bM_marks 0 = .ok (.aload_n 0, 1) := by decide +kernel
theorem dM_marks_1 : decode bM_marks 1 = .ok (.iconst 0, 1) := by decide +kernel
theorem dM_marks_2 : decode bM_marks 2 = .ok (.putfield 53, 3) := by decide +kernel
theorem dM_marks_5 : decode bM_marks 5 = .ok (.iconst 1, 1) := by decide +kernel
theorem dM_marks_6 : decode bM_marks 6 = .ok (.istore_n 1, 1) := by decide +kernel
theorem dM_marks_7 : decode bM_marks 7 = .ok (.aload_n 0, 1) := by decide +kernel
theorem dM_marks_8 : decode bM_marks 8 = .ok (.iload_n 1, 1) := by decide +kernel
theorem dM_marks_9 : decode bM_marks 9 = .ok (.invokevirtual 107, 3) := by decide +kernel
theorem dM_marks_12 : decode bM_marks 12 = .ok (.iconst (-1), 1) := by decide +kernel
theorem dM_marks_13 : decode bM_marks 13 = .ok (.if_icmp .ne 9, 3) := by decide +kernel
theorem dM_marks_16 : decode bM_marks 16 = .ok (.iinc 1 1, 3) := by decide +kernel
theorem dM_marks_19 : decode bM_marks 19 = .ok (.goto (-12), 3) := by decide +kernel
theorem dM_marks_22 : decode bM_marks 22 = .ok (.iload_n 1, 1) := by decide +kernel
theorem dM_marks_23 : decode bM_marks 23 = .ok (.ireturn, 1) := by decide +kernel
theorem dM_total_0 : decode bM_total 0 = .ok (.aload_n 0, 1) := by decide +kernel
theorem dM_total_1 : decode bM_total 1 = .ok (.iconst 0, 1) := by decide +kernel
theorem dM_total_2 : decode bM_total 2 = .ok (.putfield 53, 3) := by decide +kernel
theorem dM_total_5 : decode bM_total 5 = .ok (.iload_n 1, 1) := by decide +kernel
theorem dM_total_6 : decode bM_total 6 = .ok (.tableswitch 74 0 4 #[34, 39, 44, 57, 69], 34) := by decide +kernel
theorem dM_total_40 : decode bM_total 40 = .ok (.aload_n 0, 1) := by decide +kernel
theorem dM_total_41 : decode bM_total 41 = .ok (.getfield 56, 3) := by decide +kernel
theorem dM_total_44 : decode bM_total 44 = .ok (.ireturn, 1) := by decide +kernel
theorem dM_total_45 : decode bM_total 45 = .ok (.aload_n 0, 1) := by decide +kernel
theorem dM_total_46 : decode bM_total 46 = .ok (.getfield 49, 3) := by decide +kernel
theorem dM_total_49 : decode bM_total 49 = .ok (.ireturn, 1) := by decide +kernel
theorem dM_total_50 : decode bM_total 50 = .ok (.aload_n 0, 1) := by decide +kernel
theorem dM_total_51 : decode bM_total 51 = .ok (.invokevirtual 78, 3) := by decide +kernel
theorem dM_total_54 : decode bM_total 54 = .ok (.ifCond .eq 7, 3) := by decide +kernel
theorem dM_total_57 : decode bM_total 57 = .ok (.iconst 1, 1) := by decide +kernel
theorem dM_total_58 : decode bM_total 58 = .ok (.goto 4, 3) := by decide +kernel
theorem dM_total_61 : decode bM_total 61 = .ok (.iconst 0, 1) := by decide +kernel
theorem dM_total_62 : decode bM_total 62 = .ok (.ireturn, 1) := by decide +kernel
theorem dM_total_63 : decode bM_total 63 = .ok (.aload_n 0, 1) := by decide +kernel
theorem dM_total_64 : decode bM_total 64 = .ok (.getfield 56, 3) := by decide +kernel
theorem dM_total_67 : decode bM_total 67 = .ok (.aload_n 0, 1) := by decide +kernel
theorem dM_total_68 : decode bM_total 68 = .ok (.getfield 56, 3) := by decide +kernel
theorem dM_total_71 : decode bM_total 71 = .ok (.iconst 1, 1) := by decide +kernel
theorem dM_total_72 : decode bM_total 72 = .ok (.isub, 1) := by decide +kernel
theorem dM_total_73 : decode bM_total 73 = .ok (.ishl, 1) := by decide +kernel
theorem dM_total_74 : decode bM_total 74 = .ok (.ireturn, 1) := by decide +kernel
theorem dM_total_75 : decode bM_total 75 = .ok (.aload_n 0, 1) := by decide +kernel
theorem dM_total_76 : decode bM_total 76 = .ok (.invokevirtual 85, 3) := by decide +kernel
theorem dM_total_79 : decode bM_total 79 = .ok (.ireturn, 1) := by decide +kernel
theorem dM_total_80 : decode bM_total 80 = .ok (.iconst (-1), 1) := by decide +kernel
theorem dM_total_81 : decode bM_total 81 = .ok (.ireturn, 1) := by decide +kernel
