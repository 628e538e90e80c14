theorem dT_init_0 : decode bT_init 0 = .ok (.aload_n 0, 1) := by decide +kernel
theorem dT_init_1 : decode bT_init 1 = .ok (.invokespecial 3, 3) := by decide +kernel
theorem dT_init_4 : decode bT_init 4 = .ok (.aload_n 0, 1) := by decide +kernel
theorem dT_init_5 : decode bT_init 5 = .ok (.bipush 16, 2) := by decide +kernel
theorem dT_init_7 : decode bT_init 7 = .ok (.newarray .int, 2) := by decide +kernel
theorem dT_init_9 : decode bT_init 9 = .ok (.putfield 9, 3) := by decide +kernel
theorem dT_init_12 : decode bT_init 12 = .ok (.aload_n 0, 1) := by decide +kernel
theorem dT_init_13 : decode bT_init 13 = .ok (.bipush 16, 2) := by decide +kernel
theorem dT_init_15 : decode bT_init 15 = .ok (.newarray .int, 2) := by decide +kernel
theorem dT_init_17 : decode bT_init 17 = .ok (.putfield 15, 3) := by decide +kernel
theorem dT_init_20 : decode bT_init 20 = .ok (.aload_n 0, 1) := by decide +kernel
theorem dT_init_21 : decode bT_init 21 = .ok (.bipush 64, 2) := by decide +kernel
theorem dT_init_23 : decode bT_init 23 = .ok (.newarray .int, 2) := by decide +kernel
theorem dT_init_25 : decode bT_init 25 = .ok (.putfield 18, 3) := by decide +kernel
theorem dT_init_28 : decode bT_init 28 = .ok (.aload_n 0, 1) := by decide +kernel
theorem dT_init_29 : decode bT_init 29 = .ok (.iconst 1, 1) := by decide +kernel
theorem dT_init_30 : decode bT_init 30 = .ok (.putfield 21, 3) := by decide +kernel
theorem dT_init_33 : decode bT_init 33 = .ok (.aload_n 0, 1) := by decide +kernel
theorem dT_init_34 : decode bT_init 34 = .ok (.iconst 2, 1) := by decide +kernel
theorem dT_init_35 : decode bT_init 35 = .ok (.putfield 25, 3) := by decide +kernel
theorem dT_init_38 : decode bT_init 38 = .ok (.iconst 0, 1) := by decide +kernel
theorem dT_init_39 : decode bT_init 39 = .ok (.istore_n 1, 1) := by decide +kernel
theorem dT_init_40 : decode bT_init 40 = .ok (.iload_n 1, 1) := by decide +kernel
theorem dT_init_41 : decode bT_init 41 = .ok (.bipush 16, 2) := by decide +kernel
theorem dT_init_43 : decode bT_init 43 = .ok (.if_icmp .ge 16, 3) := by decide +kernel
theorem dT_init_46 : decode bT_init 46 = .ok (.aload_n 0, 1) := by decide +kernel
theorem dT_init_47 : decode bT_init 47 = .ok (.getfield 9, 3) := by decide +kernel
theorem dT_init_50 : decode bT_init 50 = .ok (.iload_n 1, 1) := by decide +kernel
theorem dT_init_51 : decode bT_init 51 = .ok (.iload_n 1, 1) := by decide +kernel
theorem dT_init_52 : decode bT_init 52 = .ok (.iastore, 1) := by decide +kernel
theorem dT_init_53 : decode bT_init 53 = .ok (.iinc 1 1, 3) := by decide +kernel
theorem dT_init_56 : decode bT_init 56 = .ok (.goto (-16), 3) := by decide +kernel
theorem dT_init_59 : decode bT_init 59 = .ok (.return_, 1) := by decide +kernel
theorem dT_startWith_0 : decode bT_startWith 0 = .ok (.iload_n 1, 1) := by decide +kernel
theorem dT_startWith_1 : decode bT_startWith 1 = .ok (.iconst 1, 1) := by decide +kernel
theorem dT_startWith_2 : decode bT_startWith 2 = .ok (.if_icmp .lt 8, 3) := by decide +kernel
theorem dT_startWith_5 : decode bT_startWith 5 = .ok (.iload_n 1, 1) := by decide +kernel
theorem dT_startWith_6 : decode bT_startWith 6 = .ok (.iconst 4, 1) := by decide +kernel
theorem dT_startWith_7 : decode bT_startWith 7 = .ok (.if_icmp .le 5, 3) := by decide +kernel
theorem dT_startWith_10 : decode bT_startWith 10 = .ok (.iconst 0, 1) := by decide +kernel
theorem dT_startWith_11 : decode bT_startWith 11 = .ok (.ireturn, 1) := by decide +kernel
theorem dT_startWith_12 : decode bT_startWith 12 = .ok (.aload_n 0, 1) := by decide +kernel
theorem dT_startWith_13 : decode bT_startWith 13 = .ok (.iload_n 1, 1) := by decide +kernel
theorem dT_startWith_14 : decode bT_startWith 14 = .ok (.putfield 21, 3) := by decide +kernel
theorem dT_startWith_17 : decode bT_startWith 17 = .ok (.aload_n 0, 1) := by decide +kernel
theorem dT_startWith_18 : decode bT_startWith 18 = .ok (.iconst 1, 1) := by decide +kernel
theorem dT_startWith_19 : decode bT_startWith 19 = .ok (.iload_n 1, 1) := by decide +kernel
theorem dT_startWith_20 : decode bT_startWith 20 = .ok (.ishl, 1) := by decide +kernel
theorem dT_startWith_21 : decode bT_startWith 21 = .ok (.putfield 25, 3) := by decide +kernel
theorem dT_startWith_24 : decode bT_startWith 24 = .ok (.iconst 0, 1) := by decide +kernel
theorem dT_startWith_25 : decode bT_startWith 25 = .ok (.istore_n 2, 1) := by decide +kernel
theorem dT_startWith_26 : decode bT_startWith 26 = .ok (.iload_n 2, 1) := by decide +kernel
theorem dT_startWith_27 : decode bT_startWith 27 = .ok (.bipush 16, 2) := by decide +kernel
theorem dT_startWith_29 : decode bT_startWith 29 = .ok (.if_icmp .ge 16, 3) := by decide +kernel
theorem dT_startWith_32 : decode bT_startWith 32 = .ok (.aload_n 0, 1) := by decide +kernel
theorem dT_startWith_33 : decode bT_startWith 33 = .ok (.getfield 9, 3) := by decide +kernel
theorem dT_startWith_36 : decode bT_startWith 36 = .ok (.iload_n 2, 1) := by decide +kernel
theorem dT_startWith_37 : decode bT_startWith 37 = .ok (.iload_n 2, 1) := by decide +kernel
theorem dT_startWith_38 : decode bT_startWith 38 = .ok (.iastore, 1) := by decide +kernel
theorem dT_startWith_39 : decode bT_startWith 39 = .ok (.iinc 2 1, 3) := by decide +kernel
theorem dT_startWith_42 : decode bT_startWith 42 = .ok (.goto (-16), 3) := by decide +kernel
theorem dT_startWith_45 : decode bT_startWith 45 = .ok (.iconst 1, 1) := by decide +kernel
theorem dT_startWith_46 : decode bT_startWith 46 = .ok (.ireturn, 1) := by decide +kernel
theorem dT_set_0 : decode bT_set 0 = .ok (.aload_n 0, 1) := by decide +kernel
theorem dT_set_1 : decode bT_set 1 = .ok (.iload_n 1, 1) := by decide +kernel
theorem dT_set_2 : decode bT_set 2 = .ok (.invokevirtual 28, 3) := by decide +kernel
theorem dT_set_5 : decode bT_set 5 = .ok (.ifCond .eq 11, 3) := by decide +kernel
theorem dT_set_8 : decode bT_set 8 = .ok (.aload_n 0, 1) := by decide +kernel
theorem dT_set_9 : decode bT_set 9 = .ok (.iload_n 2, 1) := by decide +kernel
theorem dT_set_10 : decode bT_set 10 = .ok (.invokevirtual 28, 3) := by decide +kernel
theorem dT_set_13 : decode bT_set 13 = .ok (.ifCond .ne 5, 3) := by decide +kernel
theorem dT_set_16 : decode bT_set 16 = .ok (.iconst 0, 1) := by decide +kernel
theorem dT_set_17 : decode bT_set 17 = .ok (.ireturn, 1) := by decide +kernel
theorem dT_set_18 : decode bT_set 18 = .ok (.aload_n 0, 1) := by decide +kernel
theorem dT_set_19 : decode bT_set 19 = .ok (.getfield 9, 3) := by decide +kernel
theorem dT_set_22 : decode bT_set 22 = .ok (.iload_n 1, 1) := by decide +kernel
theorem dT_set_23 : decode bT_set 23 = .ok (.iload_n 2, 1) := by decide +kernel
theorem dT_set_24 : decode bT_set 24 = .ok (.iastore, 1) := by decide +kernel
theorem dT_set_25 : decode bT_set 25 = .ok (.iconst 1, 1) := by decide +kernel
theorem dT_set_26 : decode bT_set 26 = .ok (.ireturn, 1) := by decide +kernel
theorem dT_hasValue_0 : decode bT_hasValue 0 = .ok (.iload_n 1, 1) := by decide +kernel
theorem dT_hasValue_1 : decode bT_hasValue 1 = .ok (.ifCond .lt 15, 3) := by decide +kernel
theorem dT_hasValue_4 : decode bT_hasValue 4 = .ok (.iload_n 1, 1) := by decide +kernel
theorem dT_hasValue_5 : decode bT_hasValue 5 = .ok (.aload_n 0, 1) := by decide +kernel
theorem dT_hasValue_6 : decode bT_hasValue 6 = .ok (.getfield 25, 3) := by decide +kernel
theorem dT_hasValue_9 : decode bT_hasValue 9 = .ok (.if_icmp .ge 7, 3) := by decide +kernel
theorem dT_hasValue_12 : decode bT_hasValue 12 = .ok (.iconst 1, 1) := by decide +kernel
theorem dT_hasValue_13 : decode bT_hasValue 13 = .ok (.goto 4, 3) := by decide +kernel
theorem dT_hasValue_16 : decode bT_hasValue 16 = .ok (.iconst 0, 1) := by decide +kernel
theorem dT_hasValue_17 : decode bT_hasValue 17 = .ok (.ireturn, 1) := by decide +kernel
theorem dT_change_0 : decode bT_change 0 = .ok (.aload_n 0, 1) := by decide +kernel
theorem dT_change_1 : decode bT_change 1 = .ok (.iload_n 1, 1) := by decide +kernel
theorem dT_change_2 : decode bT_change 2 = .ok (.invokevirtual 32, 3) := by decide +kernel
theorem dT_change_5 : decode bT_change 5 = .ok (.ifCond .ne 5, 3) := by decide +kernel
theorem dT_change_8 : decode bT_change 8 = .ok (.iconst 0, 1) := by decide +kernel
theorem dT_change_9 : decode bT_change 9 = .ok (.ireturn, 1) := by decide +kernel
theorem dT_change_10 : decode bT_change 10 = .ok (.aload_n 0, 1) := by decide +kernel
theorem dT_change_11 : decode bT_change 11 = .ok (.aload_n 0, 1) := by decide +kernel
theorem dT_change_12 : decode bT_change 12 = .ok (.getfield 9, 3) := by decide +kernel
theorem dT_change_15 : decode bT_change 15 = .ok (.iload_n 1, 1) := by decide +kernel
theorem dT_change_16 : decode bT_change 16 = .ok (.invokevirtual 35, 3) := by decide +kernel
theorem dT_change_19 : decode bT_change 19 = .ok (.iconst 1, 1) := by decide +kernel
theorem dT_change_20 : decode bT_change 20 = .ok (.ireturn, 1) := by decide +kernel
theorem dT_hasGate_0 : decode bT_hasGate 0 = .ok (.iload_n 1, 1) := by decide +kernel
theorem dT_hasGate_1 : decode bT_hasGate 1 = .ok (.ifCond .ge 5, 3) := by decide +kernel
theorem dT_hasGate_4 : decode bT_hasGate 4 = .ok (.iconst 0, 1) := by decide +kernel
theorem dT_hasGate_5 : decode bT_hasGate 5 = .ok (.ireturn, 1) := by decide +kernel
theorem dT_hasGate_6 : decode bT_hasGate 6 = .ok (.iload_n 1, 1) := by decide +kernel
theorem dT_hasGate_7 : decode bT_hasGate 7 = .ok (.iconst 4, 1) := by decide +kernel
theorem dT_hasGate_8 : decode bT_hasGate 8 = .ok (.ishr, 1) := by decide +kernel
theorem dT_hasGate_9 : decode bT_hasGate 9 = .ok (.istore_n 2, 1) := by decide +kernel
theorem dT_hasGate_10 : decode bT_hasGate 10 = .ok (.iload_n 1, 1) := by decide +kernel
theorem dT_hasGate_11 : decode bT_hasGate 11 = .ok (.bipush 15, 2) := by decide +kernel
theorem dT_hasGate_13 : decode bT_hasGate 13 = .ok (.iand, 1) := by decide +kernel
theorem dT_hasGate_14 : decode bT_hasGate 14 = .ok (.istore_n 3, 1) := by decide +kernel
theorem dT_hasGate_15 : decode bT_hasGate 15 = .ok (.iload_n 2, 1) := by decide +kernel
theorem dT_hasGate_16 : decode bT_hasGate 16 = .ok (.aload_n 0, 1) := by decide +kernel
theorem dT_hasGate_17 : decode bT_hasGate 17 = .ok (.getfield 21, 3) := by decide +kernel
theorem dT_hasGate_20 : decode bT_hasGate 20 = .ok (.if_icmp .ge 23, 3) := by decide +kernel
theorem dT_hasGate_23 : decode bT_hasGate 23 = .ok (.iload_n 3, 1) := by decide +kernel
theorem dT_hasGate_24 : decode bT_hasGate 24 = .ok (.aload_n 0, 1) := by decide +kernel
theorem dT_hasGate_25 : decode bT_hasGate 25 = .ok (.getfield 25, 3) := by decide +kernel
theorem dT_hasGate_28 : decode bT_hasGate 28 = .ok (.if_icmp .ge 15, 3) := by decide +kernel
theorem dT_hasGate_31 : decode bT_hasGate 31 = .ok (.iload_n 3, 1) := by decide +kernel
theorem dT_hasGate_32 : decode bT_hasGate 32 = .ok (.iload_n 2, 1) := by decide +kernel
theorem dT_hasGate_33 : decode bT_hasGate 33 = .ok (.ishr, 1) := by decide +kernel
theorem dT_hasGate_34 : decode bT_hasGate 34 = .ok (.iconst 1, 1) := by decide +kernel
theorem dT_hasGate_35 : decode bT_hasGate 35 = .ok (.iand, 1) := by decide +kernel
theorem dT_hasGate_36 : decode bT_hasGate 36 = .ok (.ifCond .ne 7, 3) := by decide +kernel
theorem dT_hasGate_39 : decode bT_hasGate 39 = .ok (.iconst 1, 1) := by decide +kernel
theorem dT_hasGate_40 : decode bT_hasGate 40 = .ok (.goto 4, 3) := by decide +kernel
theorem dT_hasGate_43 : decode bT_hasGate 43 = .ok (.iconst 0, 1) := by decide +kernel
theorem dT_hasGate_44 : decode bT_hasGate 44 = .ok (.ireturn, 1) := by decide +kernel
theorem dT_changeAll_0 : decode bT_changeAll 0 = .ok (.iconst 1, 1) := by decide +kernel
theorem dT_changeAll_1 : decode bT_changeAll 1 = .ok (.iload_n 2, 1) := by decide +kernel
theorem dT_changeAll_2 : decode bT_changeAll 2 = .ok (.iconst 4, 1) := by decide +kernel
theorem dT_changeAll_3 : decode bT_changeAll 3 = .ok (.ishr, 1) := by decide +kernel
theorem dT_changeAll_4 : decode bT_changeAll 4 = .ok (.ishl, 1) := by decide +kernel
theorem dT_changeAll_5 : decode bT_changeAll 5 = .ok (.istore_n 3, 1) := by decide +kernel
theorem dT_changeAll_6 : decode bT_changeAll 6 = .ok (.iload_n 2, 1) := by decide +kernel
theorem dT_changeAll_7 : decode bT_changeAll 7 = .ok (.bipush 15, 2) := by decide +kernel
theorem dT_changeAll_9 : decode bT_changeAll 9 = .ok (.iand, 1) := by decide +kernel
theorem dT_changeAll_10 : decode bT_changeAll 10 = .ok (.istore 4, 2) := by decide +kernel
theorem dT_changeAll_12 : decode bT_changeAll 12 = .ok (.iconst 0, 1) := by decide +kernel
theorem dT_changeAll_13 : decode bT_changeAll 13 = .ok (.istore 5, 2) := by decide +kernel
theorem dT_changeAll_15 : decode bT_changeAll 15 = .ok (.iload 5, 2) := by decide +kernel
theorem dT_changeAll_17 : decode bT_changeAll 17 = .ok (.aload_n 0, 1) := by decide +kernel
theorem dT_changeAll_18 : decode bT_changeAll 18 = .ok (.getfield 25, 3) := by decide +kernel
theorem dT_changeAll_21 : decode bT_changeAll 21 = .ok (.if_icmp .ge 29, 3) := by decide +kernel
theorem dT_changeAll_24 : decode bT_changeAll 24 = .ok (.aload_n 1, 1) := by decide +kernel
theorem dT_changeAll_25 : decode bT_changeAll 25 = .ok (.iload 5, 2) := by decide +kernel
theorem dT_changeAll_27 : decode bT_changeAll 27 = .ok (.iaload, 1) := by decide +kernel
theorem dT_changeAll_28 : decode bT_changeAll 28 = .ok (.iload 4, 2) := by decide +kernel
theorem dT_changeAll_30 : decode bT_changeAll 30 = .ok (.iand, 1) := by decide +kernel
theorem dT_changeAll_31 : decode bT_changeAll 31 = .ok (.iload 4, 2) := by decide +kernel
theorem dT_changeAll_33 : decode bT_changeAll 33 = .ok (.if_icmp .ne 11, 3) := by decide +kernel
theorem dT_changeAll_36 : decode bT_changeAll 36 = .ok (.aload_n 1, 1) := by decide +kernel
theorem dT_changeAll_37 : decode bT_changeAll 37 = .ok (.iload 5, 2) := by decide +kernel
theorem dT_changeAll_39 : decode bT_changeAll 39 = .ok (.dup2, 1) := by decide +kernel
theorem dT_changeAll_40 : decode bT_changeAll 40 = .ok (.iaload, 1) := by decide +kernel
theorem dT_changeAll_41 : decode bT_changeAll 41 = .ok (.iload_n 3, 1) := by decide +kernel
theorem dT_changeAll_42 : decode bT_changeAll 42 = .ok (.ixor, 1) := by decide +kernel
theorem dT_changeAll_43 : decode bT_changeAll 43 = .ok (.iastore, 1) := by decide +kernel
theorem dT_changeAll_44 : decode bT_changeAll 44 = .ok (.iinc 5 1, 3) := by decide +kernel
theorem dT_changeAll_47 : decode bT_changeAll 47 = .ok (.goto (-32), 3) := by decide +kernel
theorem dT_changeAll_50 : decode bT_changeAll 50 = .ok (.return_, 1) := by decide +kernel
theorem dT_isPermutation_0 : decode bT_isPermutation 0 = .ok (.iconst 0, 1) := by decide +kernel
theorem dT_isPermutation_1 : decode bT_isPermutation 1 = .ok (.istore_n 1, 1) := by decide +kernel
theorem dT_isPermutation_2 : decode bT_isPermutation 2 = .ok (.iconst 0, 1) := by decide +kernel
theorem dT_isPermutation_3 : decode bT_isPermutation 3 = .ok (.istore_n 2, 1) := by decide +kernel
theorem dT_isPermutation_4 : decode bT_isPermutation 4 = .ok (.iload_n 2, 1) := by decide +kernel
theorem dT_isPermutation_5 : decode bT_isPermutation 5 = .ok (.aload_n 0, 1) := by decide +kernel
theorem dT_isPermutation_6 : decode bT_isPermutation 6 = .ok (.getfield 25, 3) := by decide +kernel
theorem dT_isPermutation_9 : decode bT_isPermutation 9 = .ok (.if_icmp .ge 20, 3) := by decide +kernel
theorem dT_isPermutation_12 : decode bT_isPermutation 12 = .ok (.iload_n 1, 1) := by decide +kernel
theorem dT_isPermutation_13 : decode bT_isPermutation 13 = .ok (.iconst 1, 1) := by decide +kernel
theorem dT_isPermutation_14 : decode bT_isPermutation 14 = .ok (.aload_n 0, 1) := by decide +kernel
theorem dT_isPermutation_15 : decode bT_isPermutation 15 = .ok (.getfield 9, 3) := by decide +kernel
theorem dT_isPermutation_18 : decode bT_isPermutation 18 = .ok (.iload_n 2, 1) := by decide +kernel
theorem dT_isPermutation_19 : decode bT_isPermutation 19 = .ok (.iaload, 1) := by decide +kernel
theorem dT_isPermutation_20 : decode bT_isPermutation 20 = .ok (.ishl, 1) := by decide +kernel
theorem dT_isPermutation_21 : decode bT_isPermutation 21 = .ok (.ior, 1) := by decide +kernel
theorem dT_isPermutation_22 : decode bT_isPermutation 22 = .ok (.istore_n 1, 1) := by decide +kernel
theorem dT_isPermutation_23 : decode bT_isPermutation 23 = .ok (.iinc 2 1, 3) := by decide +kernel
theorem dT_isPermutation_26 : decode bT_isPermutation 26 = .ok (.goto (-22), 3) := by decide +kernel
theorem dT_isPermutation_29 : decode bT_isPermutation 29 = .ok (.iload_n 1, 1) := by decide +kernel
theorem dT_isPermutation_30 : decode bT_isPermutation 30 = .ok (.iconst 1, 1) := by decide +kernel
theorem dT_isPermutation_31 : decode bT_isPermutation 31 = .ok (.aload_n 0, 1) := by decide +kernel
theorem dT_isPermutation_32 : decode bT_isPermutation 32 = .ok (.getfield 25, 3) := by decide +kernel
theorem dT_isPermutation_35 : decode bT_isPermutation 35 = .ok (.ishl, 1) := by decide +kernel
theorem dT_isPermutation_36 : decode bT_isPermutation 36 = .ok (.iconst 1, 1) := by decide +kernel
theorem dT_isPermutation_37 : decode bT_isPermutation 37 = .ok (.isub, 1) := by decide +kernel
theorem dT_isPermutation_38 : decode bT_isPermutation 38 = .ok (.if_icmp .ne 7, 3) := by decide +kernel
theorem dT_isPermutation_41 : decode bT_isPermutation 41 = .ok (.iconst 1, 1) := by decide +kernel
theorem dT_isPermutation_42 : decode bT_isPermutation 42 = .ok (.goto 4, 3) := by decide +kernel
theorem dT_isPermutation_45 : decode bT_isPermutation 45 = .ok (.iconst 0, 1) := by decide +kernel
theorem dT_isPermutation_46 : decode bT_isPermutation 46 = .ok (.ireturn, 1) := by decide +kernel
theorem dT_findGates_0 : decode bT_findGates 0 = .ok (.aload_n 0, 1) := by decide +kernel
theorem dT_findGates_1 : decode bT_findGates 1 = .ok (.iconst 0, 1) := by decide +kernel
theorem dT_findGates_2 : decode bT_findGates 2 = .ok (.putfield 39, 3) := by decide +kernel
theorem dT_findGates_5 : decode bT_findGates 5 = .ok (.iconst 0, 1) := by decide +kernel
theorem dT_findGates_6 : decode bT_findGates 6 = .ok (.istore_n 1, 1) := by decide +kernel
theorem dT_findGates_7 : decode bT_findGates 7 = .ok (.iload_n 1, 1) := by decide +kernel
theorem dT_findGates_8 : decode bT_findGates 8 = .ok (.aload_n 0, 1) := by decide +kernel
theorem dT_findGates_9 : decode bT_findGates 9 = .ok (.getfield 25, 3) := by decide +kernel
theorem dT_findGates_12 : decode bT_findGates 12 = .ok (.if_icmp .ge 21, 3) := by decide +kernel
theorem dT_findGates_15 : decode bT_findGates 15 = .ok (.aload_n 0, 1) := by decide +kernel
theorem dT_findGates_16 : decode bT_findGates 16 = .ok (.getfield 15, 3) := by decide +kernel
theorem dT_findGates_19 : decode bT_findGates 19 = .ok (.iload_n 1, 1) := by decide +kernel
theorem dT_findGates_20 : decode bT_findGates 20 = .ok (.aload_n 0, 1) := by decide +kernel
theorem dT_findGates_21 : decode bT_findGates 21 = .ok (.getfield 9, 3) := by decide +kernel
theorem dT_findGates_24 : decode bT_findGates 24 = .ok (.iload_n 1, 1) := by decide +kernel
theorem dT_findGates_25 : decode bT_findGates 25 = .ok (.iaload, 1) := by decide +kernel
theorem dT_findGates_26 : decode bT_findGates 26 = .ok (.iastore, 1) := by decide +kernel
theorem dT_findGates_27 : decode bT_findGates 27 = .ok (.iinc 1 1, 3) := by decide +kernel
theorem dT_findGates_30 : decode bT_findGates 30 = .ok (.goto (-23), 3) := by decide +kernel
theorem dT_findGates_33 : decode bT_findGates 33 = .ok (.iconst 0, 1) := by decide +kernel
theorem dT_findGates_34 : decode bT_findGates 34 = .ok (.istore_n 1, 1) := by decide +kernel
theorem dT_findGates_35 : decode bT_findGates 35 = .ok (.iload_n 1, 1) := by decide +kernel
theorem dT_findGates_36 : decode bT_findGates 36 = .ok (.aload_n 0, 1) := by decide +kernel
theorem dT_findGates_37 : decode bT_findGates 37 = .ok (.getfield 25, 3) := by decide +kernel
theorem dT_findGates_40 : decode bT_findGates 40 = .ok (.if_icmp .ge 14, 3) := by decide +kernel
theorem dT_findGates_43 : decode bT_findGates 43 = .ok (.aload_n 0, 1) := by decide +kernel
theorem dT_findGates_44 : decode bT_findGates 44 = .ok (.iload_n 1, 1) := by decide +kernel
theorem dT_findGates_45 : decode bT_findGates 45 = .ok (.invokevirtual 42, 3) := by decide +kernel
theorem dT_findGates_48 : decode bT_findGates 48 = .ok (.iinc 1 1, 3) := by decide +kernel
theorem dT_findGates_51 : decode bT_findGates 51 = .ok (.goto (-16), 3) := by decide +kernel
theorem dT_findGates_54 : decode bT_findGates 54 = .ok (.aload_n 0, 1) := by decide +kernel
theorem dT_findGates_55 : decode bT_findGates 55 = .ok (.getfield 39, 3) := by decide +kernel
theorem dT_findGates_58 : decode bT_findGates 58 = .ok (.ireturn, 1) := by decide +kernel
theorem dT_settleRow_0 : decode bT_settleRow 0 = .ok (.iconst 0, 1) := by decide +kernel
theorem dT_settleRow_1 : decode bT_settleRow 1 = .ok (.istore_n 2, 1) := by decide +kernel
theorem dT_settleRow_2 : decode bT_settleRow 2 = .ok (.iload_n 2, 1) := by decide +kernel
theorem dT_settleRow_3 : decode bT_settleRow 3 = .ok (.aload_n 0, 1) := by decide +kernel
theorem dT_settleRow_4 : decode bT_settleRow 4 = .ok (.getfield 21, 3) := by decide +kernel
theorem dT_settleRow_7 : decode bT_settleRow 7 = .ok (.if_icmp .ge 40, 3) := by decide +kernel
theorem dT_settleRow_10 : decode bT_settleRow 10 = .ok (.iload_n 1, 1) := by decide +kernel
theorem dT_settleRow_11 : decode bT_settleRow 11 = .ok (.aload_n 0, 1) := by decide +kernel
theorem dT_settleRow_12 : decode bT_settleRow 12 = .ok (.getfield 15, 3) := by decide +kernel
theorem dT_settleRow_15 : decode bT_settleRow 15 = .ok (.iload_n 1, 1) := by decide +kernel
theorem dT_settleRow_16 : decode bT_settleRow 16 = .ok (.iaload, 1) := by decide +kernel
theorem dT_settleRow_17 : decode bT_settleRow 17 = .ok (.iconst (-1), 1) := by decide +kernel
theorem dT_settleRow_18 : decode bT_settleRow 18 = .ok (.ixor, 1) := by decide +kernel
theorem dT_settleRow_19 : decode bT_settleRow 19 = .ok (.iand, 1) := by decide +kernel
theorem dT_settleRow_20 : decode bT_settleRow 20 = .ok (.iconst 1, 1) := by decide +kernel
theorem dT_settleRow_21 : decode bT_settleRow 21 = .ok (.iload_n 2, 1) := by decide +kernel
theorem dT_settleRow_22 : decode bT_settleRow 22 = .ok (.ishl, 1) := by decide +kernel
theorem dT_settleRow_23 : decode bT_settleRow 23 = .ok (.iand, 1) := by decide +kernel
theorem dT_settleRow_24 : decode bT_settleRow 24 = .ok (.ifCond .eq 17, 3) := by decide +kernel
theorem dT_settleRow_27 : decode bT_settleRow 27 = .ok (.aload_n 0, 1) := by decide +kernel
theorem dT_settleRow_28 : decode bT_settleRow 28 = .ok (.iload_n 2, 1) := by decide +kernel
theorem dT_settleRow_29 : decode bT_settleRow 29 = .ok (.iconst 4, 1) := by decide +kernel
theorem dT_settleRow_30 : decode bT_settleRow 30 = .ok (.ishl, 1) := by decide +kernel
theorem dT_settleRow_31 : decode bT_settleRow 31 = .ok (.aload_n 0, 1) := by decide +kernel
theorem dT_settleRow_32 : decode bT_settleRow 32 = .ok (.getfield 15, 3) := by decide +kernel
theorem dT_settleRow_35 : decode bT_settleRow 35 = .ok (.iload_n 1, 1) := by decide +kernel
theorem dT_settleRow_36 : decode bT_settleRow 36 = .ok (.iaload, 1) := by decide +kernel
theorem dT_settleRow_37 : decode bT_settleRow 37 = .ok (.ior, 1) := by decide +kernel
theorem dT_settleRow_38 : decode bT_settleRow 38 = .ok (.invokevirtual 46, 3) := by decide +kernel
theorem dT_settleRow_41 : decode bT_settleRow 41 = .ok (.iinc 2 1, 3) := by decide +kernel
theorem dT_settleRow_44 : decode bT_settleRow 44 = .ok (.goto (-42), 3) := by decide +kernel
theorem dT_settleRow_47 : decode bT_settleRow 47 = .ok (.iconst 0, 1) := by decide +kernel
theorem dT_settleRow_48 : decode bT_settleRow 48 = .ok (.istore_n 2, 1) := by decide +kernel
theorem dT_settleRow_49 : decode bT_settleRow 49 = .ok (.iload_n 2, 1) := by decide +kernel
theorem dT_settleRow_50 : decode bT_settleRow 50 = .ok (.aload_n 0, 1) := by decide +kernel
theorem dT_settleRow_51 : decode bT_settleRow 51 = .ok (.getfield 21, 3) := by decide +kernel
theorem dT_settleRow_54 : decode bT_settleRow 54 = .ok (.if_icmp .ge 35, 3) := by decide +kernel
theorem dT_settleRow_57 : decode bT_settleRow 57 = .ok (.aload_n 0, 1) := by decide +kernel
theorem dT_settleRow_58 : decode bT_settleRow 58 = .ok (.getfield 15, 3) := by decide +kernel
theorem dT_settleRow_61 : decode bT_settleRow 61 = .ok (.iload_n 1, 1) := by decide +kernel
theorem dT_settleRow_62 : decode bT_settleRow 62 = .ok (.iaload, 1) := by decide +kernel
theorem dT_settleRow_63 : decode bT_settleRow 63 = .ok (.iload_n 1, 1) := by decide +kernel
theorem dT_settleRow_64 : decode bT_settleRow 64 = .ok (.iconst (-1), 1) := by decide +kernel
theorem dT_settleRow_65 : decode bT_settleRow 65 = .ok (.ixor, 1) := by decide +kernel
theorem dT_settleRow_66 : decode bT_settleRow 66 = .ok (.iand, 1) := by decide +kernel
theorem dT_settleRow_67 : decode bT_settleRow 67 = .ok (.iconst 1, 1) := by decide +kernel
theorem dT_settleRow_68 : decode bT_settleRow 68 = .ok (.iload_n 2, 1) := by decide +kernel
theorem dT_settleRow_69 : decode bT_settleRow 69 = .ok (.ishl, 1) := by decide +kernel
theorem dT_settleRow_70 : decode bT_settleRow 70 = .ok (.iand, 1) := by decide +kernel
theorem dT_settleRow_71 : decode bT_settleRow 71 = .ok (.ifCond .eq 12, 3) := by decide +kernel
theorem dT_settleRow_74 : decode bT_settleRow 74 = .ok (.aload_n 0, 1) := by decide +kernel
theorem dT_settleRow_75 : decode bT_settleRow 75 = .ok (.iload_n 2, 1) := by decide +kernel
theorem dT_settleRow_76 : decode bT_settleRow 76 = .ok (.iconst 4, 1) := by decide +kernel
theorem dT_settleRow_77 : decode bT_settleRow 77 = .ok (.ishl, 1) := by decide +kernel
theorem dT_settleRow_78 : decode bT_settleRow 78 = .ok (.iload_n 1, 1) := by decide +kernel
theorem dT_settleRow_79 : decode bT_settleRow 79 = .ok (.ior, 1) := by decide +kernel
theorem dT_settleRow_80 : decode bT_settleRow 80 = .ok (.invokevirtual 46, 3) := by decide +kernel
theorem dT_settleRow_83 : decode bT_settleRow 83 = .ok (.iinc 2 1, 3) := by decide +kernel
theorem dT_settleRow_86 : decode bT_settleRow 86 = .ok (.goto (-37), 3) := by decide +kernel
theorem dT_settleRow_89 : decode bT_settleRow 89 = .ok (.return_, 1) := by decide +kernel
theorem dT_useGate_0 : decode bT_useGate 0 = .ok (.aload_n 0, 1) := by decide +kernel
theorem dT_useGate_1 : decode bT_useGate 1 = .ok (.aload_n 0, 1) := by decide +kernel
theorem dT_useGate_2 : decode bT_useGate 2 = .ok (.getfield 15, 3) := by decide +kernel
theorem dT_useGate_5 : decode bT_useGate 5 = .ok (.iload_n 1, 1) := by decide +kernel
theorem dT_useGate_6 : decode bT_useGate 6 = .ok (.invokevirtual 35, 3) := by decide +kernel
theorem dT_useGate_9 : decode bT_useGate 9 = .ok (.aload_n 0, 1) := by decide +kernel
theorem dT_useGate_10 : decode bT_useGate 10 = .ok (.getfield 39, 3) := by decide +kernel
theorem dT_useGate_13 : decode bT_useGate 13 = .ok (.bipush 64, 2) := by decide +kernel
theorem dT_useGate_15 : decode bT_useGate 15 = .ok (.if_icmp .ge 23, 3) := by decide +kernel
theorem dT_useGate_18 : decode bT_useGate 18 = .ok (.aload_n 0, 1) := by decide +kernel
theorem dT_useGate_19 : decode bT_useGate 19 = .ok (.getfield 18, 3) := by decide +kernel
theorem dT_useGate_22 : decode bT_useGate 22 = .ok (.aload_n 0, 1) := by decide +kernel
theorem dT_useGate_23 : decode bT_useGate 23 = .ok (.getfield 39, 3) := by decide +kernel
theorem dT_useGate_26 : decode bT_useGate 26 = .ok (.iload_n 1, 1) := by decide +kernel
theorem dT_useGate_27 : decode bT_useGate 27 = .ok (.iastore, 1) := by decide +kernel
theorem dT_useGate_28 : decode bT_useGate 28 = .ok (.aload_n 0, 1) := by decide +kernel
theorem dT_useGate_29 : decode bT_useGate 29 = .ok (.dup, 1) := by decide +kernel
theorem dT_useGate_30 : decode bT_useGate 30 = .ok (.getfield 39, 3) := by decide +kernel
theorem dT_useGate_33 : decode bT_useGate 33 = .ok (.iconst 1, 1) := by decide +kernel
theorem dT_useGate_34 : decode bT_useGate 34 = .ok (.iadd, 1) := by decide +kernel
theorem dT_useGate_35 : decode bT_useGate 35 = .ok (.putfield 39, 3) := by decide +kernel
theorem dT_useGate_38 : decode bT_useGate 38 = .ok (.return_, 1) := by decide +kernel
theorem dT_foundFromLast_0 : decode bT_foundFromLast 0 = .ok (.iload_n 1, 1) := by decide +kernel
theorem dT_foundFromLast_1 : decode bT_foundFromLast 1 = .ok (.ifCond .lt 27, 3) := by decide +kernel
theorem dT_foundFromLast_4 : decode bT_foundFromLast 4 = .ok (.iload_n 1, 1) := by decide +kernel
theorem dT_foundFromLast_5 : decode bT_foundFromLast 5 = .ok (.aload_n 0, 1) := by decide +kernel
theorem dT_foundFromLast_6 : decode bT_foundFromLast 6 = .ok (.getfield 39, 3) := by decide +kernel
theorem dT_foundFromLast_9 : decode bT_foundFromLast 9 = .ok (.if_icmp .ge 19, 3) := by decide +kernel
theorem dT_foundFromLast_12 : decode bT_foundFromLast 12 = .ok (.aload_n 0, 1) := by decide +kernel
theorem dT_foundFromLast_13 : decode bT_foundFromLast 13 = .ok (.getfield 18, 3) := by decide +kernel
theorem dT_foundFromLast_16 : decode bT_foundFromLast 16 = .ok (.aload_n 0, 1) := by decide +kernel
theorem dT_foundFromLast_17 : decode bT_foundFromLast 17 = .ok (.getfield 39, 3) := by decide +kernel
theorem dT_foundFromLast_20 : decode bT_foundFromLast 20 = .ok (.iconst 1, 1) := by decide +kernel
theorem dT_foundFromLast_21 : decode bT_foundFromLast 21 = .ok (.isub, 1) := by decide +kernel
theorem dT_foundFromLast_22 : decode bT_foundFromLast 22 = .ok (.iload_n 1, 1) := by decide +kernel
theorem dT_foundFromLast_23 : decode bT_foundFromLast 23 = .ok (.isub, 1) := by decide +kernel
theorem dT_foundFromLast_24 : decode bT_foundFromLast 24 = .ok (.iaload, 1) := by decide +kernel
theorem dT_foundFromLast_25 : decode bT_foundFromLast 25 = .ok (.goto 4, 3) := by decide +kernel
theorem dT_foundFromLast_28 : decode bT_foundFromLast 28 = .ok (.iconst (-1), 1) := by decide +kernel
theorem dT_foundFromLast_29 : decode bT_foundFromLast 29 = .ok (.ireturn, 1) := by decide +kernel
theorem dT_get_0 : decode bT_get 0 = .ok (.aload_n 0, 1) := by decide +kernel
theorem dT_get_1 : decode bT_get 1 = .ok (.iload_n 1, 1) := by decide +kernel
theorem dT_get_2 : decode bT_get 2 = .ok (.invokevirtual 28, 3) := by decide +kernel
theorem dT_get_5 : decode bT_get 5 = .ok (.ifCond .eq 12, 3) := by decide +kernel
theorem dT_get_8 : decode bT_get 8 = .ok (.aload_n 0, 1) := by decide +kernel
theorem dT_get_9 : decode bT_get 9 = .ok (.getfield 9, 3) := by decide +kernel
theorem dT_get_12 : decode bT_get 12 = .ok (.iload_n 1, 1) := by decide +kernel
theorem dT_get_13 : decode bT_get 13 = .ok (.iaload, 1) := by decide +kernel
theorem dT_get_14 : decode bT_get 14 = .ok (.goto 4, 3) := by decide +kernel
theorem dT_get_17 : decode bT_get 17 = .ok (.iconst (-1), 1) := by decide +kernel
theorem dT_get_18 : decode bT_get 18 = .ok (.ireturn, 1) := by decide +kernel
theorem dT_bitCount_0 : decode bT_bitCount 0 = .ok (.aload_n 0, 1) := by decide +kernel
theorem dT_bitCount_1 : decode bT_bitCount 1 = .ok (.getfield 21, 3) := by decide +kernel
theorem dT_bitCount_4 : decode bT_bitCount 4 = .ok (.ireturn, 1) := by decide +kernel
