theorem dS_init_0 : decode bS_init 0 = .ok (.aload_n 0, 1) := by decide +kernel
theorem dS_init_1 : decode bS_init 1 = .ok (.invokespecial 3, 3) := by decide +kernel
theorem dS_init_4 : decode bS_init 4 = .ok (.aload_n 0, 1) := by decide +kernel
theorem dS_init_5 : decode bS_init 5 = .ok (.iconst 1, 1) := by decide +kernel
theorem dS_init_6 : decode bS_init 6 = .ok (.putfield 9, 3) := by decide +kernel
theorem dS_init_9 : decode bS_init 9 = .ok (.aload_n 0, 1) := by decide +kernel
theorem dS_init_10 : decode bS_init 10 = .ok (.bipush 12, 2) := by decide +kernel
theorem dS_init_12 : decode bS_init 12 = .ok (.newarray .int, 2) := by decide +kernel
theorem dS_init_14 : decode bS_init 14 = .ok (.putfield 15, 3) := by decide +kernel
theorem dS_init_17 : decode bS_init 17 = .ok (.aload_n 0, 1) := by decide +kernel
theorem dS_init_18 : decode bS_init 18 = .ok (.bipush 13, 2) := by decide +kernel
theorem dS_init_20 : decode bS_init 20 = .ok (.anewarray 19, 3) := by decide +kernel
theorem dS_init_23 : decode bS_init 23 = .ok (.putfield 21, 3) := by decide +kernel
theorem dS_init_26 : decode bS_init 26 = .ok (.aload_n 0, 1) := by decide +kernel
theorem dS_init_27 : decode bS_init 27 = .ok (.new 19, 3) := by decide +kernel
theorem dS_init_30 : decode bS_init 30 = .ok (.dup, 1) := by decide +kernel
theorem dS_init_31 : decode bS_init 31 = .ok (.iconst 0, 1) := by decide +kernel
theorem dS_init_32 : decode bS_init 32 = .ok (.invokespecial 25, 3) := by decide +kernel
theorem dS_init_35 : decode bS_init 35 = .ok (.putfield 28, 3) := by decide +kernel
theorem dS_init_38 : decode bS_init 38 = .ok (.aload_n 0, 1) := by decide +kernel
theorem dS_init_39 : decode bS_init 39 = .ok (.iconst 0, 1) := by decide +kernel
theorem dS_init_40 : decode bS_init 40 = .ok (.newarray .int, 2) := by decide +kernel
theorem dS_init_42 : decode bS_init 42 = .ok (.putfield 32, 3) := by decide +kernel
theorem dS_init_45 : decode bS_init 45 = .ok (.aload_n 0, 1) := by decide +kernel
theorem dS_init_46 : decode bS_init 46 = .ok (.iconst 0, 1) := by decide +kernel
theorem dS_init_47 : decode bS_init 47 = .ok (.newarray .int, 2) := by decide +kernel
theorem dS_init_49 : decode bS_init 49 = .ok (.putfield 35, 3) := by decide +kernel
theorem dS_init_52 : decode bS_init 52 = .ok (.return_, 1) := by decide +kernel
theorem dS_startWith_0 : decode bS_startWith 0 = .ok (.iload_n 1, 1) := by decide +kernel
theorem dS_startWith_1 : decode bS_startWith 1 = .ok (.iconst 1, 1) := by decide +kernel
theorem dS_startWith_2 : decode bS_startWith 2 = .ok (.if_icmp .lt 9, 3) := by decide +kernel
theorem dS_startWith_5 : decode bS_startWith 5 = .ok (.iload_n 1, 1) := by decide +kernel
theorem dS_startWith_6 : decode bS_startWith 6 = .ok (.bipush 12, 2) := by decide +kernel
theorem dS_startWith_8 : decode bS_startWith 8 = .ok (.if_icmp .le 5, 3) := by decide +kernel
theorem dS_startWith_11 : decode bS_startWith 11 = .ok (.iconst 0, 1) := by decide +kernel
theorem dS_startWith_12 : decode bS_startWith 12 = .ok (.ireturn, 1) := by decide +kernel
theorem dS_startWith_13 : decode bS_startWith 13 = .ok (.aload_n 0, 1) := by decide +kernel
theorem dS_startWith_14 : decode bS_startWith 14 = .ok (.iload_n 1, 1) := by decide +kernel
theorem dS_startWith_15 : decode bS_startWith 15 = .ok (.putfield 9, 3) := by decide +kernel
theorem dS_startWith_18 : decode bS_startWith 18 = .ok (.iconst 0, 1) := by decide +kernel
theorem dS_startWith_19 : decode bS_startWith 19 = .ok (.istore_n 2, 1) := by decide +kernel
theorem dS_startWith_20 : decode bS_startWith 20 = .ok (.iload_n 2, 1) := by decide +kernel
theorem dS_startWith_21 : decode bS_startWith 21 = .ok (.bipush 12, 2) := by decide +kernel
theorem dS_startWith_23 : decode bS_startWith 23 = .ok (.if_icmp .ge 16, 3) := by decide +kernel
theorem dS_startWith_26 : decode bS_startWith 26 = .ok (.aload_n 0, 1) := by decide +kernel
theorem dS_startWith_27 : decode bS_startWith 27 = .ok (.getfield 15, 3) := by decide +kernel
theorem dS_startWith_30 : decode bS_startWith 30 = .ok (.iload_n 2, 1) := by decide +kernel
theorem dS_startWith_31 : decode bS_startWith 31 = .ok (.iconst 0, 1) := by decide +kernel
theorem dS_startWith_32 : decode bS_startWith 32 = .ok (.iastore, 1) := by decide +kernel
theorem dS_startWith_33 : decode bS_startWith 33 = .ok (.iinc 2 1, 3) := by decide +kernel
theorem dS_startWith_36 : decode bS_startWith 36 = .ok (.goto (-16), 3) := by decide +kernel
theorem dS_startWith_39 : decode bS_startWith 39 = .ok (.aload_n 0, 1) := by decide +kernel
theorem dS_startWith_40 : decode bS_startWith 40 = .ok (.invokevirtual 38, 3) := by decide +kernel
theorem dS_startWith_43 : decode bS_startWith 43 = .ok (.iconst 1, 1) := by decide +kernel
theorem dS_startWith_44 : decode bS_startWith 44 = .ok (.ireturn, 1) := by decide +kernel
theorem dS_forget_0 : decode bS_forget 0 = .ok (.iconst 0, 1) := by decide +kernel
theorem dS_forget_1 : decode bS_forget 1 = .ok (.istore_n 1, 1) := by decide +kernel
theorem dS_forget_2 : decode bS_forget 2 = .ok (.iload_n 1, 1) := by decide +kernel
theorem dS_forget_3 : decode bS_forget 3 = .ok (.bipush 12, 2) := by decide +kernel
theorem dS_forget_5 : decode bS_forget 5 = .ok (.if_icmp .gt 16, 3) := by decide +kernel
theorem dS_forget_8 : decode bS_forget 8 = .ok (.aload_n 0, 1) := by decide +kernel
theorem dS_forget_9 : decode bS_forget 9 = .ok (.getfield 21, 3) := by decide +kernel
theorem dS_forget_12 : decode bS_forget 12 = .ok (.iload_n 1, 1) := by decide +kernel
theorem dS_forget_13 : decode bS_forget 13 = .ok (.aconst_null, 1) := by decide +kernel
theorem dS_forget_14 : decode bS_forget 14 = .ok (.aastore, 1) := by decide +kernel
theorem dS_forget_15 : decode bS_forget 15 = .ok (.iinc 1 1, 3) := by decide +kernel
theorem dS_forget_18 : decode bS_forget 18 = .ok (.goto (-16), 3) := by decide +kernel
theorem dS_forget_21 : decode bS_forget 21 = .ok (.return_, 1) := by decide +kernel
theorem dS_setNeeds_0 : decode bS_setNeeds 0 = .ok (.iload_n 1, 1) := by decide +kernel
theorem dS_setNeeds_1 : decode bS_setNeeds 1 = .ok (.ifCond .lt 22, 3) := by decide +kernel
theorem dS_setNeeds_4 : decode bS_setNeeds 4 = .ok (.iload_n 1, 1) := by decide +kernel
theorem dS_setNeeds_5 : decode bS_setNeeds 5 = .ok (.aload_n 0, 1) := by decide +kernel
theorem dS_setNeeds_6 : decode bS_setNeeds 6 = .ok (.getfield 9, 3) := by decide +kernel
theorem dS_setNeeds_9 : decode bS_setNeeds 9 = .ok (.if_icmp .ge 14, 3) := by decide +kernel
theorem dS_setNeeds_12 : decode bS_setNeeds 12 = .ok (.iload_n 2, 1) := by decide +kernel
theorem dS_setNeeds_13 : decode bS_setNeeds 13 = .ok (.ifCond .lt 10, 3) := by decide +kernel
theorem dS_setNeeds_16 : decode bS_setNeeds 16 = .ok (.iload_n 2, 1) := by decide +kernel
theorem dS_setNeeds_17 : decode bS_setNeeds 17 = .ok (.iconst 1, 1) := by decide +kernel
theorem dS_setNeeds_18 : decode bS_setNeeds 18 = .ok (.iload_n 1, 1) := by decide +kernel
theorem dS_setNeeds_19 : decode bS_setNeeds 19 = .ok (.ishl, 1) := by decide +kernel
theorem dS_setNeeds_20 : decode bS_setNeeds 20 = .ok (.if_icmp .lt 5, 3) := by decide +kernel
theorem dS_setNeeds_23 : decode bS_setNeeds 23 = .ok (.iconst 0, 1) := by decide +kernel
theorem dS_setNeeds_24 : decode bS_setNeeds 24 = .ok (.ireturn, 1) := by decide +kernel
theorem dS_setNeeds_25 : decode bS_setNeeds 25 = .ok (.aload_n 0, 1) := by decide +kernel
theorem dS_setNeeds_26 : decode bS_setNeeds 26 = .ok (.getfield 15, 3) := by decide +kernel
theorem dS_setNeeds_29 : decode bS_setNeeds 29 = .ok (.iload_n 1, 1) := by decide +kernel
theorem dS_setNeeds_30 : decode bS_setNeeds 30 = .ok (.iload_n 2, 1) := by decide +kernel
theorem dS_setNeeds_31 : decode bS_setNeeds 31 = .ok (.iastore, 1) := by decide +kernel
theorem dS_setNeeds_32 : decode bS_setNeeds 32 = .ok (.aload_n 0, 1) := by decide +kernel
theorem dS_setNeeds_33 : decode bS_setNeeds 33 = .ok (.invokevirtual 38, 3) := by decide +kernel
theorem dS_setNeeds_36 : decode bS_setNeeds 36 = .ok (.iconst 1, 1) := by decide +kernel
theorem dS_setNeeds_37 : decode bS_setNeeds 37 = .ok (.ireturn, 1) := by decide +kernel
theorem dS_movesWithin_0 : decode bS_movesWithin 0 = .ok (.iconst 1, 1) := by decide +kernel
theorem dS_movesWithin_1 : decode bS_movesWithin 1 = .ok (.iload_n 1, 1) := by decide +kernel
theorem dS_movesWithin_2 : decode bS_movesWithin 2 = .ok (.aload_n 0, 1) := by decide +kernel
theorem dS_movesWithin_3 : decode bS_movesWithin 3 = .ok (.getfield 9, 3) := by decide +kernel
theorem dS_movesWithin_6 : decode bS_movesWithin 6 = .ok (.invokestatic 52, 3) := by decide +kernel
theorem dS_movesWithin_9 : decode bS_movesWithin 9 = .ok (.invokestatic 58, 3) := by decide +kernel
theorem dS_movesWithin_12 : decode bS_movesWithin 12 = .ok (.istore_n 2, 1) := by decide +kernel
theorem dS_movesWithin_13 : decode bS_movesWithin 13 = .ok (.aload_n 0, 1) := by decide +kernel
theorem dS_movesWithin_14 : decode bS_movesWithin 14 = .ok (.getfield 21, 3) := by decide +kernel
theorem dS_movesWithin_17 : decode bS_movesWithin 17 = .ok (.iload_n 2, 1) := by decide +kernel
theorem dS_movesWithin_18 : decode bS_movesWithin 18 = .ok (.aaload, 1) := by decide +kernel
theorem dS_movesWithin_19 : decode bS_movesWithin 19 = .ok (.astore_n 3, 1) := by decide +kernel
theorem dS_movesWithin_20 : decode bS_movesWithin 20 = .ok (.aload_n 3, 1) := by decide +kernel
theorem dS_movesWithin_21 : decode bS_movesWithin 21 = .ok (.ifnonnull 16, 3) := by decide +kernel
theorem dS_movesWithin_24 : decode bS_movesWithin 24 = .ok (.aload_n 0, 1) := by decide +kernel
theorem dS_movesWithin_25 : decode bS_movesWithin 25 = .ok (.iload_n 2, 1) := by decide +kernel
theorem dS_movesWithin_26 : decode bS_movesWithin 26 = .ok (.invokevirtual 61, 3) := by decide +kernel
theorem dS_movesWithin_29 : decode bS_movesWithin 29 = .ok (.astore_n 3, 1) := by decide +kernel
theorem dS_movesWithin_30 : decode bS_movesWithin 30 = .ok (.aload_n 0, 1) := by decide +kernel
theorem dS_movesWithin_31 : decode bS_movesWithin 31 = .ok (.getfield 21, 3) := by decide +kernel
theorem dS_movesWithin_34 : decode bS_movesWithin 34 = .ok (.iload_n 2, 1) := by decide +kernel
theorem dS_movesWithin_35 : decode bS_movesWithin 35 = .ok (.aload_n 3, 1) := by decide +kernel
theorem dS_movesWithin_36 : decode bS_movesWithin 36 = .ok (.aastore, 1) := by decide +kernel
theorem dS_movesWithin_37 : decode bS_movesWithin 37 = .ok (.aload_n 3, 1) := by decide +kernel
theorem dS_movesWithin_38 : decode bS_movesWithin 38 = .ok (.areturn, 1) := by decide +kernel
theorem dS_search_0 : decode bS_search 0 = .ok (.aload_n 0, 1) := by decide +kernel
theorem dS_search_1 : decode bS_search 1 = .ok (.invokevirtual 73, 3) := by decide +kernel
theorem dS_search_4 : decode bS_search 4 = .ok (.aload_n 0, 1) := by decide +kernel
theorem dS_search_5 : decode bS_search 5 = .ok (.invokevirtual 64, 3) := by decide +kernel
theorem dS_search_8 : decode bS_search 8 = .ok (.istore_n 2, 1) := by decide +kernel
theorem dS_search_9 : decode bS_search 9 = .ok (.aload_n 0, 1) := by decide +kernel
theorem dS_search_10 : decode bS_search 10 = .ok (.iload_n 2, 1) := by decide +kernel
theorem dS_search_11 : decode bS_search 11 = .ok (.iload_n 1, 1) := by decide +kernel
theorem dS_search_12 : decode bS_search 12 = .ok (.invokevirtual 76, 3) := by decide +kernel
theorem dS_search_15 : decode bS_search 15 = .ok (.aload_n 0, 1) := by decide +kernel
theorem dS_search_16 : decode bS_search 16 = .ok (.getfield 32, 3) := by decide +kernel
theorem dS_search_19 : decode bS_search 19 = .ok (.iconst 0, 1) := by decide +kernel
theorem dS_search_20 : decode bS_search 20 = .ok (.iaload, 1) := by decide +kernel
theorem dS_search_21 : decode bS_search 21 = .ok (.ifCond .ne 8, 3) := by decide +kernel
theorem dS_search_24 : decode bS_search 24 = .ok (.aload_n 0, 1) := by decide +kernel
theorem dS_search_25 : decode bS_search 25 = .ok (.getfield 28, 3) := by decide +kernel
theorem dS_search_28 : decode bS_search 28 = .ok (.areturn, 1) := by decide +kernel
theorem dS_search_29 : decode bS_search 29 = .ok (.new 19, 3) := by decide +kernel
theorem dS_search_32 : decode bS_search 32 = .ok (.dup, 1) := by decide +kernel
theorem dS_search_33 : decode bS_search 33 = .ok (.aload_n 0, 1) := by decide +kernel
theorem dS_search_34 : decode bS_search 34 = .ok (.getfield 32, 3) := by decide +kernel
theorem dS_search_37 : decode bS_search 37 = .ok (.iconst 0, 1) := by decide +kernel
theorem dS_search_38 : decode bS_search 38 = .ok (.iaload, 1) := by decide +kernel
theorem dS_search_39 : decode bS_search 39 = .ok (.iconst 1, 1) := by decide +kernel
theorem dS_search_40 : decode bS_search 40 = .ok (.isub, 1) := by decide +kernel
theorem dS_search_41 : decode bS_search 41 = .ok (.invokespecial 25, 3) := by decide +kernel
theorem dS_search_44 : decode bS_search 44 = .ok (.astore_n 3, 1) := by decide +kernel
theorem dS_search_45 : decode bS_search 45 = .ok (.iconst 0, 1) := by decide +kernel
theorem dS_search_46 : decode bS_search 46 = .ok (.istore 4, 2) := by decide +kernel
theorem dS_search_48 : decode bS_search 48 = .ok (.iconst 0, 1) := by decide +kernel
theorem dS_search_49 : decode bS_search 49 = .ok (.istore 5, 2) := by decide +kernel
theorem dS_search_51 : decode bS_search 51 = .ok (.iload 5, 2) := by decide +kernel
theorem dS_search_53 : decode bS_search 53 = .ok (.aload_n 3, 1) := by decide +kernel
theorem dS_search_54 : decode bS_search 54 = .ok (.invokevirtual 49, 3) := by decide +kernel
theorem dS_search_57 : decode bS_search 57 = .ok (.if_icmp .ge 34, 3) := by decide +kernel
theorem dS_search_60 : decode bS_search 60 = .ok (.aload_n 0, 1) := by decide +kernel
theorem dS_search_61 : decode bS_search 61 = .ok (.iload 4, 2) := by decide +kernel
theorem dS_search_63 : decode bS_search 63 = .ok (.invokevirtual 80, 3) := by decide +kernel
theorem dS_search_66 : decode bS_search 66 = .ok (.istore 6, 2) := by decide +kernel
theorem dS_search_68 : decode bS_search 68 = .ok (.aload_n 3, 1) := by decide +kernel
theorem dS_search_69 : decode bS_search 69 = .ok (.iload 5, 2) := by decide +kernel
theorem dS_search_71 : decode bS_search 71 = .ok (.iload 6, 2) := by decide +kernel
theorem dS_search_73 : decode bS_search 73 = .ok (.invokevirtual 83, 3) := by decide +kernel
theorem dS_search_76 : decode bS_search 76 = .ok (.iload 4, 2) := by decide +kernel
theorem dS_search_78 : decode bS_search 78 = .ok (.iconst 1, 1) := by decide +kernel
theorem dS_search_79 : decode bS_search 79 = .ok (.iload 6, 2) := by decide +kernel
theorem dS_search_81 : decode bS_search 81 = .ok (.ishl, 1) := by decide +kernel
theorem dS_search_82 : decode bS_search 82 = .ok (.ixor, 1) := by decide +kernel
theorem dS_search_83 : decode bS_search 83 = .ok (.istore 4, 2) := by decide +kernel
theorem dS_search_85 : decode bS_search 85 = .ok (.iinc 5 1, 3) := by decide +kernel
theorem dS_search_88 : decode bS_search 88 = .ok (.goto (-37), 3) := by decide +kernel
theorem dS_search_91 : decode bS_search 91 = .ok (.aload_n 3, 1) := by decide +kernel
theorem dS_search_92 : decode bS_search 92 = .ok (.areturn, 1) := by decide +kernel
theorem dS_makeRoom_0 : decode bS_makeRoom 0 = .ok (.iconst 1, 1) := by decide +kernel
theorem dS_makeRoom_1 : decode bS_makeRoom 1 = .ok (.aload_n 0, 1) := by decide +kernel
theorem dS_makeRoom_2 : decode bS_makeRoom 2 = .ok (.getfield 9, 3) := by decide +kernel
theorem dS_makeRoom_5 : decode bS_makeRoom 5 = .ok (.ishl, 1) := by decide +kernel
theorem dS_makeRoom_6 : decode bS_makeRoom 6 = .ok (.istore_n 1, 1) := by decide +kernel
theorem dS_makeRoom_7 : decode bS_makeRoom 7 = .ok (.aload_n 0, 1) := by decide +kernel
theorem dS_makeRoom_8 : decode bS_makeRoom 8 = .ok (.getfield 32, 3) := by decide +kernel
theorem dS_makeRoom_11 : decode bS_makeRoom 11 = .ok (.arraylength, 1) := by decide +kernel
theorem dS_makeRoom_12 : decode bS_makeRoom 12 = .ok (.iload_n 1, 1) := by decide +kernel
theorem dS_makeRoom_13 : decode bS_makeRoom 13 = .ok (.if_icmp .ge 17, 3) := by decide +kernel
theorem dS_makeRoom_16 : decode bS_makeRoom 16 = .ok (.aload_n 0, 1) := by decide +kernel
theorem dS_makeRoom_17 : decode bS_makeRoom 17 = .ok (.iload_n 1, 1) := by decide +kernel
theorem dS_makeRoom_18 : decode bS_makeRoom 18 = .ok (.newarray .int, 2) := by decide +kernel
theorem dS_makeRoom_20 : decode bS_makeRoom 20 = .ok (.putfield 32, 3) := by decide +kernel
theorem dS_makeRoom_23 : decode bS_makeRoom 23 = .ok (.aload_n 0, 1) := by decide +kernel
theorem dS_makeRoom_24 : decode bS_makeRoom 24 = .ok (.iload_n 1, 1) := by decide +kernel
theorem dS_makeRoom_25 : decode bS_makeRoom 25 = .ok (.newarray .int, 2) := by decide +kernel
theorem dS_makeRoom_27 : decode bS_makeRoom 27 = .ok (.putfield 35, 3) := by decide +kernel
theorem dS_makeRoom_30 : decode bS_makeRoom 30 = .ok (.return_, 1) := by decide +kernel
theorem dS_wantedSteps_0 : decode bS_wantedSteps 0 = .ok (.iconst 1, 1) := by decide +kernel
theorem dS_wantedSteps_1 : decode bS_wantedSteps 1 = .ok (.aload_n 0, 1) := by decide +kernel
theorem dS_wantedSteps_2 : decode bS_wantedSteps 2 = .ok (.getfield 9, 3) := by decide +kernel
theorem dS_wantedSteps_5 : decode bS_wantedSteps 5 = .ok (.iconst 1, 1) := by decide +kernel
theorem dS_wantedSteps_6 : decode bS_wantedSteps 6 = .ok (.isub, 1) := by decide +kernel
theorem dS_wantedSteps_7 : decode bS_wantedSteps 7 = .ok (.ishl, 1) := by decide +kernel
theorem dS_wantedSteps_8 : decode bS_wantedSteps 8 = .ok (.istore_n 1, 1) := by decide +kernel
theorem dS_wantedSteps_9 : decode bS_wantedSteps 9 = .ok (.aload_n 0, 1) := by decide +kernel
theorem dS_wantedSteps_10 : decode bS_wantedSteps 10 = .ok (.getfield 9, 3) := by decide +kernel
theorem dS_wantedSteps_13 : decode bS_wantedSteps 13 = .ok (.iconst 1, 1) := by decide +kernel
theorem dS_wantedSteps_14 : decode bS_wantedSteps 14 = .ok (.isub, 1) := by decide +kernel
theorem dS_wantedSteps_15 : decode bS_wantedSteps 15 = .ok (.istore_n 2, 1) := by decide +kernel
theorem dS_wantedSteps_16 : decode bS_wantedSteps 16 = .ok (.iload_n 2, 1) := by decide +kernel
theorem dS_wantedSteps_17 : decode bS_wantedSteps 17 = .ok (.ifCond .lt 27, 3) := by decide +kernel
theorem dS_wantedSteps_20 : decode bS_wantedSteps 20 = .ok (.iload_n 1, 1) := by decide +kernel
theorem dS_wantedSteps_21 : decode bS_wantedSteps 21 = .ok (.iload_n 2, 1) := by decide +kernel
theorem dS_wantedSteps_22 : decode bS_wantedSteps 22 = .ok (.ishr, 1) := by decide +kernel
theorem dS_wantedSteps_23 : decode bS_wantedSteps 23 = .ok (.iconst 1, 1) := by decide +kernel
theorem dS_wantedSteps_24 : decode bS_wantedSteps 24 = .ok (.iand, 1) := by decide +kernel
theorem dS_wantedSteps_25 : decode bS_wantedSteps 25 = .ok (.iconst 1, 1) := by decide +kernel
theorem dS_wantedSteps_26 : decode bS_wantedSteps 26 = .ok (.if_icmp .ne 12, 3) := by decide +kernel
theorem dS_wantedSteps_29 : decode bS_wantedSteps 29 = .ok (.iload_n 1, 1) := by decide +kernel
theorem dS_wantedSteps_30 : decode bS_wantedSteps 30 = .ok (.aload_n 0, 1) := by decide +kernel
theorem dS_wantedSteps_31 : decode bS_wantedSteps 31 = .ok (.getfield 15, 3) := by decide +kernel
theorem dS_wantedSteps_34 : decode bS_wantedSteps 34 = .ok (.iload_n 2, 1) := by decide +kernel
theorem dS_wantedSteps_35 : decode bS_wantedSteps 35 = .ok (.iaload, 1) := by decide +kernel
theorem dS_wantedSteps_36 : decode bS_wantedSteps 36 = .ok (.ior, 1) := by decide +kernel
theorem dS_wantedSteps_37 : decode bS_wantedSteps 37 = .ok (.istore_n 1, 1) := by decide +kernel
theorem dS_wantedSteps_38 : decode bS_wantedSteps 38 = .ok (.iinc 2 (-1), 3) := by decide +kernel
theorem dS_wantedSteps_41 : decode bS_wantedSteps 41 = .ok (.goto (-25), 3) := by decide +kernel
theorem dS_wantedSteps_44 : decode bS_wantedSteps 44 = .ok (.iload_n 1, 1) := by decide +kernel
theorem dS_wantedSteps_45 : decode bS_wantedSteps 45 = .ok (.ireturn, 1) := by decide +kernel
theorem dS_spreadFromGoal_0 : decode bS_spreadFromGoal 0 = .ok (.iconst 0, 1) := by decide +kernel
theorem dS_spreadFromGoal_1 : decode bS_spreadFromGoal 1 = .ok (.istore_n 3, 1) := by decide +kernel
theorem dS_spreadFromGoal_2 : decode bS_spreadFromGoal 2 = .ok (.iload_n 3, 1) := by decide +kernel
theorem dS_spreadFromGoal_3 : decode bS_spreadFromGoal 3 = .ok (.iconst 1, 1) := by decide +kernel
theorem dS_spreadFromGoal_4 : decode bS_spreadFromGoal 4 = .ok (.aload_n 0, 1) := by decide +kernel
theorem dS_spreadFromGoal_5 : decode bS_spreadFromGoal 5 = .ok (.getfield 9, 3) := by decide +kernel
theorem dS_spreadFromGoal_8 : decode bS_spreadFromGoal 8 = .ok (.ishl, 1) := by decide +kernel
theorem dS_spreadFromGoal_9 : decode bS_spreadFromGoal 9 = .ok (.if_icmp .ge 16, 3) := by decide +kernel
theorem dS_spreadFromGoal_12 : decode bS_spreadFromGoal 12 = .ok (.aload_n 0, 1) := by decide +kernel
theorem dS_spreadFromGoal_13 : decode bS_spreadFromGoal 13 = .ok (.getfield 32, 3) := by decide +kernel
theorem dS_spreadFromGoal_16 : decode bS_spreadFromGoal 16 = .ok (.iload_n 3, 1) := by decide +kernel
theorem dS_spreadFromGoal_17 : decode bS_spreadFromGoal 17 = .ok (.iconst 0, 1) := by decide +kernel
theorem dS_spreadFromGoal_18 : decode bS_spreadFromGoal 18 = .ok (.iastore, 1) := by decide +kernel
theorem dS_spreadFromGoal_19 : decode bS_spreadFromGoal 19 = .ok (.iinc 3 1, 3) := by decide +kernel
theorem dS_spreadFromGoal_22 : decode bS_spreadFromGoal 22 = .ok (.goto (-20), 3) := by decide +kernel
theorem dS_spreadFromGoal_25 : decode bS_spreadFromGoal 25 = .ok (.aload_n 0, 1) := by decide +kernel
theorem dS_spreadFromGoal_26 : decode bS_spreadFromGoal 26 = .ok (.iconst 0, 1) := by decide +kernel
theorem dS_spreadFromGoal_27 : decode bS_spreadFromGoal 27 = .ok (.putfield 86, 3) := by decide +kernel
theorem dS_spreadFromGoal_30 : decode bS_spreadFromGoal 30 = .ok (.aload_n 0, 1) := by decide +kernel
theorem dS_spreadFromGoal_31 : decode bS_spreadFromGoal 31 = .ok (.iconst 1, 1) := by decide +kernel
theorem dS_spreadFromGoal_32 : decode bS_spreadFromGoal 32 = .ok (.aload_n 0, 1) := by decide +kernel
theorem dS_spreadFromGoal_33 : decode bS_spreadFromGoal 33 = .ok (.getfield 9, 3) := by decide +kernel
theorem dS_spreadFromGoal_36 : decode bS_spreadFromGoal 36 = .ok (.iconst 1, 1) := by decide +kernel
theorem dS_spreadFromGoal_37 : decode bS_spreadFromGoal 37 = .ok (.isub, 1) := by decide +kernel
theorem dS_spreadFromGoal_38 : decode bS_spreadFromGoal 38 = .ok (.ishl, 1) := by decide +kernel
theorem dS_spreadFromGoal_39 : decode bS_spreadFromGoal 39 = .ok (.iconst 1, 1) := by decide +kernel
theorem dS_spreadFromGoal_40 : decode bS_spreadFromGoal 40 = .ok (.invokevirtual 89, 3) := by decide +kernel
theorem dS_spreadFromGoal_43 : decode bS_spreadFromGoal 43 = .ok (.iconst 0, 1) := by decide +kernel
theorem dS_spreadFromGoal_44 : decode bS_spreadFromGoal 44 = .ok (.istore_n 3, 1) := by decide +kernel
theorem dS_spreadFromGoal_45 : decode bS_spreadFromGoal 45 = .ok (.iload_n 3, 1) := by decide +kernel
theorem dS_spreadFromGoal_46 : decode bS_spreadFromGoal 46 = .ok (.sipush 4096, 3) := by decide +kernel
theorem dS_spreadFromGoal_49 : decode bS_spreadFromGoal 49 = .ok (.if_icmp .ge 38, 3) := by decide +kernel
theorem dS_spreadFromGoal_52 : decode bS_spreadFromGoal 52 = .ok (.iload_n 3, 1) := by decide +kernel
theorem dS_spreadFromGoal_53 : decode bS_spreadFromGoal 53 = .ok (.aload_n 0, 1) := by decide +kernel
theorem dS_spreadFromGoal_54 : decode bS_spreadFromGoal 54 = .ok (.getfield 86, 3) := by decide +kernel
theorem dS_spreadFromGoal_57 : decode bS_spreadFromGoal 57 = .ok (.if_icmp .ge 30, 3) := by decide +kernel
theorem dS_spreadFromGoal_60 : decode bS_spreadFromGoal 60 = .ok (.aload_n 0, 1) := by decide +kernel
theorem dS_spreadFromGoal_61 : decode bS_spreadFromGoal 61 = .ok (.getfield 32, 3) := by decide +kernel
theorem dS_spreadFromGoal_64 : decode bS_spreadFromGoal 64 = .ok (.iconst 0, 1) := by decide +kernel
theorem dS_spreadFromGoal_65 : decode bS_spreadFromGoal 65 = .ok (.iaload, 1) := by decide +kernel
theorem dS_spreadFromGoal_66 : decode bS_spreadFromGoal 66 = .ok (.ifCond .ne 21, 3) := by decide +kernel
theorem dS_spreadFromGoal_69 : decode bS_spreadFromGoal 69 = .ok (.aload_n 0, 1) := by decide +kernel
theorem dS_spreadFromGoal_70 : decode bS_spreadFromGoal 70 = .ok (.aload_n 0, 1) := by decide +kernel
theorem dS_spreadFromGoal_71 : decode bS_spreadFromGoal 71 = .ok (.getfield 35, 3) := by decide +kernel
theorem dS_spreadFromGoal_74 : decode bS_spreadFromGoal 74 = .ok (.iload_n 3, 1) := by decide +kernel
theorem dS_spreadFromGoal_75 : decode bS_spreadFromGoal 75 = .ok (.iaload, 1) := by decide +kernel
theorem dS_spreadFromGoal_76 : decode bS_spreadFromGoal 76 = .ok (.iload_n 1, 1) := by decide +kernel
theorem dS_spreadFromGoal_77 : decode bS_spreadFromGoal 77 = .ok (.iload_n 2, 1) := by decide +kernel
theorem dS_spreadFromGoal_78 : decode bS_spreadFromGoal 78 = .ok (.invokevirtual 92, 3) := by decide +kernel
theorem dS_spreadFromGoal_81 : decode bS_spreadFromGoal 81 = .ok (.iinc 3 1, 3) := by decide +kernel
theorem dS_spreadFromGoal_84 : decode bS_spreadFromGoal 84 = .ok (.goto (-39), 3) := by decide +kernel
theorem dS_spreadFromGoal_87 : decode bS_spreadFromGoal 87 = .ok (.return_, 1) := by decide +kernel
theorem dS_enter_0 : decode bS_enter 0 = .ok (.aload_n 0, 1) := by decide +kernel
theorem dS_enter_1 : decode bS_enter 1 = .ok (.getfield 86, 3) := by decide +kernel
theorem dS_enter_4 : decode bS_enter 4 = .ok (.aload_n 0, 1) := by decide +kernel
theorem dS_enter_5 : decode bS_enter 5 = .ok (.getfield 35, 3) := by decide +kernel
theorem dS_enter_8 : decode bS_enter 8 = .ok (.arraylength, 1) := by decide +kernel
theorem dS_enter_9 : decode bS_enter 9 = .ok (.if_icmp .ge 30, 3) := by decide +kernel
theorem dS_enter_12 : decode bS_enter 12 = .ok (.aload_n 0, 1) := by decide +kernel
theorem dS_enter_13 : decode bS_enter 13 = .ok (.getfield 32, 3) := by decide +kernel
theorem dS_enter_16 : decode bS_enter 16 = .ok (.iload_n 1, 1) := by decide +kernel
theorem dS_enter_17 : decode bS_enter 17 = .ok (.iload_n 2, 1) := by decide +kernel
theorem dS_enter_18 : decode bS_enter 18 = .ok (.iastore, 1) := by decide +kernel
theorem dS_enter_19 : decode bS_enter 19 = .ok (.aload_n 0, 1) := by decide +kernel
theorem dS_enter_20 : decode bS_enter 20 = .ok (.getfield 35, 3) := by decide +kernel
theorem dS_enter_23 : decode bS_enter 23 = .ok (.aload_n 0, 1) := by decide +kernel
theorem dS_enter_24 : decode bS_enter 24 = .ok (.getfield 86, 3) := by decide +kernel
theorem dS_enter_27 : decode bS_enter 27 = .ok (.iload_n 1, 1) := by decide +kernel
theorem dS_enter_28 : decode bS_enter 28 = .ok (.iastore, 1) := by decide +kernel
theorem dS_enter_29 : decode bS_enter 29 = .ok (.aload_n 0, 1) := by decide +kernel
theorem dS_enter_30 : decode bS_enter 30 = .ok (.dup, 1) := by decide +kernel
theorem dS_enter_31 : decode bS_enter 31 = .ok (.getfield 86, 3) := by decide +kernel
theorem dS_enter_34 : decode bS_enter 34 = .ok (.iconst 1, 1) := by decide +kernel
theorem dS_enter_35 : decode bS_enter 35 = .ok (.iadd, 1) := by decide +kernel
theorem dS_enter_36 : decode bS_enter 36 = .ok (.putfield 86, 3) := by decide +kernel
theorem dS_enter_39 : decode bS_enter 39 = .ok (.return_, 1) := by decide +kernel
theorem dS_spreadFrom_0 : decode bS_spreadFrom 0 = .ok (.aload_n 0, 1) := by decide +kernel
theorem dS_spreadFrom_1 : decode bS_spreadFrom 1 = .ok (.getfield 32, 3) := by decide +kernel
theorem dS_spreadFrom_4 : decode bS_spreadFrom 4 = .ok (.iload_n 1, 1) := by decide +kernel
theorem dS_spreadFrom_5 : decode bS_spreadFrom 5 = .ok (.iaload, 1) := by decide +kernel
theorem dS_spreadFrom_6 : decode bS_spreadFrom 6 = .ok (.iconst 1, 1) := by decide +kernel
theorem dS_spreadFrom_7 : decode bS_spreadFrom 7 = .ok (.iadd, 1) := by decide +kernel
theorem dS_spreadFrom_8 : decode bS_spreadFrom 8 = .ok (.istore 4, 2) := by decide +kernel
theorem dS_spreadFrom_10 : decode bS_spreadFrom 10 = .ok (.iload_n 1, 1) := by decide +kernel
theorem dS_spreadFrom_11 : decode bS_spreadFrom 11 = .ok (.invokestatic 67, 3) := by decide +kernel
theorem dS_spreadFrom_14 : decode bS_spreadFrom 14 = .ok (.iload_n 3, 1) := by decide +kernel
theorem dS_spreadFrom_15 : decode bS_spreadFrom 15 = .ok (.if_icmp .ge 7, 3) := by decide +kernel
theorem dS_spreadFrom_18 : decode bS_spreadFrom 18 = .ok (.iload_n 2, 1) := by decide +kernel
theorem dS_spreadFrom_19 : decode bS_spreadFrom 19 = .ok (.goto 6, 3) := by decide +kernel
theorem dS_spreadFrom_22 : decode bS_spreadFrom 22 = .ok (.iload_n 2, 1) := by decide +kernel
theorem dS_spreadFrom_23 : decode bS_spreadFrom 23 = .ok (.iload_n 1, 1) := by decide +kernel
theorem dS_spreadFrom_24 : decode bS_spreadFrom 24 = .ok (.iand, 1) := by decide +kernel
theorem dS_spreadFrom_25 : decode bS_spreadFrom 25 = .ok (.istore 5, 2) := by decide +kernel
theorem dS_spreadFrom_27 : decode bS_spreadFrom 27 = .ok (.iconst 0, 1) := by decide +kernel
theorem dS_spreadFrom_28 : decode bS_spreadFrom 28 = .ok (.istore 6, 2) := by decide +kernel
theorem dS_spreadFrom_30 : decode bS_spreadFrom 30 = .ok (.iload 6, 2) := by decide +kernel
theorem dS_spreadFrom_32 : decode bS_spreadFrom 32 = .ok (.aload_n 0, 1) := by decide +kernel
theorem dS_spreadFrom_33 : decode bS_spreadFrom 33 = .ok (.getfield 9, 3) := by decide +kernel
theorem dS_spreadFrom_36 : decode bS_spreadFrom 36 = .ok (.if_icmp .ge 64, 3) := by decide +kernel
theorem dS_spreadFrom_39 : decode bS_spreadFrom 39 = .ok (.iload 5, 2) := by decide +kernel
theorem dS_spreadFrom_41 : decode bS_spreadFrom 41 = .ok (.iload 6, 2) := by decide +kernel
theorem dS_spreadFrom_43 : decode bS_spreadFrom 43 = .ok (.ishr, 1) := by decide +kernel
theorem dS_spreadFrom_44 : decode bS_spreadFrom 44 = .ok (.iconst 1, 1) := by decide +kernel
theorem dS_spreadFrom_45 : decode bS_spreadFrom 45 = .ok (.iand, 1) := by decide +kernel
theorem dS_spreadFrom_46 : decode bS_spreadFrom 46 = .ok (.iconst 1, 1) := by decide +kernel
theorem dS_spreadFrom_47 : decode bS_spreadFrom 47 = .ok (.if_icmp .ne 47, 3) := by decide +kernel
theorem dS_spreadFrom_50 : decode bS_spreadFrom 50 = .ok (.aload_n 0, 1) := by decide +kernel
theorem dS_spreadFrom_51 : decode bS_spreadFrom 51 = .ok (.getfield 15, 3) := by decide +kernel
theorem dS_spreadFrom_54 : decode bS_spreadFrom 54 = .ok (.iload 6, 2) := by decide +kernel
theorem dS_spreadFrom_56 : decode bS_spreadFrom 56 = .ok (.iaload, 1) := by decide +kernel
theorem dS_spreadFrom_57 : decode bS_spreadFrom 57 = .ok (.istore 7, 2) := by decide +kernel
theorem dS_spreadFrom_59 : decode bS_spreadFrom 59 = .ok (.iload_n 1, 1) := by decide +kernel
theorem dS_spreadFrom_60 : decode bS_spreadFrom 60 = .ok (.iconst 1, 1) := by decide +kernel
theorem dS_spreadFrom_61 : decode bS_spreadFrom 61 = .ok (.iload 6, 2) := by decide +kernel
theorem dS_spreadFrom_63 : decode bS_spreadFrom 63 = .ok (.ishl, 1) := by decide +kernel
theorem dS_spreadFrom_64 : decode bS_spreadFrom 64 = .ok (.ixor, 1) := by decide +kernel
theorem dS_spreadFrom_65 : decode bS_spreadFrom 65 = .ok (.istore 8, 2) := by decide +kernel
theorem dS_spreadFrom_67 : decode bS_spreadFrom 67 = .ok (.iload_n 1, 1) := by decide +kernel
theorem dS_spreadFrom_68 : decode bS_spreadFrom 68 = .ok (.iload 7, 2) := by decide +kernel
theorem dS_spreadFrom_70 : decode bS_spreadFrom 70 = .ok (.iand, 1) := by decide +kernel
theorem dS_spreadFrom_71 : decode bS_spreadFrom 71 = .ok (.iload 7, 2) := by decide +kernel
theorem dS_spreadFrom_73 : decode bS_spreadFrom 73 = .ok (.if_icmp .ne 21, 3) := by decide +kernel
theorem dS_spreadFrom_76 : decode bS_spreadFrom 76 = .ok (.aload_n 0, 1) := by decide +kernel
theorem dS_spreadFrom_77 : decode bS_spreadFrom 77 = .ok (.getfield 32, 3) := by decide +kernel
theorem dS_spreadFrom_80 : decode bS_spreadFrom 80 = .ok (.iload 8, 2) := by decide +kernel
theorem dS_spreadFrom_82 : decode bS_spreadFrom 82 = .ok (.iaload, 1) := by decide +kernel
theorem dS_spreadFrom_83 : decode bS_spreadFrom 83 = .ok (.ifCond .ne 11, 3) := by decide +kernel
theorem dS_spreadFrom_86 : decode bS_spreadFrom 86 = .ok (.aload_n 0, 1) := by decide +kernel
theorem dS_spreadFrom_87 : decode bS_spreadFrom 87 = .ok (.iload 8, 2) := by decide +kernel
theorem dS_spreadFrom_89 : decode bS_spreadFrom 89 = .ok (.iload 4, 2) := by decide +kernel
theorem dS_spreadFrom_91 : decode bS_spreadFrom 91 = .ok (.invokevirtual 89, 3) := by decide +kernel
theorem dS_spreadFrom_94 : decode bS_spreadFrom 94 = .ok (.iinc 6 1, 3) := by decide +kernel
theorem dS_spreadFrom_97 : decode bS_spreadFrom 97 = .ok (.goto (-67), 3) := by decide +kernel
theorem dS_spreadFrom_100 : decode bS_spreadFrom 100 = .ok (.return_, 1) := by decide +kernel
theorem dS_firstStepNearer_0 : decode bS_firstStepNearer 0 = .ok (.aload_n 0, 1) := by decide +kernel
theorem dS_firstStepNearer_1 : decode bS_firstStepNearer 1 = .ok (.getfield 32, 3) := by decide +kernel
theorem dS_firstStepNearer_4 : decode bS_firstStepNearer 4 = .ok (.iload_n 1, 1) := by decide +kernel
theorem dS_firstStepNearer_5 : decode bS_firstStepNearer 5 = .ok (.iaload, 1) := by decide +kernel
theorem dS_firstStepNearer_6 : decode bS_firstStepNearer 6 = .ok (.iconst 1, 1) := by decide +kernel
theorem dS_firstStepNearer_7 : decode bS_firstStepNearer 7 = .ok (.isub, 1) := by decide +kernel
theorem dS_firstStepNearer_8 : decode bS_firstStepNearer 8 = .ok (.istore_n 2, 1) := by decide +kernel
theorem dS_firstStepNearer_9 : decode bS_firstStepNearer 9 = .ok (.iconst 0, 1) := by decide +kernel
theorem dS_firstStepNearer_10 : decode bS_firstStepNearer 10 = .ok (.istore_n 3, 1) := by decide +kernel
theorem dS_firstStepNearer_11 : decode bS_firstStepNearer 11 = .ok (.iload_n 3, 1) := by decide +kernel
theorem dS_firstStepNearer_12 : decode bS_firstStepNearer 12 = .ok (.aload_n 0, 1) := by decide +kernel
theorem dS_firstStepNearer_13 : decode bS_firstStepNearer 13 = .ok (.getfield 9, 3) := by decide +kernel
theorem dS_firstStepNearer_16 : decode bS_firstStepNearer 16 = .ok (.if_icmp .ge 42, 3) := by decide +kernel
theorem dS_firstStepNearer_19 : decode bS_firstStepNearer 19 = .ok (.aload_n 0, 1) := by decide +kernel
theorem dS_firstStepNearer_20 : decode bS_firstStepNearer 20 = .ok (.getfield 15, 3) := by decide +kernel
theorem dS_firstStepNearer_23 : decode bS_firstStepNearer 23 = .ok (.iload_n 3, 1) := by decide +kernel
theorem dS_firstStepNearer_24 : decode bS_firstStepNearer 24 = .ok (.iaload, 1) := by decide +kernel
theorem dS_firstStepNearer_25 : decode bS_firstStepNearer 25 = .ok (.istore 4, 2) := by decide +kernel
theorem dS_firstStepNearer_27 : decode bS_firstStepNearer 27 = .ok (.iload_n 1, 1) := by decide +kernel
theorem dS_firstStepNearer_28 : decode bS_firstStepNearer 28 = .ok (.iload 4, 2) := by decide +kernel
theorem dS_firstStepNearer_30 : decode bS_firstStepNearer 30 = .ok (.iand, 1) := by decide +kernel
theorem dS_firstStepNearer_31 : decode bS_firstStepNearer 31 = .ok (.iload 4, 2) := by decide +kernel
theorem dS_firstStepNearer_33 : decode bS_firstStepNearer 33 = .ok (.if_icmp .ne 19, 3) := by decide +kernel
theorem dS_firstStepNearer_36 : decode bS_firstStepNearer 36 = .ok (.aload_n 0, 1) := by decide +kernel
theorem dS_firstStepNearer_37 : decode bS_firstStepNearer 37 = .ok (.getfield 32, 3) := by decide +kernel
theorem dS_firstStepNearer_40 : decode bS_firstStepNearer 40 = .ok (.iload_n 1, 1) := by decide +kernel
theorem dS_firstStepNearer_41 : decode bS_firstStepNearer 41 = .ok (.iconst 1, 1) := by decide +kernel
theorem dS_firstStepNearer_42 : decode bS_firstStepNearer 42 = .ok (.iload_n 3, 1) := by decide +kernel
theorem dS_firstStepNearer_43 : decode bS_firstStepNearer 43 = .ok (.ishl, 1) := by decide +kernel
theorem dS_firstStepNearer_44 : decode bS_firstStepNearer 44 = .ok (.ixor, 1) := by decide +kernel
theorem dS_firstStepNearer_45 : decode bS_firstStepNearer 45 = .ok (.iaload, 1) := by decide +kernel
theorem dS_firstStepNearer_46 : decode bS_firstStepNearer 46 = .ok (.iload_n 2, 1) := by decide +kernel
theorem dS_firstStepNearer_47 : decode bS_firstStepNearer 47 = .ok (.if_icmp .ne 5, 3) := by decide +kernel
theorem dS_firstStepNearer_50 : decode bS_firstStepNearer 50 = .ok (.iload_n 3, 1) := by decide +kernel
theorem dS_firstStepNearer_51 : decode bS_firstStepNearer 51 = .ok (.ireturn, 1) := by decide +kernel
theorem dS_firstStepNearer_52 : decode bS_firstStepNearer 52 = .ok (.iinc 3 1, 3) := by decide +kernel
theorem dS_firstStepNearer_55 : decode bS_firstStepNearer 55 = .ok (.goto (-44), 3) := by decide +kernel
theorem dS_firstStepNearer_58 : decode bS_firstStepNearer 58 = .ok (.iconst 0, 1) := by decide +kernel
theorem dS_firstStepNearer_59 : decode bS_firstStepNearer 59 = .ok (.ireturn, 1) := by decide +kernel
theorem dS_fewestMarks_0 : decode bS_fewestMarks 0 = .ok (.aload_n 0, 1) := by decide +kernel
theorem dS_fewestMarks_1 : decode bS_fewestMarks 1 = .ok (.invokevirtual 41, 3) := by decide +kernel
theorem dS_fewestMarks_4 : decode bS_fewestMarks 4 = .ok (.istore_n 1, 1) := by decide +kernel
theorem dS_fewestMarks_5 : decode bS_fewestMarks 5 = .ok (.iload_n 1, 1) := by decide +kernel
theorem dS_fewestMarks_6 : decode bS_fewestMarks 6 = .ok (.aload_n 0, 1) := by decide +kernel
theorem dS_fewestMarks_7 : decode bS_fewestMarks 7 = .ok (.getfield 9, 3) := by decide +kernel
theorem dS_fewestMarks_10 : decode bS_fewestMarks 10 = .ok (.if_icmp .ge 22, 3) := by decide +kernel
theorem dS_fewestMarks_13 : decode bS_fewestMarks 13 = .ok (.aload_n 0, 1) := by decide +kernel
theorem dS_fewestMarks_14 : decode bS_fewestMarks 14 = .ok (.iload_n 1, 1) := by decide +kernel
theorem dS_fewestMarks_15 : decode bS_fewestMarks 15 = .ok (.invokevirtual 45, 3) := by decide +kernel
theorem dS_fewestMarks_18 : decode bS_fewestMarks 18 = .ok (.invokevirtual 49, 3) := by decide +kernel
theorem dS_fewestMarks_21 : decode bS_fewestMarks 21 = .ok (.ifCond .le 5, 3) := by decide +kernel
theorem dS_fewestMarks_24 : decode bS_fewestMarks 24 = .ok (.iload_n 1, 1) := by decide +kernel
theorem dS_fewestMarks_25 : decode bS_fewestMarks 25 = .ok (.ireturn, 1) := by decide +kernel
theorem dS_fewestMarks_26 : decode bS_fewestMarks 26 = .ok (.iinc 1 1, 3) := by decide +kernel
theorem dS_fewestMarks_29 : decode bS_fewestMarks 29 = .ok (.goto (-24), 3) := by decide +kernel
theorem dS_fewestMarks_32 : decode bS_fewestMarks 32 = .ok (.aload_n 0, 1) := by decide +kernel
theorem dS_fewestMarks_33 : decode bS_fewestMarks 33 = .ok (.getfield 9, 3) := by decide +kernel
theorem dS_fewestMarks_36 : decode bS_fewestMarks 36 = .ok (.ireturn, 1) := by decide +kernel
theorem dS_fewestThinkable_0 : decode bS_fewestThinkable 0 = .ok (.aload_n 0, 1) := by decide +kernel
theorem dS_fewestThinkable_1 : decode bS_fewestThinkable 1 = .ok (.invokevirtual 64, 3) := by decide +kernel
theorem dS_fewestThinkable_4 : decode bS_fewestThinkable 4 = .ok (.istore_n 1, 1) := by decide +kernel
theorem dS_fewestThinkable_5 : decode bS_fewestThinkable 5 = .ok (.iconst 1, 1) := by decide +kernel
theorem dS_fewestThinkable_6 : decode bS_fewestThinkable 6 = .ok (.istore_n 2, 1) := by decide +kernel
theorem dS_fewestThinkable_7 : decode bS_fewestThinkable 7 = .ok (.iconst 0, 1) := by decide +kernel
theorem dS_fewestThinkable_8 : decode bS_fewestThinkable 8 = .ok (.istore_n 3, 1) := by decide +kernel
theorem dS_fewestThinkable_9 : decode bS_fewestThinkable 9 = .ok (.iload_n 3, 1) := by decide +kernel
theorem dS_fewestThinkable_10 : decode bS_fewestThinkable 10 = .ok (.aload_n 0, 1) := by decide +kernel
theorem dS_fewestThinkable_11 : decode bS_fewestThinkable 11 = .ok (.getfield 9, 3) := by decide +kernel
theorem dS_fewestThinkable_14 : decode bS_fewestThinkable 14 = .ok (.if_icmp .ge 34, 3) := by decide +kernel
theorem dS_fewestThinkable_17 : decode bS_fewestThinkable 17 = .ok (.iload_n 1, 1) := by decide +kernel
theorem dS_fewestThinkable_18 : decode bS_fewestThinkable 18 = .ok (.iload_n 3, 1) := by decide +kernel
theorem dS_fewestThinkable_19 : decode bS_fewestThinkable 19 = .ok (.ishr, 1) := by decide +kernel
theorem dS_fewestThinkable_20 : decode bS_fewestThinkable 20 = .ok (.iconst 1, 1) := by decide +kernel
theorem dS_fewestThinkable_21 : decode bS_fewestThinkable 21 = .ok (.iand, 1) := by decide +kernel
theorem dS_fewestThinkable_22 : decode bS_fewestThinkable 22 = .ok (.iconst 1, 1) := by decide +kernel
theorem dS_fewestThinkable_23 : decode bS_fewestThinkable 23 = .ok (.if_icmp .ne 19, 3) := by decide +kernel
theorem dS_fewestThinkable_26 : decode bS_fewestThinkable 26 = .ok (.iload_n 2, 1) := by decide +kernel
theorem dS_fewestThinkable_27 : decode bS_fewestThinkable 27 = .ok (.iconst 1, 1) := by decide +kernel
theorem dS_fewestThinkable_28 : decode bS_fewestThinkable 28 = .ok (.aload_n 0, 1) := by decide +kernel
theorem dS_fewestThinkable_29 : decode bS_fewestThinkable 29 = .ok (.getfield 15, 3) := by decide +kernel
theorem dS_fewestThinkable_32 : decode bS_fewestThinkable 32 = .ok (.iload_n 3, 1) := by decide +kernel
theorem dS_fewestThinkable_33 : decode bS_fewestThinkable 33 = .ok (.iaload, 1) := by decide +kernel
theorem dS_fewestThinkable_34 : decode bS_fewestThinkable 34 = .ok (.invokestatic 67, 3) := by decide +kernel
theorem dS_fewestThinkable_37 : decode bS_fewestThinkable 37 = .ok (.iadd, 1) := by decide +kernel
theorem dS_fewestThinkable_38 : decode bS_fewestThinkable 38 = .ok (.invokestatic 58, 3) := by decide +kernel
theorem dS_fewestThinkable_41 : decode bS_fewestThinkable 41 = .ok (.istore_n 2, 1) := by decide +kernel
theorem dS_fewestThinkable_42 : decode bS_fewestThinkable 42 = .ok (.iinc 3 1, 3) := by decide +kernel
theorem dS_fewestThinkable_45 : decode bS_fewestThinkable 45 = .ok (.goto (-36), 3) := by decide +kernel
theorem dS_fewestThinkable_48 : decode bS_fewestThinkable 48 = .ok (.iload_n 2, 1) := by decide +kernel
theorem dS_fewestThinkable_49 : decode bS_fewestThinkable 49 = .ok (.ireturn, 1) := by decide +kernel
theorem dS_count_0 : decode bS_count 0 = .ok (.aload_n 0, 1) := by decide +kernel
theorem dS_count_1 : decode bS_count 1 = .ok (.getfield 9, 3) := by decide +kernel
theorem dS_count_4 : decode bS_count 4 = .ok (.ireturn, 1) := by decide +kernel
