theorem dP_count_0 : decode bP_count 0 = .ok (.iconst 1, 1) := by decide +kernel
theorem dP_count_1 : decode bP_count 1 = .ok (.istore_n 1, 1) := by decide +kernel
theorem dP_count_2 : decode bP_count 2 = .ok (.iconst 0, 1) := by decide +kernel
theorem dP_count_3 : decode bP_count 3 = .ok (.istore_n 2, 1) := by decide +kernel
theorem dP_count_4 : decode bP_count 4 = .ok (.iload_n 2, 1) := by decide +kernel
theorem dP_count_5 : decode bP_count 5 = .ok (.iload_n 0, 1) := by decide +kernel
theorem dP_count_6 : decode bP_count 6 = .ok (.if_icmp .ge 13, 3) := by decide +kernel
theorem dP_count_9 : decode bP_count 9 = .ok (.iload_n 1, 1) := by decide +kernel
theorem dP_count_10 : decode bP_count 10 = .ok (.iconst 3, 1) := by decide +kernel
theorem dP_count_11 : decode bP_count 11 = .ok (.imul, 1) := by decide +kernel
theorem dP_count_12 : decode bP_count 12 = .ok (.istore_n 1, 1) := by decide +kernel
theorem dP_count_13 : decode bP_count 13 = .ok (.iinc 2 1, 3) := by decide +kernel
theorem dP_count_16 : decode bP_count 16 = .ok (.goto (-12), 3) := by decide +kernel
theorem dP_count_19 : decode bP_count 19 = .ok (.iload_n 1, 1) := by decide +kernel
theorem dP_count_20 : decode bP_count 20 = .ok (.ireturn, 1) := by decide +kernel
theorem dP_function_0 : decode bP_function 0 = .ok (.iconst 0, 1) := by decide +kernel
theorem dP_function_1 : decode bP_function 1 = .ok (.istore_n 2, 1) := by decide +kernel
theorem dP_function_2 : decode bP_function 2 = .ok (.iconst 0, 1) := by decide +kernel
theorem dP_function_3 : decode bP_function 3 = .ok (.istore_n 3, 1) := by decide +kernel
theorem dP_function_4 : decode bP_function 4 = .ok (.iload_n 3, 1) := by decide +kernel
theorem dP_function_5 : decode bP_function 5 = .ok (.iconst 1, 1) := by decide +kernel
theorem dP_function_6 : decode bP_function 6 = .ok (.iload_n 0, 1) := by decide +kernel
theorem dP_function_7 : decode bP_function 7 = .ok (.ishl, 1) := by decide +kernel
theorem dP_function_8 : decode bP_function 8 = .ok (.if_icmp .ge 24, 3) := by decide +kernel
theorem dP_function_11 : decode bP_function 11 = .ok (.iload_n 0, 1) := by decide +kernel
theorem dP_function_12 : decode bP_function 12 = .ok (.iload_n 1, 1) := by decide +kernel
theorem dP_function_13 : decode bP_function 13 = .ok (.iload_n 3, 1) := by decide +kernel
theorem dP_function_14 : decode bP_function 14 = .ok (.invokestatic 7, 3) := by decide +kernel
theorem dP_function_17 : decode bP_function 17 = .ok (.ifCond .eq 9, 3) := by decide +kernel
theorem dP_function_20 : decode bP_function 20 = .ok (.iload_n 2, 1) := by decide +kernel
theorem dP_function_21 : decode bP_function 21 = .ok (.iconst 1, 1) := by decide +kernel
theorem dP_function_22 : decode bP_function 22 = .ok (.iload_n 3, 1) := by decide +kernel
theorem dP_function_23 : decode bP_function 23 = .ok (.ishl, 1) := by decide +kernel
theorem dP_function_24 : decode bP_function 24 = .ok (.ior, 1) := by decide +kernel
theorem dP_function_25 : decode bP_function 25 = .ok (.istore_n 2, 1) := by decide +kernel
theorem dP_function_26 : decode bP_function 26 = .ok (.iinc 3 1, 3) := by decide +kernel
theorem dP_function_29 : decode bP_function 29 = .ok (.goto (-25), 3) := by decide +kernel
theorem dP_function_32 : decode bP_function 32 = .ok (.iload_n 2, 1) := by decide +kernel
theorem dP_function_33 : decode bP_function 33 = .ok (.ireturn, 1) := by decide +kernel
theorem dP_holds_0 : decode bP_holds 0 = .ok (.iload_n 1, 1) := by decide +kernel
theorem dP_holds_1 : decode bP_holds 1 = .ok (.istore_n 3, 1) := by decide +kernel
theorem dP_holds_2 : decode bP_holds 2 = .ok (.iconst 0, 1) := by decide +kernel
theorem dP_holds_3 : decode bP_holds 3 = .ok (.istore 4, 2) := by decide +kernel
theorem dP_holds_5 : decode bP_holds 5 = .ok (.iload 4, 2) := by decide +kernel
theorem dP_holds_7 : decode bP_holds 7 = .ok (.iload_n 0, 1) := by decide +kernel
theorem dP_holds_8 : decode bP_holds 8 = .ok (.if_icmp .ge 51, 3) := by decide +kernel
theorem dP_holds_11 : decode bP_holds 11 = .ok (.iload_n 3, 1) := by decide +kernel
theorem dP_holds_12 : decode bP_holds 12 = .ok (.iconst 3, 1) := by decide +kernel
theorem dP_holds_13 : decode bP_holds 13 = .ok (.irem, 1) := by decide +kernel
theorem dP_holds_14 : decode bP_holds 14 = .ok (.istore 5, 2) := by decide +kernel
theorem dP_holds_16 : decode bP_holds 16 = .ok (.iload_n 2, 1) := by decide +kernel
theorem dP_holds_17 : decode bP_holds 17 = .ok (.iload 4, 2) := by decide +kernel
theorem dP_holds_19 : decode bP_holds 19 = .ok (.ishr, 1) := by decide +kernel
theorem dP_holds_20 : decode bP_holds 20 = .ok (.iconst 1, 1) := by decide +kernel
theorem dP_holds_21 : decode bP_holds 21 = .ok (.iand, 1) := by decide +kernel
theorem dP_holds_22 : decode bP_holds 22 = .ok (.istore 6, 2) := by decide +kernel
theorem dP_holds_24 : decode bP_holds 24 = .ok (.iload 5, 2) := by decide +kernel
theorem dP_holds_26 : decode bP_holds 26 = .ok (.iconst 1, 1) := by decide +kernel
theorem dP_holds_27 : decode bP_holds 27 = .ok (.if_icmp .ne 8, 3) := by decide +kernel
theorem dP_holds_30 : decode bP_holds 30 = .ok (.iload 6, 2) := by decide +kernel
theorem dP_holds_32 : decode bP_holds 32 = .ok (.ifCond .eq 15, 3) := by decide +kernel
theorem dP_holds_35 : decode bP_holds 35 = .ok (.iload 5, 2) := by decide +kernel
theorem dP_holds_37 : decode bP_holds 37 = .ok (.iconst 2, 1) := by decide +kernel
theorem dP_holds_38 : decode bP_holds 38 = .ok (.if_icmp .ne 11, 3) := by decide +kernel
theorem dP_holds_41 : decode bP_holds 41 = .ok (.iload 6, 2) := by decide +kernel
theorem dP_holds_43 : decode bP_holds 43 = .ok (.iconst 1, 1) := by decide +kernel
theorem dP_holds_44 : decode bP_holds 44 = .ok (.if_icmp .ne 5, 3) := by decide +kernel
theorem dP_holds_47 : decode bP_holds 47 = .ok (.iconst 0, 1) := by decide +kernel
theorem dP_holds_48 : decode bP_holds 48 = .ok (.ireturn, 1) := by decide +kernel
theorem dP_holds_49 : decode bP_holds 49 = .ok (.iload_n 3, 1) := by decide +kernel
theorem dP_holds_50 : decode bP_holds 50 = .ok (.iconst 3, 1) := by decide +kernel
theorem dP_holds_51 : decode bP_holds 51 = .ok (.idiv, 1) := by decide +kernel
theorem dP_holds_52 : decode bP_holds 52 = .ok (.istore_n 3, 1) := by decide +kernel
theorem dP_holds_53 : decode bP_holds 53 = .ok (.iinc 4 1, 3) := by decide +kernel
theorem dP_holds_56 : decode bP_holds 56 = .ok (.goto (-51), 3) := by decide +kernel
theorem dP_holds_59 : decode bP_holds 59 = .ok (.iconst 1, 1) := by decide +kernel
theorem dP_holds_60 : decode bP_holds 60 = .ok (.ireturn, 1) := by decide +kernel
