theorem dR_init_0 : decode bR_init 0 = .ok (.aload_n 0, 1) := by decide +kernel
theorem dR_init_1 : decode bR_init 1 = .ok (.invokespecial 1, 3) := by decide +kernel
theorem dR_init_4 : decode bR_init 4 = .ok (.aload_n 0, 1) := by decide +kernel
theorem dR_init_5 : decode bR_init 5 = .ok (.new 7, 3) := by decide +kernel
theorem dR_init_8 : decode bR_init 8 = .ok (.dup, 1) := by decide +kernel
theorem dR_init_9 : decode bR_init 9 = .ok (.invokespecial 9, 3) := by decide +kernel
theorem dR_init_12 : decode bR_init 12 = .ok (.putfield 10, 3) := by decide +kernel
theorem dR_init_15 : decode bR_init 15 = .ok (.aload_n 0, 1) := by decide +kernel
theorem dR_init_16 : decode bR_init 16 = .ok (.new 16, 3) := by decide +kernel
theorem dR_init_19 : decode bR_init 19 = .ok (.dup, 1) := by decide +kernel
theorem dR_init_20 : decode bR_init 20 = .ok (.invokespecial 18, 3) := by decide +kernel
theorem dR_init_23 : decode bR_init 23 = .ok (.putfield 19, 3) := by decide +kernel
theorem dR_init_26 : decode bR_init 26 = .ok (.aload_n 0, 1) := by decide +kernel
theorem dR_init_27 : decode bR_init 27 = .ok (.new 23, 3) := by decide +kernel
theorem dR_init_30 : decode bR_init 30 = .ok (.dup, 1) := by decide +kernel
theorem dR_init_31 : decode bR_init 31 = .ok (.invokespecial 25, 3) := by decide +kernel
theorem dR_init_34 : decode bR_init 34 = .ok (.putfield 26, 3) := by decide +kernel
theorem dR_init_37 : decode bR_init 37 = .ok (.return_, 1) := by decide +kernel
theorem dR_begin_0 : decode bR_begin 0 = .ok (.aload_n 0, 1) := by decide +kernel
theorem dR_begin_1 : decode bR_begin 1 = .ok (.getfield 10, 3) := by decide +kernel
theorem dR_begin_4 : decode bR_begin 4 = .ok (.iload_n 1, 1) := by decide +kernel
theorem dR_begin_5 : decode bR_begin 5 = .ok (.invokevirtual 30, 3) := by decide +kernel
theorem dR_begin_8 : decode bR_begin 8 = .ok (.ireturn, 1) := by decide +kernel
theorem dR_put_0 : decode bR_put 0 = .ok (.aload_n 0, 1) := by decide +kernel
theorem dR_put_1 : decode bR_put 1 = .ok (.getfield 10, 3) := by decide +kernel
theorem dR_put_4 : decode bR_put 4 = .ok (.iload_n 1, 1) := by decide +kernel
theorem dR_put_5 : decode bR_put 5 = .ok (.iload_n 2, 1) := by decide +kernel
theorem dR_put_6 : decode bR_put 6 = .ok (.invokevirtual 34, 3) := by decide +kernel
theorem dR_put_9 : decode bR_put 9 = .ok (.ireturn, 1) := by decide +kernel
theorem dR_apply_0 : decode bR_apply 0 = .ok (.aload_n 0, 1) := by decide +kernel
theorem dR_apply_1 : decode bR_apply 1 = .ok (.getfield 10, 3) := by decide +kernel
theorem dR_apply_4 : decode bR_apply 4 = .ok (.iload_n 1, 1) := by decide +kernel
theorem dR_apply_5 : decode bR_apply 5 = .ok (.invokevirtual 38, 3) := by decide +kernel
theorem dR_apply_8 : decode bR_apply 8 = .ok (.ireturn, 1) := by decide +kernel
theorem dR_gate_0 : decode bR_gate 0 = .ok (.aload_n 0, 1) := by decide +kernel
theorem dR_gate_1 : decode bR_gate 1 = .ok (.getfield 10, 3) := by decide +kernel
theorem dR_gate_4 : decode bR_gate 4 = .ok (.invokevirtual 41, 3) := by decide +kernel
theorem dR_gate_7 : decode bR_gate 7 = .ok (.ifCond .ne 5, 3) := by decide +kernel
theorem dR_gate_10 : decode bR_gate 10 = .ok (.iconst (-1), 1) := by decide +kernel
theorem dR_gate_11 : decode bR_gate 11 = .ok (.ireturn, 1) := by decide +kernel
theorem dR_gate_12 : decode bR_gate 12 = .ok (.aload_n 0, 1) := by decide +kernel
theorem dR_gate_13 : decode bR_gate 13 = .ok (.getfield 10, 3) := by decide +kernel
theorem dR_gate_16 : decode bR_gate 16 = .ok (.invokevirtual 45, 3) := by decide +kernel
theorem dR_gate_19 : decode bR_gate 19 = .ok (.istore_n 2, 1) := by decide +kernel
theorem dR_gate_20 : decode bR_gate 20 = .ok (.iload_n 1, 1) := by decide +kernel
theorem dR_gate_21 : decode bR_gate 21 = .ok (.iconst (-1), 1) := by decide +kernel
theorem dR_gate_22 : decode bR_gate 22 = .ok (.if_icmp .ne 7, 3) := by decide +kernel
theorem dR_gate_25 : decode bR_gate 25 = .ok (.iload_n 2, 1) := by decide +kernel
theorem dR_gate_26 : decode bR_gate 26 = .ok (.goto 11, 3) := by decide +kernel
theorem dR_gate_29 : decode bR_gate 29 = .ok (.aload_n 0, 1) := by decide +kernel
theorem dR_gate_30 : decode bR_gate 30 = .ok (.getfield 10, 3) := by decide +kernel
theorem dR_gate_33 : decode bR_gate 33 = .ok (.iload_n 1, 1) := by decide +kernel
theorem dR_gate_34 : decode bR_gate 34 = .ok (.invokevirtual 49, 3) := by decide +kernel
theorem dR_gate_37 : decode bR_gate 37 = .ok (.ireturn, 1) := by decide +kernel
theorem dR_look_0 : decode bR_look 0 = .ok (.aload_n 0, 1) := by decide +kernel
theorem dR_look_1 : decode bR_look 1 = .ok (.getfield 10, 3) := by decide +kernel
theorem dR_look_4 : decode bR_look 4 = .ok (.iload_n 1, 1) := by decide +kernel
theorem dR_look_5 : decode bR_look 5 = .ok (.invokevirtual 53, 3) := by decide +kernel
theorem dR_look_8 : decode bR_look 8 = .ok (.ireturn, 1) := by decide +kernel
theorem dR_form_0 : decode bR_form 0 = .ok (.aload_n 0, 1) := by decide +kernel
theorem dR_form_1 : decode bR_form 1 = .ok (.getfield 10, 3) := by decide +kernel
theorem dR_form_4 : decode bR_form 4 = .ok (.invokevirtual 56, 3) := by decide +kernel
theorem dR_form_7 : decode bR_form 7 = .ok (.istore_n 3, 1) := by decide +kernel
theorem dR_form_8 : decode bR_form 8 = .ok (.iload_n 1, 1) := by decide +kernel
theorem dR_form_9 : decode bR_form 9 = .ok (.ifCond .lt 12, 3) := by decide +kernel
theorem dR_form_12 : decode bR_form 12 = .ok (.iload_n 1, 1) := by decide +kernel
theorem dR_form_13 : decode bR_form 13 = .ok (.iconst 1, 1) := by decide +kernel
theorem dR_form_14 : decode bR_form 14 = .ok (.iconst 1, 1) := by decide +kernel
theorem dR_form_15 : decode bR_form 15 = .ok (.iload_n 3, 1) := by decide +kernel
theorem dR_form_16 : decode bR_form 16 = .ok (.ishl, 1) := by decide +kernel
theorem dR_form_17 : decode bR_form 17 = .ok (.ishl, 1) := by decide +kernel
theorem dR_form_18 : decode bR_form 18 = .ok (.if_icmp .lt 5, 3) := by decide +kernel
theorem dR_form_21 : decode bR_form 21 = .ok (.iconst (-1), 1) := by decide +kernel
theorem dR_form_22 : decode bR_form 22 = .ok (.ireturn, 1) := by decide +kernel
theorem dR_form_23 : decode bR_form 23 = .ok (.aload_n 0, 1) := by decide +kernel
theorem dR_form_24 : decode bR_form 24 = .ok (.getfield 19, 3) := by decide +kernel
theorem dR_form_27 : decode bR_form 27 = .ok (.iload_n 3, 1) := by decide +kernel
theorem dR_form_28 : decode bR_form 28 = .ok (.iload_n 1, 1) := by decide +kernel
theorem dR_form_29 : decode bR_form 29 = .ok (.invokevirtual 59, 3) := by decide +kernel
theorem dR_form_32 : decode bR_form 32 = .ok (.lstore 4, 2) := by decide +kernel
theorem dR_form_34 : decode bR_form 34 = .ok (.iload_n 2, 1) := by decide +kernel
theorem dR_form_35 : decode bR_form 35 = .ok (.iconst (-1), 1) := by decide +kernel
theorem dR_form_36 : decode bR_form 36 = .ok (.if_icmp .ne 11, 3) := by decide +kernel
theorem dR_form_39 : decode bR_form 39 = .ok (.lload 4, 2) := by decide +kernel
theorem dR_form_41 : decode bR_form 41 = .ok (.invokestatic 63, 3) := by decide +kernel
theorem dR_form_44 : decode bR_form 44 = .ok (.goto 9, 3) := by decide +kernel
theorem dR_form_47 : decode bR_form 47 = .ok (.lload 4, 2) := by decide +kernel
theorem dR_form_49 : decode bR_form 49 = .ok (.iload_n 2, 1) := by decide +kernel
theorem dR_form_50 : decode bR_form 50 = .ok (.invokestatic 67, 3) := by decide +kernel
theorem dR_form_53 : decode bR_form 53 = .ok (.ireturn, 1) := by decide +kernel
theorem dR_product_0 : decode bR_product 0 = .ok (.aload_n 0, 1) := by decide +kernel
theorem dR_product_1 : decode bR_product 1 = .ok (.getfield 10, 3) := by decide +kernel
theorem dR_product_4 : decode bR_product 4 = .ok (.invokevirtual 56, 3) := by decide +kernel
theorem dR_product_7 : decode bR_product 7 = .ok (.istore_n 2, 1) := by decide +kernel
theorem dR_product_8 : decode bR_product 8 = .ok (.iload_n 1, 1) := by decide +kernel
theorem dR_product_9 : decode bR_product 9 = .ok (.ifCond .lt 11, 3) := by decide +kernel
theorem dR_product_12 : decode bR_product 12 = .ok (.iload_n 1, 1) := by decide +kernel
theorem dR_product_13 : decode bR_product 13 = .ok (.iload_n 2, 1) := by decide +kernel
theorem dR_product_14 : decode bR_product 14 = .ok (.invokestatic 71, 3) := by decide +kernel
theorem dR_product_17 : decode bR_product 17 = .ok (.if_icmp .lt 5, 3) := by decide +kernel
theorem dR_product_20 : decode bR_product 20 = .ok (.iconst (-1), 1) := by decide +kernel
theorem dR_product_21 : decode bR_product 21 = .ok (.ireturn, 1) := by decide +kernel
theorem dR_product_22 : decode bR_product 22 = .ok (.iload_n 2, 1) := by decide +kernel
theorem dR_product_23 : decode bR_product 23 = .ok (.iload_n 1, 1) := by decide +kernel
theorem dR_product_24 : decode bR_product 24 = .ok (.invokestatic 76, 3) := by decide +kernel
theorem dR_product_27 : decode bR_product 27 = .ok (.ireturn, 1) := by decide +kernel
theorem dR_program_0 : decode bR_program 0 = .ok (.aload_n 0, 1) := by decide +kernel
theorem dR_program_1 : decode bR_program 1 = .ok (.getfield 26, 3) := by decide +kernel
theorem dR_program_4 : decode bR_program 4 = .ok (.iload_n 1, 1) := by decide +kernel
theorem dR_program_5 : decode bR_program 5 = .ok (.invokevirtual 80, 3) := by decide +kernel
theorem dR_program_8 : decode bR_program 8 = .ok (.ireturn, 1) := by decide +kernel
theorem dR_need_0 : decode bR_need 0 = .ok (.aload_n 0, 1) := by decide +kernel
theorem dR_need_1 : decode bR_need 1 = .ok (.getfield 26, 3) := by decide +kernel
theorem dR_need_4 : decode bR_need 4 = .ok (.iload_n 1, 1) := by decide +kernel
theorem dR_need_5 : decode bR_need 5 = .ok (.iload_n 2, 1) := by decide +kernel
theorem dR_need_6 : decode bR_need 6 = .ok (.invokevirtual 81, 3) := by decide +kernel
theorem dR_need_9 : decode bR_need 9 = .ok (.ireturn, 1) := by decide +kernel
theorem dR_move_0 : decode bR_move 0 = .ok (.iload_n 1, 1) := by decide +kernel
theorem dR_move_1 : decode bR_move 1 = .ok (.iconst 1, 1) := by decide +kernel
theorem dR_move_2 : decode bR_move 2 = .ok (.if_icmp .ge 5, 3) := by decide +kernel
theorem dR_move_5 : decode bR_move 5 = .ok (.iconst (-1), 1) := by decide +kernel
theorem dR_move_6 : decode bR_move 6 = .ok (.ireturn, 1) := by decide +kernel
theorem dR_move_7 : decode bR_move 7 = .ok (.aload_n 0, 1) := by decide +kernel
theorem dR_move_8 : decode bR_move 8 = .ok (.getfield 26, 3) := by decide +kernel
theorem dR_move_11 : decode bR_move 11 = .ok (.iload_n 1, 1) := by decide +kernel
theorem dR_move_12 : decode bR_move 12 = .ok (.invokevirtual 84, 3) := by decide +kernel
theorem dR_move_15 : decode bR_move 15 = .ok (.astore_n 3, 1) := by decide +kernel
theorem dR_move_16 : decode bR_move 16 = .ok (.aload_n 3, 1) := by decide +kernel
theorem dR_move_17 : decode bR_move 17 = .ok (.invokevirtual 88, 3) := by decide +kernel
theorem dR_move_20 : decode bR_move 20 = .ok (.ifCond .ne 5, 3) := by decide +kernel
theorem dR_move_23 : decode bR_move 23 = .ok (.iconst (-1), 1) := by decide +kernel
theorem dR_move_24 : decode bR_move 24 = .ok (.ireturn, 1) := by decide +kernel
theorem dR_move_25 : decode bR_move 25 = .ok (.iload_n 2, 1) := by decide +kernel
theorem dR_move_26 : decode bR_move 26 = .ok (.iconst (-1), 1) := by decide +kernel
theorem dR_move_27 : decode bR_move 27 = .ok (.if_icmp .ne 10, 3) := by decide +kernel
theorem dR_move_30 : decode bR_move 30 = .ok (.aload_n 3, 1) := by decide +kernel
theorem dR_move_31 : decode bR_move 31 = .ok (.invokevirtual 88, 3) := by decide +kernel
theorem dR_move_34 : decode bR_move 34 = .ok (.goto 8, 3) := by decide +kernel
theorem dR_move_37 : decode bR_move 37 = .ok (.aload_n 3, 1) := by decide +kernel
theorem dR_move_38 : decode bR_move 38 = .ok (.iload_n 2, 1) := by decide +kernel
theorem dR_move_39 : decode bR_move 39 = .ok (.invokevirtual 93, 3) := by decide +kernel
theorem dR_move_42 : decode bR_move 42 = .ok (.ireturn, 1) := by decide +kernel
theorem dR_marks_0 : decode bR_marks 0 = .ok (.aload_n 0, 1) := by decide +kernel
theorem dR_marks_1 : decode bR_marks 1 = .ok (.getfield 26, 3) := by decide +kernel
theorem dR_marks_4 : decode bR_marks 4 = .ok (.invokevirtual 96, 3) := by decide +kernel
theorem dR_marks_7 : decode bR_marks 7 = .ok (.ireturn, 1) := by decide +kernel
theorem dR_total_0 : decode bR_total 0 = .ok (.iload_n 1, 1) := by decide +kernel
theorem dR_total_1 : decode bR_total 1 = .ok (.tableswitch 96 0 4 #[35, 43, 51, 67, 85], 35) := by decide +kernel
theorem dR_total_36 : decode bR_total 36 = .ok (.aload_n 0, 1) := by decide +kernel
theorem dR_total_37 : decode bR_total 37 = .ok (.getfield 10, 3) := by decide +kernel
theorem dR_total_40 : decode bR_total 40 = .ok (.invokevirtual 56, 3) := by decide +kernel
theorem dR_total_43 : decode bR_total 43 = .ok (.ireturn, 1) := by decide +kernel
theorem dR_total_44 : decode bR_total 44 = .ok (.aload_n 0, 1) := by decide +kernel
theorem dR_total_45 : decode bR_total 45 = .ok (.getfield 26, 3) := by decide +kernel
theorem dR_total_48 : decode bR_total 48 = .ok (.invokevirtual 99, 3) := by decide +kernel
theorem dR_total_51 : decode bR_total 51 = .ok (.ireturn, 1) := by decide +kernel
theorem dR_total_52 : decode bR_total 52 = .ok (.aload_n 0, 1) := by decide +kernel
theorem dR_total_53 : decode bR_total 53 = .ok (.getfield 10, 3) := by decide +kernel
theorem dR_total_56 : decode bR_total 56 = .ok (.invokevirtual 41, 3) := by decide +kernel
theorem dR_total_59 : decode bR_total 59 = .ok (.ifCond .eq 7, 3) := by decide +kernel
theorem dR_total_62 : decode bR_total 62 = .ok (.iconst 1, 1) := by decide +kernel
theorem dR_total_63 : decode bR_total 63 = .ok (.goto 4, 3) := by decide +kernel
theorem dR_total_66 : decode bR_total 66 = .ok (.iconst 0, 1) := by decide +kernel
theorem dR_total_67 : decode bR_total 67 = .ok (.ireturn, 1) := by decide +kernel
theorem dR_total_68 : decode bR_total 68 = .ok (.aload_n 0, 1) := by decide +kernel
theorem dR_total_69 : decode bR_total 69 = .ok (.getfield 10, 3) := by decide +kernel
theorem dR_total_72 : decode bR_total 72 = .ok (.invokevirtual 56, 3) := by decide +kernel
theorem dR_total_75 : decode bR_total 75 = .ok (.aload_n 0, 1) := by decide +kernel
theorem dR_total_76 : decode bR_total 76 = .ok (.getfield 10, 3) := by decide +kernel
theorem dR_total_79 : decode bR_total 79 = .ok (.invokevirtual 56, 3) := by decide +kernel
theorem dR_total_82 : decode bR_total 82 = .ok (.iconst 1, 1) := by decide +kernel
theorem dR_total_83 : decode bR_total 83 = .ok (.isub, 1) := by decide +kernel
theorem dR_total_84 : decode bR_total 84 = .ok (.ishl, 1) := by decide +kernel
theorem dR_total_85 : decode bR_total 85 = .ok (.ireturn, 1) := by decide +kernel
theorem dR_total_86 : decode bR_total 86 = .ok (.aload_n 0, 1) := by decide +kernel
theorem dR_total_87 : decode bR_total 87 = .ok (.getfield 10, 3) := by decide +kernel
theorem dR_total_90 : decode bR_total 90 = .ok (.invokevirtual 56, 3) := by decide +kernel
theorem dR_total_93 : decode bR_total 93 = .ok (.invokestatic 71, 3) := by decide +kernel
theorem dR_total_96 : decode bR_total 96 = .ok (.ireturn, 1) := by decide +kernel
theorem dR_total_97 : decode bR_total 97 = .ok (.iconst (-1), 1) := by decide +kernel
theorem dR_total_98 : decode bR_total 98 = .ok (.ireturn, 1) := by decide +kernel
