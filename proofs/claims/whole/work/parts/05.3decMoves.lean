theorem dV_init_0 : decode bV_init 0 = .ok (.aload_n 0, 1) := by decide +kernel
theorem dV_init_1 : decode bV_init 1 = .ok (.invokespecial 3, 3) := by decide +kernel
theorem dV_init_4 : decode bV_init 4 = .ok (.aload_n 0, 1) := by decide +kernel
theorem dV_init_5 : decode bV_init 5 = .ok (.iload_n 1, 1) := by decide +kernel
theorem dV_init_6 : decode bV_init 6 = .ok (.ifCond .ge 7, 3) := by decide +kernel
theorem dV_init_9 : decode bV_init 9 = .ok (.iconst 0, 1) := by decide +kernel
theorem dV_init_10 : decode bV_init 10 = .ok (.goto 4, 3) := by decide +kernel
theorem dV_init_13 : decode bV_init 13 = .ok (.iload_n 1, 1) := by decide +kernel
theorem dV_init_14 : decode bV_init 14 = .ok (.newarray .int, 2) := by decide +kernel
theorem dV_init_16 : decode bV_init 16 = .ok (.putfield 9, 3) := by decide +kernel
theorem dV_init_19 : decode bV_init 19 = .ok (.return_, 1) := by decide +kernel
theorem dV_length_0 : decode bV_length 0 = .ok (.aload_n 0, 1) := by decide +kernel
theorem dV_length_1 : decode bV_length 1 = .ok (.getfield 9, 3) := by decide +kernel
theorem dV_length_4 : decode bV_length 4 = .ok (.arraylength, 1) := by decide +kernel
theorem dV_length_5 : decode bV_length 5 = .ok (.ireturn, 1) := by decide +kernel
theorem dV_set_0 : decode bV_set 0 = .ok (.iload_n 1, 1) := by decide +kernel
theorem dV_set_1 : decode bV_set 1 = .ok (.ifCond .lt 19, 3) := by decide +kernel
theorem dV_set_4 : decode bV_set 4 = .ok (.iload_n 1, 1) := by decide +kernel
theorem dV_set_5 : decode bV_set 5 = .ok (.aload_n 0, 1) := by decide +kernel
theorem dV_set_6 : decode bV_set 6 = .ok (.getfield 9, 3) := by decide +kernel
theorem dV_set_9 : decode bV_set 9 = .ok (.arraylength, 1) := by decide +kernel
theorem dV_set_10 : decode bV_set 10 = .ok (.if_icmp .ge 10, 3) := by decide +kernel
theorem dV_set_13 : decode bV_set 13 = .ok (.aload_n 0, 1) := by decide +kernel
theorem dV_set_14 : decode bV_set 14 = .ok (.getfield 9, 3) := by decide +kernel
theorem dV_set_17 : decode bV_set 17 = .ok (.iload_n 1, 1) := by decide +kernel
theorem dV_set_18 : decode bV_set 18 = .ok (.iload_n 2, 1) := by decide +kernel
theorem dV_set_19 : decode bV_set 19 = .ok (.iastore, 1) := by decide +kernel
theorem dV_set_20 : decode bV_set 20 = .ok (.return_, 1) := by decide +kernel
theorem dV_at_0 : decode bV_at 0 = .ok (.iload_n 1, 1) := by decide +kernel
theorem dV_at_1 : decode bV_at 1 = .ok (.ifCond .lt 21, 3) := by decide +kernel
theorem dV_at_4 : decode bV_at 4 = .ok (.iload_n 1, 1) := by decide +kernel
theorem dV_at_5 : decode bV_at 5 = .ok (.aload_n 0, 1) := by decide +kernel
theorem dV_at_6 : decode bV_at 6 = .ok (.getfield 9, 3) := by decide +kernel
theorem dV_at_9 : decode bV_at 9 = .ok (.arraylength, 1) := by decide +kernel
theorem dV_at_10 : decode bV_at 10 = .ok (.if_icmp .ge 12, 3) := by decide +kernel
theorem dV_at_13 : decode bV_at 13 = .ok (.aload_n 0, 1) := by decide +kernel
theorem dV_at_14 : decode bV_at 14 = .ok (.getfield 9, 3) := by decide +kernel
theorem dV_at_17 : decode bV_at 17 = .ok (.iload_n 1, 1) := by decide +kernel
theorem dV_at_18 : decode bV_at 18 = .ok (.iaload, 1) := by decide +kernel
theorem dV_at_19 : decode bV_at 19 = .ok (.goto 4, 3) := by decide +kernel
theorem dV_at_22 : decode bV_at 22 = .ok (.iconst (-1), 1) := by decide +kernel
theorem dV_at_23 : decode bV_at 23 = .ok (.ireturn, 1) := by decide +kernel
