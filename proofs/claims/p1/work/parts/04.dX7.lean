theorem dX7_init_0 : decode cX7_init 0 = .ok (.aload_n 0, 1) := by decide +kernel
theorem dX7_init_1 : decode cX7_init 1 = .ok (.invokespecial 3, 3) := by decide +kernel
theorem dX7_init_4 : decode cX7_init 4 = .ok (.aload_n 0, 1) := by decide +kernel
theorem dX7_init_5 : decode cX7_init 5 = .ok (.bipush 6, 2) := by decide +kernel
theorem dX7_init_7 : decode cX7_init 7 = .ok (.invokestatic 9, 3) := by decide +kernel
theorem dX7_init_10 : decode cX7_init 10 = .ok (.putfield 13, 3) := by decide +kernel
theorem dX7_init_13 : decode cX7_init 13 = .ok (.aload_n 0, 1) := by decide +kernel
theorem dX7_init_14 : decode cX7_init 14 = .ok (.new 19, 3) := by decide +kernel
theorem dX7_init_17 : decode cX7_init 17 = .ok (.dup, 1) := by decide +kernel
theorem dX7_init_18 : decode cX7_init 18 = .ok (.invokespecial 21, 3) := by decide +kernel
theorem dX7_init_21 : decode cX7_init 21 = .ok (.putfield 22, 3) := by decide +kernel
theorem dX7_init_24 : decode cX7_init 24 = .ok (.return_, 1) := by decide +kernel
theorem dX7_clear_0 : decode cX7_clear 0 = .ok (.iconst 0, 1) := by decide +kernel
theorem dX7_clear_1 : decode cX7_clear 1 = .ok (.istore_n 1, 1) := by decide +kernel
theorem dX7_clear_2 : decode cX7_clear 2 = .ok (.iload_n 1, 1) := by decide +kernel
theorem dX7_clear_3 : decode cX7_clear 3 = .ok (.bipush 6, 2) := by decide +kernel
theorem dX7_clear_5 : decode cX7_clear 5 = .ok (.if_icmp .ge 18, 3) := by decide +kernel
theorem dX7_clear_8 : decode cX7_clear 8 = .ok (.aload_n 0, 1) := by decide +kernel
theorem dX7_clear_9 : decode cX7_clear 9 = .ok (.getfield 13, 3) := by decide +kernel
theorem dX7_clear_12 : decode cX7_clear 12 = .ok (.iload_n 1, 1) := by decide +kernel
theorem dX7_clear_13 : decode cX7_clear 13 = .ok (.aaload, 1) := by decide +kernel
theorem dX7_clear_14 : decode cX7_clear 14 = .ok (.invokevirtual 26, 3) := by decide +kernel
theorem dX7_clear_17 : decode cX7_clear 17 = .ok (.iinc 1 1, 3) := by decide +kernel
theorem dX7_clear_20 : decode cX7_clear 20 = .ok (.goto (-18), 3) := by decide +kernel
theorem dX7_clear_23 : decode cX7_clear 23 = .ok (.return_, 1) := by decide +kernel
theorem dX7_sumUp_0 : decode cX7_sumUp 0 = .ok (.aload_n 0, 1) := by decide +kernel
theorem dX7_sumUp_1 : decode cX7_sumUp 1 = .ok (.getfield 22, 3) := by decide +kernel
theorem dX7_sumUp_4 : decode cX7_sumUp 4 = .ok (.invokevirtual 26, 3) := by decide +kernel
theorem dX7_sumUp_7 : decode cX7_sumUp 7 = .ok (.iconst 0, 1) := by decide +kernel
theorem dX7_sumUp_8 : decode cX7_sumUp 8 = .ok (.istore_n 1, 1) := by decide +kernel
theorem dX7_sumUp_9 : decode cX7_sumUp 9 = .ok (.iload_n 1, 1) := by decide +kernel
theorem dX7_sumUp_10 : decode cX7_sumUp 10 = .ok (.bipush 6, 2) := by decide +kernel
theorem dX7_sumUp_12 : decode cX7_sumUp 12 = .ok (.if_icmp .ge 22, 3) := by decide +kernel
theorem dX7_sumUp_15 : decode cX7_sumUp 15 = .ok (.aload_n 0, 1) := by decide +kernel
theorem dX7_sumUp_16 : decode cX7_sumUp 16 = .ok (.getfield 22, 3) := by decide +kernel
theorem dX7_sumUp_19 : decode cX7_sumUp 19 = .ok (.aload_n 0, 1) := by decide +kernel
theorem dX7_sumUp_20 : decode cX7_sumUp 20 = .ok (.getfield 13, 3) := by decide +kernel
theorem dX7_sumUp_23 : decode cX7_sumUp 23 = .ok (.iload_n 1, 1) := by decide +kernel
theorem dX7_sumUp_24 : decode cX7_sumUp 24 = .ok (.aaload, 1) := by decide +kernel
theorem dX7_sumUp_25 : decode cX7_sumUp 25 = .ok (.invokevirtual 29, 3) := by decide +kernel
theorem dX7_sumUp_28 : decode cX7_sumUp 28 = .ok (.iinc 1 1, 3) := by decide +kernel
theorem dX7_sumUp_31 : decode cX7_sumUp 31 = .ok (.goto (-22), 3) := by decide +kernel
theorem dX7_sumUp_34 : decode cX7_sumUp 34 = .ok (.return_, 1) := by decide +kernel
theorem dX7_bits_0 : decode cX7_bits 0 = .ok (.iconst 0, 1) := by decide +kernel
theorem dX7_bits_1 : decode cX7_bits 1 = .ok (.istore_n 1, 1) := by decide +kernel
theorem dX7_bits_2 : decode cX7_bits 2 = .ok (.iconst 0, 1) := by decide +kernel
theorem dX7_bits_3 : decode cX7_bits 3 = .ok (.istore_n 2, 1) := by decide +kernel
theorem dX7_bits_4 : decode cX7_bits 4 = .ok (.iload_n 2, 1) := by decide +kernel
theorem dX7_bits_5 : decode cX7_bits 5 = .ok (.bipush 6, 2) := by decide +kernel
theorem dX7_bits_7 : decode cX7_bits 7 = .ok (.if_icmp .ge 27, 3) := by decide +kernel
theorem dX7_bits_10 : decode cX7_bits 10 = .ok (.aload_n 0, 1) := by decide +kernel
theorem dX7_bits_11 : decode cX7_bits 11 = .ok (.getfield 13, 3) := by decide +kernel
theorem dX7_bits_14 : decode cX7_bits 14 = .ok (.iload_n 2, 1) := by decide +kernel
theorem dX7_bits_15 : decode cX7_bits 15 = .ok (.aaload, 1) := by decide +kernel
theorem dX7_bits_16 : decode cX7_bits 16 = .ok (.getfield 33, 3) := by decide +kernel
theorem dX7_bits_19 : decode cX7_bits 19 = .ok (.ifCond .le 9, 3) := by decide +kernel
theorem dX7_bits_22 : decode cX7_bits 22 = .ok (.iload_n 1, 1) := by decide +kernel
theorem dX7_bits_23 : decode cX7_bits 23 = .ok (.iconst 1, 1) := by decide +kernel
theorem dX7_bits_24 : decode cX7_bits 24 = .ok (.iload_n 2, 1) := by decide +kernel
theorem dX7_bits_25 : decode cX7_bits 25 = .ok (.ishl, 1) := by decide +kernel
theorem dX7_bits_26 : decode cX7_bits 26 = .ok (.ior, 1) := by decide +kernel
theorem dX7_bits_27 : decode cX7_bits 27 = .ok (.istore_n 1, 1) := by decide +kernel
theorem dX7_bits_28 : decode cX7_bits 28 = .ok (.iinc 2 1, 3) := by decide +kernel
theorem dX7_bits_31 : decode cX7_bits 31 = .ok (.goto (-27), 3) := by decide +kernel
theorem dX7_bits_34 : decode cX7_bits 34 = .ok (.iload_n 1, 1) := by decide +kernel
theorem dX7_bits_35 : decode cX7_bits 35 = .ok (.ireturn, 1) := by decide +kernel
