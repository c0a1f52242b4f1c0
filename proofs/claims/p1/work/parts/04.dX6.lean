theorem dX6_init_0 : decode cX6_init 0 = .ok (.aload_n 0, 1) := by decide +kernel
theorem dX6_init_1 : decode cX6_init 1 = .ok (.invokespecial 3, 3) := by decide +kernel
theorem dX6_init_4 : decode cX6_init 4 = .ok (.aload_n 0, 1) := by decide +kernel
theorem dX6_init_5 : decode cX6_init 5 = .ok (.bipush 6, 2) := by decide +kernel
theorem dX6_init_7 : decode cX6_init 7 = .ok (.newarray .int, 2) := by decide +kernel
theorem dX6_init_9 : decode cX6_init 9 = .ok (.putfield 9, 3) := by decide +kernel
theorem dX6_init_12 : decode cX6_init 12 = .ok (.aload_n 0, 1) := by decide +kernel
theorem dX6_init_13 : decode cX6_init 13 = .ok (.bipush 6, 2) := by decide +kernel
theorem dX6_init_15 : decode cX6_init 15 = .ok (.newarray .int, 2) := by decide +kernel
theorem dX6_init_17 : decode cX6_init 17 = .ok (.putfield 15, 3) := by decide +kernel
theorem dX6_init_20 : decode cX6_init 20 = .ok (.return_, 1) := by decide +kernel
theorem dX6_reset_0 : decode cX6_reset 0 = .ok (.aload_n 0, 1) := by decide +kernel
theorem dX6_reset_1 : decode cX6_reset 1 = .ok (.getfield 9, 3) := by decide +kernel
theorem dX6_reset_4 : decode cX6_reset 4 = .ok (.iconst 0, 1) := by decide +kernel
theorem dX6_reset_5 : decode cX6_reset 5 = .ok (.invokestatic 18, 3) := by decide +kernel
theorem dX6_reset_8 : decode cX6_reset 8 = .ok (.aload_n 0, 1) := by decide +kernel
theorem dX6_reset_9 : decode cX6_reset 9 = .ok (.getfield 15, 3) := by decide +kernel
theorem dX6_reset_12 : decode cX6_reset 12 = .ok (.iconst 1, 1) := by decide +kernel
theorem dX6_reset_13 : decode cX6_reset 13 = .ok (.invokestatic 18, 3) := by decide +kernel
theorem dX6_reset_16 : decode cX6_reset 16 = .ok (.return_, 1) := by decide +kernel
theorem dX6_put_0 : decode cX6_put 0 = .ok (.aload_n 0, 1) := by decide +kernel
theorem dX6_put_1 : decode cX6_put 1 = .ok (.getfield 9, 3) := by decide +kernel
theorem dX6_put_4 : decode cX6_put 4 = .ok (.iload_n 1, 1) := by decide +kernel
theorem dX6_put_5 : decode cX6_put 5 = .ok (.iload_n 2, 1) := by decide +kernel
theorem dX6_put_6 : decode cX6_put 6 = .ok (.iastore, 1) := by decide +kernel
theorem dX6_put_7 : decode cX6_put 7 = .ok (.aload_n 0, 1) := by decide +kernel
theorem dX6_put_8 : decode cX6_put 8 = .ok (.getfield 15, 3) := by decide +kernel
theorem dX6_put_11 : decode cX6_put 11 = .ok (.iload_n 1, 1) := by decide +kernel
theorem dX6_put_12 : decode cX6_put 12 = .ok (.iload_n 3, 1) := by decide +kernel
theorem dX6_put_13 : decode cX6_put 13 = .ok (.iastore, 1) := by decide +kernel
theorem dX6_put_14 : decode cX6_put 14 = .ok (.return_, 1) := by decide +kernel
theorem dX6_isOne_0 : decode cX6_isOne 0 = .ok (.lconst 0, 1) := by decide +kernel
theorem dX6_isOne_1 : decode cX6_isOne 1 = .ok (.lstore_n 1, 1) := by decide +kernel
theorem dX6_isOne_2 : decode cX6_isOne 2 = .ok (.iconst 0, 1) := by decide +kernel
theorem dX6_isOne_3 : decode cX6_isOne 3 = .ok (.istore_n 3, 1) := by decide +kernel
theorem dX6_isOne_4 : decode cX6_isOne 4 = .ok (.iload_n 3, 1) := by decide +kernel
theorem dX6_isOne_5 : decode cX6_isOne 5 = .ok (.bipush 6, 2) := by decide +kernel
theorem dX6_isOne_7 : decode cX6_isOne 7 = .ok (.if_icmp .ge 17, 3) := by decide +kernel
theorem dX6_isOne_10 : decode cX6_isOne 10 = .ok (.lload_n 1, 1) := by decide +kernel
theorem dX6_isOne_11 : decode cX6_isOne 11 = .ok (.aload_n 0, 1) := by decide +kernel
theorem dX6_isOne_12 : decode cX6_isOne 12 = .ok (.iload_n 3, 1) := by decide +kernel
theorem dX6_isOne_13 : decode cX6_isOne 13 = .ok (.invokevirtual 24, 3) := by decide +kernel
theorem dX6_isOne_16 : decode cX6_isOne 16 = .ok (.ladd, 1) := by decide +kernel
theorem dX6_isOne_17 : decode cX6_isOne 17 = .ok (.lstore_n 1, 1) := by decide +kernel
theorem dX6_isOne_18 : decode cX6_isOne 18 = .ok (.iinc 3 1, 3) := by decide +kernel
theorem dX6_isOne_21 : decode cX6_isOne 21 = .ok (.goto (-17), 3) := by decide +kernel
theorem dX6_isOne_24 : decode cX6_isOne 24 = .ok (.lload_n 1, 1) := by decide +kernel
theorem dX6_isOne_25 : decode cX6_isOne 25 = .ok (.aload_n 0, 1) := by decide +kernel
theorem dX6_isOne_26 : decode cX6_isOne 26 = .ok (.invokevirtual 28, 3) := by decide +kernel
theorem dX6_isOne_29 : decode cX6_isOne 29 = .ok (.lcmp, 1) := by decide +kernel
theorem dX6_isOne_30 : decode cX6_isOne 30 = .ok (.ifCond .ne 7, 3) := by decide +kernel
theorem dX6_isOne_33 : decode cX6_isOne 33 = .ok (.iconst 1, 1) := by decide +kernel
theorem dX6_isOne_34 : decode cX6_isOne 34 = .ok (.goto 4, 3) := by decide +kernel
theorem dX6_isOne_37 : decode cX6_isOne 37 = .ok (.iconst 0, 1) := by decide +kernel
theorem dX6_isOne_38 : decode cX6_isOne 38 = .ok (.ireturn, 1) := by decide +kernel
theorem dX6_read_0 : decode cX6_read 0 = .ok (.iconst 0, 1) := by decide +kernel
theorem dX6_read_1 : decode cX6_read 1 = .ok (.istore_n 2, 1) := by decide +kernel
theorem dX6_read_2 : decode cX6_read 2 = .ok (.iload_n 2, 1) := by decide +kernel
theorem dX6_read_3 : decode cX6_read 3 = .ok (.bipush 6, 2) := by decide +kernel
theorem dX6_read_5 : decode cX6_read 5 = .ok (.if_icmp .ge 23, 3) := by decide +kernel
theorem dX6_read_8 : decode cX6_read 8 = .ok (.aload_n 1, 1) := by decide +kernel
theorem dX6_read_9 : decode cX6_read 9 = .ok (.getfield 32, 3) := by decide +kernel
theorem dX6_read_12 : decode cX6_read 12 = .ok (.iload_n 2, 1) := by decide +kernel
theorem dX6_read_13 : decode cX6_read 13 = .ok (.aaload, 1) := by decide +kernel
theorem dX6_read_14 : decode cX6_read 14 = .ok (.aload_n 0, 1) := by decide +kernel
theorem dX6_read_15 : decode cX6_read 15 = .ok (.iload_n 2, 1) := by decide +kernel
theorem dX6_read_16 : decode cX6_read 16 = .ok (.invokevirtual 24, 3) := by decide +kernel
theorem dX6_read_19 : decode cX6_read 19 = .ok (.invokevirtual 38, 3) := by decide +kernel
theorem dX6_read_22 : decode cX6_read 22 = .ok (.iinc 2 1, 3) := by decide +kernel
theorem dX6_read_25 : decode cX6_read 25 = .ok (.goto (-23), 3) := by decide +kernel
theorem dX6_read_28 : decode cX6_read 28 = .ok (.return_, 1) := by decide +kernel
theorem dX6_denominator_0 : decode cX6_denominator 0 = .ok (.lconst 1, 1) := by decide +kernel
theorem dX6_denominator_1 : decode cX6_denominator 1 = .ok (.lstore_n 1, 1) := by decide +kernel
theorem dX6_denominator_2 : decode cX6_denominator 2 = .ok (.iconst 0, 1) := by decide +kernel
theorem dX6_denominator_3 : decode cX6_denominator 3 = .ok (.istore_n 3, 1) := by decide +kernel
theorem dX6_denominator_4 : decode cX6_denominator 4 = .ok (.iload_n 3, 1) := by decide +kernel
theorem dX6_denominator_5 : decode cX6_denominator 5 = .ok (.bipush 6, 2) := by decide +kernel
theorem dX6_denominator_7 : decode cX6_denominator 7 = .ok (.if_icmp .ge 19, 3) := by decide +kernel
theorem dX6_denominator_10 : decode cX6_denominator 10 = .ok (.lload_n 1, 1) := by decide +kernel
theorem dX6_denominator_11 : decode cX6_denominator 11 = .ok (.aload_n 0, 1) := by decide +kernel
theorem dX6_denominator_12 : decode cX6_denominator 12 = .ok (.getfield 15, 3) := by decide +kernel
theorem dX6_denominator_15 : decode cX6_denominator 15 = .ok (.iload_n 3, 1) := by decide +kernel
theorem dX6_denominator_16 : decode cX6_denominator 16 = .ok (.iaload, 1) := by decide +kernel
theorem dX6_denominator_17 : decode cX6_denominator 17 = .ok (.i2l, 1) := by decide +kernel
theorem dX6_denominator_18 : decode cX6_denominator 18 = .ok (.lmul, 1) := by decide +kernel
theorem dX6_denominator_19 : decode cX6_denominator 19 = .ok (.lstore_n 1, 1) := by decide +kernel
theorem dX6_denominator_20 : decode cX6_denominator 20 = .ok (.iinc 3 1, 3) := by decide +kernel
theorem dX6_denominator_23 : decode cX6_denominator 23 = .ok (.goto (-19), 3) := by decide +kernel
theorem dX6_denominator_26 : decode cX6_denominator 26 = .ok (.lload_n 1, 1) := by decide +kernel
theorem dX6_denominator_27 : decode cX6_denominator 27 = .ok (.lreturn, 1) := by decide +kernel
theorem dX6_share_0 : decode cX6_share 0 = .ok (.aload_n 0, 1) := by decide +kernel
theorem dX6_share_1 : decode cX6_share 1 = .ok (.getfield 9, 3) := by decide +kernel
theorem dX6_share_4 : decode cX6_share 4 = .ok (.iload_n 1, 1) := by decide +kernel
theorem dX6_share_5 : decode cX6_share 5 = .ok (.iaload, 1) := by decide +kernel
theorem dX6_share_6 : decode cX6_share 6 = .ok (.i2l, 1) := by decide +kernel
theorem dX6_share_7 : decode cX6_share 7 = .ok (.aload_n 0, 1) := by decide +kernel
theorem dX6_share_8 : decode cX6_share 8 = .ok (.invokevirtual 28, 3) := by decide +kernel
theorem dX6_share_11 : decode cX6_share 11 = .ok (.iconst 1, 1) := by decide +kernel
theorem dX6_share_12 : decode cX6_share 12 = .ok (.aload_n 0, 1) := by decide +kernel
theorem dX6_share_13 : decode cX6_share 13 = .ok (.getfield 15, 3) := by decide +kernel
theorem dX6_share_16 : decode cX6_share 16 = .ok (.iload_n 1, 1) := by decide +kernel
theorem dX6_share_17 : decode cX6_share 17 = .ok (.iaload, 1) := by decide +kernel
theorem dX6_share_18 : decode cX6_share 18 = .ok (.invokestatic 44, 3) := by decide +kernel
theorem dX6_share_21 : decode cX6_share 21 = .ok (.i2l, 1) := by decide +kernel
theorem dX6_share_22 : decode cX6_share 22 = .ok (.ldiv, 1) := by decide +kernel
theorem dX6_share_23 : decode cX6_share 23 = .ok (.lmul, 1) := by decide +kernel
theorem dX6_share_24 : decode cX6_share 24 = .ok (.lreturn, 1) := by decide +kernel
