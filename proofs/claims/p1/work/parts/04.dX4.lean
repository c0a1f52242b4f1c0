theorem dX4_init_0 : decode cX4_init 0 = .ok (.aload_n 0, 1) := by decide +kernel
theorem dX4_init_1 : decode cX4_init 1 = .ok (.invokespecial 3, 3) := by decide +kernel
theorem dX4_init_4 : decode cX4_init 4 = .ok (.aload_n 0, 1) := by decide +kernel
theorem dX4_init_5 : decode cX4_init 5 = .ok (.iconst 0, 1) := by decide +kernel
theorem dX4_init_6 : decode cX4_init 6 = .ok (.putfield 9, 3) := by decide +kernel
theorem dX4_init_9 : decode cX4_init 9 = .ok (.aload_n 0, 1) := by decide +kernel
theorem dX4_init_10 : decode cX4_init 10 = .ok (.iconst 0, 1) := by decide +kernel
theorem dX4_init_11 : decode cX4_init 11 = .ok (.putfield 15, 3) := by decide +kernel
theorem dX4_init_14 : decode cX4_init 14 = .ok (.aload_n 0, 1) := by decide +kernel
theorem dX4_init_15 : decode cX4_init 15 = .ok (.iconst 0, 1) := by decide +kernel
theorem dX4_init_16 : decode cX4_init 16 = .ok (.putfield 18, 3) := by decide +kernel
theorem dX4_init_19 : decode cX4_init 19 = .ok (.aload_n 0, 1) := by decide +kernel
theorem dX4_init_20 : decode cX4_init 20 = .ok (.iconst 0, 1) := by decide +kernel
theorem dX4_init_21 : decode cX4_init 21 = .ok (.putfield 21, 3) := by decide +kernel
theorem dX4_init_24 : decode cX4_init 24 = .ok (.aload_n 0, 1) := by decide +kernel
theorem dX4_init_25 : decode cX4_init 25 = .ok (.bipush 36, 2) := by decide +kernel
theorem dX4_init_27 : decode cX4_init 27 = .ok (.newarray .int, 2) := by decide +kernel
theorem dX4_init_29 : decode cX4_init 29 = .ok (.putfield 24, 3) := by decide +kernel
theorem dX4_init_32 : decode cX4_init 32 = .ok (.aload_n 0, 1) := by decide +kernel
theorem dX4_init_33 : decode cX4_init 33 = .ok (.bipush 36, 2) := by decide +kernel
theorem dX4_init_35 : decode cX4_init 35 = .ok (.newarray .int, 2) := by decide +kernel
theorem dX4_init_37 : decode cX4_init 37 = .ok (.putfield 28, 3) := by decide +kernel
theorem dX4_init_40 : decode cX4_init 40 = .ok (.aload_n 0, 1) := by decide +kernel
theorem dX4_init_41 : decode cX4_init 41 = .ok (.bipush 36, 2) := by decide +kernel
theorem dX4_init_43 : decode cX4_init 43 = .ok (.newarray .int, 2) := by decide +kernel
theorem dX4_init_45 : decode cX4_init 45 = .ok (.putfield 31, 3) := by decide +kernel
theorem dX4_init_48 : decode cX4_init 48 = .ok (.return_, 1) := by decide +kernel
theorem dX4_reset_0 : decode cX4_reset 0 = .ok (.aload_n 0, 1) := by decide +kernel
theorem dX4_reset_1 : decode cX4_reset 1 = .ok (.iload_n 1, 1) := by decide +kernel
theorem dX4_reset_2 : decode cX4_reset 2 = .ok (.putfield 9, 3) := by decide +kernel
theorem dX4_reset_5 : decode cX4_reset 5 = .ok (.aload_n 0, 1) := by decide +kernel
theorem dX4_reset_6 : decode cX4_reset 6 = .ok (.iload_n 2, 1) := by decide +kernel
theorem dX4_reset_7 : decode cX4_reset 7 = .ok (.putfield 15, 3) := by decide +kernel
theorem dX4_reset_10 : decode cX4_reset 10 = .ok (.aload_n 0, 1) := by decide +kernel
theorem dX4_reset_11 : decode cX4_reset 11 = .ok (.getfield 24, 3) := by decide +kernel
theorem dX4_reset_14 : decode cX4_reset 14 = .ok (.iconst 0, 1) := by decide +kernel
theorem dX4_reset_15 : decode cX4_reset 15 = .ok (.invokestatic 34, 3) := by decide +kernel
theorem dX4_reset_18 : decode cX4_reset 18 = .ok (.aload_n 0, 1) := by decide +kernel
theorem dX4_reset_19 : decode cX4_reset 19 = .ok (.getfield 28, 3) := by decide +kernel
theorem dX4_reset_22 : decode cX4_reset 22 = .ok (.iconst 1, 1) := by decide +kernel
theorem dX4_reset_23 : decode cX4_reset 23 = .ok (.invokestatic 34, 3) := by decide +kernel
theorem dX4_reset_26 : decode cX4_reset 26 = .ok (.aload_n 0, 1) := by decide +kernel
theorem dX4_reset_27 : decode cX4_reset 27 = .ok (.invokevirtual 40, 3) := by decide +kernel
theorem dX4_reset_30 : decode cX4_reset 30 = .ok (.return_, 1) := by decide +kernel
theorem dX4_put_0 : decode cX4_put 0 = .ok (.iconst 1, 1) := by decide +kernel
theorem dX4_put_1 : decode cX4_put 1 = .ok (.iload_n 3, 1) := by decide +kernel
theorem dX4_put_2 : decode cX4_put 2 = .ok (.invokestatic 43, 3) := by decide +kernel
theorem dX4_put_5 : decode cX4_put 5 = .ok (.iload 4, 2) := by decide +kernel
theorem dX4_put_7 : decode cX4_put 7 = .ok (.invokestatic 49, 3) := by decide +kernel
theorem dX4_put_10 : decode cX4_put 10 = .ok (.invokestatic 53, 3) := by decide +kernel
theorem dX4_put_13 : decode cX4_put 13 = .ok (.istore 5, 2) := by decide +kernel
theorem dX4_put_15 : decode cX4_put 15 = .ok (.aload_n 0, 1) := by decide +kernel
theorem dX4_put_16 : decode cX4_put 16 = .ok (.getfield 24, 3) := by decide +kernel
theorem dX4_put_19 : decode cX4_put 19 = .ok (.iload_n 1, 1) := by decide +kernel
theorem dX4_put_20 : decode cX4_put 20 = .ok (.bipush 6, 2) := by decide +kernel
theorem dX4_put_22 : decode cX4_put 22 = .ok (.imul, 1) := by decide +kernel
theorem dX4_put_23 : decode cX4_put 23 = .ok (.iload_n 2, 1) := by decide +kernel
theorem dX4_put_24 : decode cX4_put 24 = .ok (.iadd, 1) := by decide +kernel
theorem dX4_put_25 : decode cX4_put 25 = .ok (.iload_n 3, 1) := by decide +kernel
theorem dX4_put_26 : decode cX4_put 26 = .ok (.iload 5, 2) := by decide +kernel
theorem dX4_put_28 : decode cX4_put 28 = .ok (.idiv, 1) := by decide +kernel
theorem dX4_put_29 : decode cX4_put 29 = .ok (.iastore, 1) := by decide +kernel
theorem dX4_put_30 : decode cX4_put 30 = .ok (.aload_n 0, 1) := by decide +kernel
theorem dX4_put_31 : decode cX4_put 31 = .ok (.getfield 28, 3) := by decide +kernel
theorem dX4_put_34 : decode cX4_put 34 = .ok (.iload_n 1, 1) := by decide +kernel
theorem dX4_put_35 : decode cX4_put 35 = .ok (.bipush 6, 2) := by decide +kernel
theorem dX4_put_37 : decode cX4_put 37 = .ok (.imul, 1) := by decide +kernel
theorem dX4_put_38 : decode cX4_put 38 = .ok (.iload_n 2, 1) := by decide +kernel
theorem dX4_put_39 : decode cX4_put 39 = .ok (.iadd, 1) := by decide +kernel
theorem dX4_put_40 : decode cX4_put 40 = .ok (.iload 4, 2) := by decide +kernel
theorem dX4_put_42 : decode cX4_put 42 = .ok (.iload 5, 2) := by decide +kernel
theorem dX4_put_44 : decode cX4_put 44 = .ok (.idiv, 1) := by decide +kernel
theorem dX4_put_45 : decode cX4_put 45 = .ok (.iastore, 1) := by decide +kernel
theorem dX4_put_46 : decode cX4_put 46 = .ok (.aload_n 0, 1) := by decide +kernel
theorem dX4_put_47 : decode cX4_put 47 = .ok (.invokevirtual 40, 3) := by decide +kernel
theorem dX4_put_50 : decode cX4_put 50 = .ok (.return_, 1) := by decide +kernel
theorem dX4_lifted_0 : decode cX4_lifted 0 = .ok (.iconst 1, 1) := by decide +kernel
theorem dX4_lifted_1 : decode cX4_lifted 1 = .ok (.aload_n 0, 1) := by decide +kernel
theorem dX4_lifted_2 : decode cX4_lifted 2 = .ok (.getfield 31, 3) := by decide +kernel
theorem dX4_lifted_5 : decode cX4_lifted 5 = .ok (.iload_n 1, 1) := by decide +kernel
theorem dX4_lifted_6 : decode cX4_lifted 6 = .ok (.bipush 6, 2) := by decide +kernel
theorem dX4_lifted_8 : decode cX4_lifted 8 = .ok (.imul, 1) := by decide +kernel
theorem dX4_lifted_9 : decode cX4_lifted 9 = .ok (.iload_n 2, 1) := by decide +kernel
theorem dX4_lifted_10 : decode cX4_lifted 10 = .ok (.iadd, 1) := by decide +kernel
theorem dX4_lifted_11 : decode cX4_lifted 11 = .ok (.iaload, 1) := by decide +kernel
theorem dX4_lifted_12 : decode cX4_lifted 12 = .ok (.iadd, 1) := by decide +kernel
theorem dX4_lifted_13 : decode cX4_lifted 13 = .ok (.aload_n 0, 1) := by decide +kernel
theorem dX4_lifted_14 : decode cX4_lifted 14 = .ok (.getfield 21, 3) := by decide +kernel
theorem dX4_lifted_17 : decode cX4_lifted 17 = .ok (.isub, 1) := by decide +kernel
theorem dX4_lifted_18 : decode cX4_lifted 18 = .ok (.ireturn, 1) := by decide +kernel
theorem dX4_value_0 : decode cX4_value 0 = .ok (.iconst 0, 1) := by decide +kernel
theorem dX4_value_1 : decode cX4_value 1 = .ok (.istore 5, 2) := by decide +kernel
theorem dX4_value_3 : decode cX4_value 3 = .ok (.iload 5, 2) := by decide +kernel
theorem dX4_value_5 : decode cX4_value 5 = .ok (.aload_n 0, 1) := by decide +kernel
theorem dX4_value_6 : decode cX4_value 6 = .ok (.getfield 15, 3) := by decide +kernel
theorem dX4_value_9 : decode cX4_value 9 = .ok (.if_icmp .ge 39, 3) := by decide +kernel
theorem dX4_value_12 : decode cX4_value 12 = .ok (.aload 4, 2) := by decide +kernel
theorem dX4_value_14 : decode cX4_value 14 = .ok (.aload_n 2, 1) := by decide +kernel
theorem dX4_value_15 : decode cX4_value 15 = .ok (.getfield 56, 3) := by decide +kernel
theorem dX4_value_18 : decode cX4_value 18 = .ok (.iload 5, 2) := by decide +kernel
theorem dX4_value_20 : decode cX4_value 20 = .ok (.aaload, 1) := by decide +kernel
theorem dX4_value_21 : decode cX4_value 21 = .ok (.aload_n 0, 1) := by decide +kernel
theorem dX4_value_22 : decode cX4_value 22 = .ok (.getfield 31, 3) := by decide +kernel
theorem dX4_value_25 : decode cX4_value 25 = .ok (.iload_n 1, 1) := by decide +kernel
theorem dX4_value_26 : decode cX4_value 26 = .ok (.bipush 6, 2) := by decide +kernel
theorem dX4_value_28 : decode cX4_value 28 = .ok (.imul, 1) := by decide +kernel
theorem dX4_value_29 : decode cX4_value 29 = .ok (.iload 5, 2) := by decide +kernel
theorem dX4_value_31 : decode cX4_value 31 = .ok (.iadd, 1) := by decide +kernel
theorem dX4_value_32 : decode cX4_value 32 = .ok (.iaload, 1) := by decide +kernel
theorem dX4_value_33 : decode cX4_value 33 = .ok (.invokevirtual 62, 3) := by decide +kernel
theorem dX4_value_36 : decode cX4_value 36 = .ok (.aload_n 3, 1) := by decide +kernel
theorem dX4_value_37 : decode cX4_value 37 = .ok (.aload 4, 2) := by decide +kernel
theorem dX4_value_39 : decode cX4_value 39 = .ok (.invokevirtual 68, 3) := by decide +kernel
theorem dX4_value_42 : decode cX4_value 42 = .ok (.iinc 5 1, 3) := by decide +kernel
theorem dX4_value_45 : decode cX4_value 45 = .ok (.goto (-42), 3) := by decide +kernel
theorem dX4_value_48 : decode cX4_value 48 = .ok (.return_, 1) := by decide +kernel
theorem dX4_dominated_0 : decode cX4_dominated 0 = .ok (.iconst 0, 1) := by decide +kernel
theorem dX4_dominated_1 : decode cX4_dominated 1 = .ok (.istore_n 3, 1) := by decide +kernel
theorem dX4_dominated_2 : decode cX4_dominated 2 = .ok (.iconst 0, 1) := by decide +kernel
theorem dX4_dominated_3 : decode cX4_dominated 3 = .ok (.istore 4, 2) := by decide +kernel
theorem dX4_dominated_5 : decode cX4_dominated 5 = .ok (.iload 4, 2) := by decide +kernel
theorem dX4_dominated_7 : decode cX4_dominated 7 = .ok (.aload_n 0, 1) := by decide +kernel
theorem dX4_dominated_8 : decode cX4_dominated 8 = .ok (.getfield 9, 3) := by decide +kernel
theorem dX4_dominated_11 : decode cX4_dominated 11 = .ok (.if_icmp .ge 60, 3) := by decide +kernel
theorem dX4_dominated_14 : decode cX4_dominated 14 = .ok (.iconst 0, 1) := by decide +kernel
theorem dX4_dominated_15 : decode cX4_dominated 15 = .ok (.istore 5, 2) := by decide +kernel
theorem dX4_dominated_17 : decode cX4_dominated 17 = .ok (.iload 5, 2) := by decide +kernel
theorem dX4_dominated_19 : decode cX4_dominated 19 = .ok (.aload_n 0, 1) := by decide +kernel
theorem dX4_dominated_20 : decode cX4_dominated 20 = .ok (.getfield 9, 3) := by decide +kernel
theorem dX4_dominated_23 : decode cX4_dominated 23 = .ok (.if_icmp .ge 42, 3) := by decide +kernel
theorem dX4_dominated_26 : decode cX4_dominated 26 = .ok (.iload_n 1, 1) := by decide +kernel
theorem dX4_dominated_27 : decode cX4_dominated 27 = .ok (.iload 4, 2) := by decide +kernel
theorem dX4_dominated_29 : decode cX4_dominated 29 = .ok (.ishr, 1) := by decide +kernel
theorem dX4_dominated_30 : decode cX4_dominated 30 = .ok (.iload_n 1, 1) := by decide +kernel
theorem dX4_dominated_31 : decode cX4_dominated 31 = .ok (.iload 5, 2) := by decide +kernel
theorem dX4_dominated_33 : decode cX4_dominated 33 = .ok (.ishr, 1) := by decide +kernel
theorem dX4_dominated_34 : decode cX4_dominated 34 = .ok (.iand, 1) := by decide +kernel
theorem dX4_dominated_35 : decode cX4_dominated 35 = .ok (.iconst 1, 1) := by decide +kernel
theorem dX4_dominated_36 : decode cX4_dominated 36 = .ok (.iand, 1) := by decide +kernel
theorem dX4_dominated_37 : decode cX4_dominated 37 = .ok (.ifCond .eq 22, 3) := by decide +kernel
theorem dX4_dominated_40 : decode cX4_dominated 40 = .ok (.aload_n 0, 1) := by decide +kernel
theorem dX4_dominated_41 : decode cX4_dominated 41 = .ok (.iload 5, 2) := by decide +kernel
theorem dX4_dominated_43 : decode cX4_dominated 43 = .ok (.iload 4, 2) := by decide +kernel
theorem dX4_dominated_45 : decode cX4_dominated 45 = .ok (.iload_n 2, 1) := by decide +kernel
theorem dX4_dominated_46 : decode cX4_dominated 46 = .ok (.invokevirtual 72, 3) := by decide +kernel
theorem dX4_dominated_49 : decode cX4_dominated 49 = .ok (.ifCond .eq 10, 3) := by decide +kernel
theorem dX4_dominated_52 : decode cX4_dominated 52 = .ok (.iload_n 3, 1) := by decide +kernel
theorem dX4_dominated_53 : decode cX4_dominated 53 = .ok (.iconst 1, 1) := by decide +kernel
theorem dX4_dominated_54 : decode cX4_dominated 54 = .ok (.iload 4, 2) := by decide +kernel
theorem dX4_dominated_56 : decode cX4_dominated 56 = .ok (.ishl, 1) := by decide +kernel
theorem dX4_dominated_57 : decode cX4_dominated 57 = .ok (.ior, 1) := by decide +kernel
theorem dX4_dominated_58 : decode cX4_dominated 58 = .ok (.istore_n 3, 1) := by decide +kernel
theorem dX4_dominated_59 : decode cX4_dominated 59 = .ok (.iinc 5 1, 3) := by decide +kernel
theorem dX4_dominated_62 : decode cX4_dominated 62 = .ok (.goto (-45), 3) := by decide +kernel
theorem dX4_dominated_65 : decode cX4_dominated 65 = .ok (.iinc 4 1, 3) := by decide +kernel
theorem dX4_dominated_68 : decode cX4_dominated 68 = .ok (.goto (-63), 3) := by decide +kernel
theorem dX4_dominated_71 : decode cX4_dominated 71 = .ok (.iload_n 3, 1) := by decide +kernel
theorem dX4_dominated_72 : decode cX4_dominated 72 = .ok (.ireturn, 1) := by decide +kernel
theorem dX4_isMore_0 : decode cX4_isMore 0 = .ok (.iconst 0, 1) := by decide +kernel
theorem dX4_isMore_1 : decode cX4_isMore 1 = .ok (.istore 4, 2) := by decide +kernel
theorem dX4_isMore_3 : decode cX4_isMore 3 = .ok (.iload 4, 2) := by decide +kernel
theorem dX4_isMore_5 : decode cX4_isMore 5 = .ok (.aload_n 0, 1) := by decide +kernel
theorem dX4_isMore_6 : decode cX4_isMore 6 = .ok (.getfield 15, 3) := by decide +kernel
theorem dX4_isMore_9 : decode cX4_isMore 9 = .ok (.if_icmp .ge 47, 3) := by decide +kernel
theorem dX4_isMore_12 : decode cX4_isMore 12 = .ok (.iload_n 3, 1) := by decide +kernel
theorem dX4_isMore_13 : decode cX4_isMore 13 = .ok (.iload 4, 2) := by decide +kernel
theorem dX4_isMore_15 : decode cX4_isMore 15 = .ok (.ishr, 1) := by decide +kernel
theorem dX4_isMore_16 : decode cX4_isMore 16 = .ok (.iconst 1, 1) := by decide +kernel
theorem dX4_isMore_17 : decode cX4_isMore 17 = .ok (.iand, 1) := by decide +kernel
theorem dX4_isMore_18 : decode cX4_isMore 18 = .ok (.ifCond .eq 32, 3) := by decide +kernel
theorem dX4_isMore_21 : decode cX4_isMore 21 = .ok (.aload_n 0, 1) := by decide +kernel
theorem dX4_isMore_22 : decode cX4_isMore 22 = .ok (.getfield 31, 3) := by decide +kernel
theorem dX4_isMore_25 : decode cX4_isMore 25 = .ok (.iload_n 1, 1) := by decide +kernel
theorem dX4_isMore_26 : decode cX4_isMore 26 = .ok (.bipush 6, 2) := by decide +kernel
theorem dX4_isMore_28 : decode cX4_isMore 28 = .ok (.imul, 1) := by decide +kernel
theorem dX4_isMore_29 : decode cX4_isMore 29 = .ok (.iload 4, 2) := by decide +kernel
theorem dX4_isMore_31 : decode cX4_isMore 31 = .ok (.iadd, 1) := by decide +kernel
theorem dX4_isMore_32 : decode cX4_isMore 32 = .ok (.iaload, 1) := by decide +kernel
theorem dX4_isMore_33 : decode cX4_isMore 33 = .ok (.aload_n 0, 1) := by decide +kernel
theorem dX4_isMore_34 : decode cX4_isMore 34 = .ok (.getfield 31, 3) := by decide +kernel
theorem dX4_isMore_37 : decode cX4_isMore 37 = .ok (.iload_n 2, 1) := by decide +kernel
theorem dX4_isMore_38 : decode cX4_isMore 38 = .ok (.bipush 6, 2) := by decide +kernel
theorem dX4_isMore_40 : decode cX4_isMore 40 = .ok (.imul, 1) := by decide +kernel
theorem dX4_isMore_41 : decode cX4_isMore 41 = .ok (.iload 4, 2) := by decide +kernel
theorem dX4_isMore_43 : decode cX4_isMore 43 = .ok (.iadd, 1) := by decide +kernel
theorem dX4_isMore_44 : decode cX4_isMore 44 = .ok (.iaload, 1) := by decide +kernel
theorem dX4_isMore_45 : decode cX4_isMore 45 = .ok (.if_icmp .gt 5, 3) := by decide +kernel
theorem dX4_isMore_48 : decode cX4_isMore 48 = .ok (.iconst 0, 1) := by decide +kernel
theorem dX4_isMore_49 : decode cX4_isMore 49 = .ok (.ireturn, 1) := by decide +kernel
theorem dX4_isMore_50 : decode cX4_isMore 50 = .ok (.iinc 4 1, 3) := by decide +kernel
theorem dX4_isMore_53 : decode cX4_isMore 53 = .ok (.goto (-50), 3) := by decide +kernel
theorem dX4_isMore_56 : decode cX4_isMore 56 = .ok (.iconst 1, 1) := by decide +kernel
theorem dX4_isMore_57 : decode cX4_isMore 57 = .ok (.ireturn, 1) := by decide +kernel
theorem dX4_makeWhole_0 : decode cX4_makeWhole 0 = .ok (.aload_n 0, 1) := by decide +kernel
theorem dX4_makeWhole_1 : decode cX4_makeWhole 1 = .ok (.iconst 1, 1) := by decide +kernel
theorem dX4_makeWhole_2 : decode cX4_makeWhole 2 = .ok (.putfield 18, 3) := by decide +kernel
theorem dX4_makeWhole_5 : decode cX4_makeWhole 5 = .ok (.iconst 0, 1) := by decide +kernel
theorem dX4_makeWhole_6 : decode cX4_makeWhole 6 = .ok (.istore_n 1, 1) := by decide +kernel
theorem dX4_makeWhole_7 : decode cX4_makeWhole 7 = .ok (.iload_n 1, 1) := by decide +kernel
theorem dX4_makeWhole_8 : decode cX4_makeWhole 8 = .ok (.aload_n 0, 1) := by decide +kernel
theorem dX4_makeWhole_9 : decode cX4_makeWhole 9 = .ok (.getfield 28, 3) := by decide +kernel
theorem dX4_makeWhole_12 : decode cX4_makeWhole 12 = .ok (.arraylength, 1) := by decide +kernel
theorem dX4_makeWhole_13 : decode cX4_makeWhole 13 = .ok (.if_icmp .ge 42, 3) := by decide +kernel
theorem dX4_makeWhole_16 : decode cX4_makeWhole 16 = .ok (.aload_n 0, 1) := by decide +kernel
theorem dX4_makeWhole_17 : decode cX4_makeWhole 17 = .ok (.dup, 1) := by decide +kernel
theorem dX4_makeWhole_18 : decode cX4_makeWhole 18 = .ok (.getfield 18, 3) := by decide +kernel
theorem dX4_makeWhole_21 : decode cX4_makeWhole 21 = .ok (.aload_n 0, 1) := by decide +kernel
theorem dX4_makeWhole_22 : decode cX4_makeWhole 22 = .ok (.getfield 28, 3) := by decide +kernel
theorem dX4_makeWhole_25 : decode cX4_makeWhole 25 = .ok (.iload_n 1, 1) := by decide +kernel
theorem dX4_makeWhole_26 : decode cX4_makeWhole 26 = .ok (.iaload, 1) := by decide +kernel
theorem dX4_makeWhole_27 : decode cX4_makeWhole 27 = .ok (.iconst 1, 1) := by decide +kernel
theorem dX4_makeWhole_28 : decode cX4_makeWhole 28 = .ok (.aload_n 0, 1) := by decide +kernel
theorem dX4_makeWhole_29 : decode cX4_makeWhole 29 = .ok (.getfield 18, 3) := by decide +kernel
theorem dX4_makeWhole_32 : decode cX4_makeWhole 32 = .ok (.aload_n 0, 1) := by decide +kernel
theorem dX4_makeWhole_33 : decode cX4_makeWhole 33 = .ok (.getfield 28, 3) := by decide +kernel
theorem dX4_makeWhole_36 : decode cX4_makeWhole 36 = .ok (.iload_n 1, 1) := by decide +kernel
theorem dX4_makeWhole_37 : decode cX4_makeWhole 37 = .ok (.iaload, 1) := by decide +kernel
theorem dX4_makeWhole_38 : decode cX4_makeWhole 38 = .ok (.invokestatic 49, 3) := by decide +kernel
theorem dX4_makeWhole_41 : decode cX4_makeWhole 41 = .ok (.invokestatic 53, 3) := by decide +kernel
theorem dX4_makeWhole_44 : decode cX4_makeWhole 44 = .ok (.idiv, 1) := by decide +kernel
theorem dX4_makeWhole_45 : decode cX4_makeWhole 45 = .ok (.imul, 1) := by decide +kernel
theorem dX4_makeWhole_46 : decode cX4_makeWhole 46 = .ok (.putfield 18, 3) := by decide +kernel
theorem dX4_makeWhole_49 : decode cX4_makeWhole 49 = .ok (.iinc 1 1, 3) := by decide +kernel
theorem dX4_makeWhole_52 : decode cX4_makeWhole 52 = .ok (.goto (-45), 3) := by decide +kernel
theorem dX4_makeWhole_55 : decode cX4_makeWhole 55 = .ok (.aload_n 0, 1) := by decide +kernel
theorem dX4_makeWhole_56 : decode cX4_makeWhole 56 = .ok (.ldc 78, 2) := by decide +kernel
theorem dX4_makeWhole_58 : decode cX4_makeWhole 58 = .ok (.putfield 21, 3) := by decide +kernel
theorem dX4_makeWhole_61 : decode cX4_makeWhole 61 = .ok (.iconst 0, 1) := by decide +kernel
theorem dX4_makeWhole_62 : decode cX4_makeWhole 62 = .ok (.istore_n 1, 1) := by decide +kernel
theorem dX4_makeWhole_63 : decode cX4_makeWhole 63 = .ok (.iload_n 1, 1) := by decide +kernel
theorem dX4_makeWhole_64 : decode cX4_makeWhole 64 = .ok (.aload_n 0, 1) := by decide +kernel
theorem dX4_makeWhole_65 : decode cX4_makeWhole 65 = .ok (.getfield 9, 3) := by decide +kernel
theorem dX4_makeWhole_68 : decode cX4_makeWhole 68 = .ok (.if_icmp .ge 77, 3) := by decide +kernel
theorem dX4_makeWhole_71 : decode cX4_makeWhole 71 = .ok (.iconst 0, 1) := by decide +kernel
theorem dX4_makeWhole_72 : decode cX4_makeWhole 72 = .ok (.istore_n 2, 1) := by decide +kernel
theorem dX4_makeWhole_73 : decode cX4_makeWhole 73 = .ok (.iload_n 2, 1) := by decide +kernel
theorem dX4_makeWhole_74 : decode cX4_makeWhole 74 = .ok (.aload_n 0, 1) := by decide +kernel
theorem dX4_makeWhole_75 : decode cX4_makeWhole 75 = .ok (.getfield 15, 3) := by decide +kernel
theorem dX4_makeWhole_78 : decode cX4_makeWhole 78 = .ok (.if_icmp .ge 61, 3) := by decide +kernel
theorem dX4_makeWhole_81 : decode cX4_makeWhole 81 = .ok (.iload_n 1, 1) := by decide +kernel
theorem dX4_makeWhole_82 : decode cX4_makeWhole 82 = .ok (.bipush 6, 2) := by decide +kernel
theorem dX4_makeWhole_84 : decode cX4_makeWhole 84 = .ok (.imul, 1) := by decide +kernel
theorem dX4_makeWhole_85 : decode cX4_makeWhole 85 = .ok (.iload_n 2, 1) := by decide +kernel
theorem dX4_makeWhole_86 : decode cX4_makeWhole 86 = .ok (.iadd, 1) := by decide +kernel
theorem dX4_makeWhole_87 : decode cX4_makeWhole 87 = .ok (.istore_n 3, 1) := by decide +kernel
theorem dX4_makeWhole_88 : decode cX4_makeWhole 88 = .ok (.aload_n 0, 1) := by decide +kernel
theorem dX4_makeWhole_89 : decode cX4_makeWhole 89 = .ok (.getfield 31, 3) := by decide +kernel
theorem dX4_makeWhole_92 : decode cX4_makeWhole 92 = .ok (.iload_n 3, 1) := by decide +kernel
theorem dX4_makeWhole_93 : decode cX4_makeWhole 93 = .ok (.aload_n 0, 1) := by decide +kernel
theorem dX4_makeWhole_94 : decode cX4_makeWhole 94 = .ok (.getfield 24, 3) := by decide +kernel
theorem dX4_makeWhole_97 : decode cX4_makeWhole 97 = .ok (.iload_n 3, 1) := by decide +kernel
theorem dX4_makeWhole_98 : decode cX4_makeWhole 98 = .ok (.iaload, 1) := by decide +kernel
theorem dX4_makeWhole_99 : decode cX4_makeWhole 99 = .ok (.aload_n 0, 1) := by decide +kernel
theorem dX4_makeWhole_100 : decode cX4_makeWhole 100 = .ok (.getfield 18, 3) := by decide +kernel
theorem dX4_makeWhole_103 : decode cX4_makeWhole 103 = .ok (.iconst 1, 1) := by decide +kernel
theorem dX4_makeWhole_104 : decode cX4_makeWhole 104 = .ok (.aload_n 0, 1) := by decide +kernel
theorem dX4_makeWhole_105 : decode cX4_makeWhole 105 = .ok (.getfield 28, 3) := by decide +kernel
theorem dX4_makeWhole_108 : decode cX4_makeWhole 108 = .ok (.iload_n 3, 1) := by decide +kernel
theorem dX4_makeWhole_109 : decode cX4_makeWhole 109 = .ok (.iaload, 1) := by decide +kernel
theorem dX4_makeWhole_110 : decode cX4_makeWhole 110 = .ok (.invokestatic 53, 3) := by decide +kernel
theorem dX4_makeWhole_113 : decode cX4_makeWhole 113 = .ok (.idiv, 1) := by decide +kernel
theorem dX4_makeWhole_114 : decode cX4_makeWhole 114 = .ok (.imul, 1) := by decide +kernel
theorem dX4_makeWhole_115 : decode cX4_makeWhole 115 = .ok (.iastore, 1) := by decide +kernel
theorem dX4_makeWhole_116 : decode cX4_makeWhole 116 = .ok (.aload_n 0, 1) := by decide +kernel
theorem dX4_makeWhole_117 : decode cX4_makeWhole 117 = .ok (.aload_n 0, 1) := by decide +kernel
theorem dX4_makeWhole_118 : decode cX4_makeWhole 118 = .ok (.getfield 21, 3) := by decide +kernel
theorem dX4_makeWhole_121 : decode cX4_makeWhole 121 = .ok (.aload_n 0, 1) := by decide +kernel
theorem dX4_makeWhole_122 : decode cX4_makeWhole 122 = .ok (.getfield 31, 3) := by decide +kernel
theorem dX4_makeWhole_125 : decode cX4_makeWhole 125 = .ok (.iload_n 3, 1) := by decide +kernel
theorem dX4_makeWhole_126 : decode cX4_makeWhole 126 = .ok (.iaload, 1) := by decide +kernel
theorem dX4_makeWhole_127 : decode cX4_makeWhole 127 = .ok (.invokestatic 79, 3) := by decide +kernel
theorem dX4_makeWhole_130 : decode cX4_makeWhole 130 = .ok (.putfield 21, 3) := by decide +kernel
theorem dX4_makeWhole_133 : decode cX4_makeWhole 133 = .ok (.iinc 2 1, 3) := by decide +kernel
theorem dX4_makeWhole_136 : decode cX4_makeWhole 136 = .ok (.goto (-63), 3) := by decide +kernel
theorem dX4_makeWhole_139 : decode cX4_makeWhole 139 = .ok (.iinc 1 1, 3) := by decide +kernel
theorem dX4_makeWhole_142 : decode cX4_makeWhole 142 = .ok (.goto (-79), 3) := by decide +kernel
theorem dX4_makeWhole_145 : decode cX4_makeWhole 145 = .ok (.return_, 1) := by decide +kernel
theorem dX4_commonDivisor_0 : decode cX4_commonDivisor 0 = .ok (.iload_n 0, 1) := by decide +kernel
theorem dX4_commonDivisor_1 : decode cX4_commonDivisor 1 = .ok (.istore_n 2, 1) := by decide +kernel
theorem dX4_commonDivisor_2 : decode cX4_commonDivisor 2 = .ok (.iload_n 1, 1) := by decide +kernel
theorem dX4_commonDivisor_3 : decode cX4_commonDivisor 3 = .ok (.istore_n 3, 1) := by decide +kernel
theorem dX4_commonDivisor_4 : decode cX4_commonDivisor 4 = .ok (.iconst 0, 1) := by decide +kernel
theorem dX4_commonDivisor_5 : decode cX4_commonDivisor 5 = .ok (.istore 4, 2) := by decide +kernel
theorem dX4_commonDivisor_7 : decode cX4_commonDivisor 7 = .ok (.iload 4, 2) := by decide +kernel
theorem dX4_commonDivisor_9 : decode cX4_commonDivisor 9 = .ok (.bipush 100, 2) := by decide +kernel
theorem dX4_commonDivisor_11 : decode cX4_commonDivisor 11 = .ok (.if_icmp .ge 23, 3) := by decide +kernel
theorem dX4_commonDivisor_14 : decode cX4_commonDivisor 14 = .ok (.iload_n 3, 1) := by decide +kernel
theorem dX4_commonDivisor_15 : decode cX4_commonDivisor 15 = .ok (.ifCond .eq 19, 3) := by decide +kernel
theorem dX4_commonDivisor_18 : decode cX4_commonDivisor 18 = .ok (.iload_n 2, 1) := by decide +kernel
theorem dX4_commonDivisor_19 : decode cX4_commonDivisor 19 = .ok (.iload_n 3, 1) := by decide +kernel
theorem dX4_commonDivisor_20 : decode cX4_commonDivisor 20 = .ok (.irem, 1) := by decide +kernel
theorem dX4_commonDivisor_21 : decode cX4_commonDivisor 21 = .ok (.istore 5, 2) := by decide +kernel
theorem dX4_commonDivisor_23 : decode cX4_commonDivisor 23 = .ok (.iload_n 3, 1) := by decide +kernel
theorem dX4_commonDivisor_24 : decode cX4_commonDivisor 24 = .ok (.istore_n 2, 1) := by decide +kernel
theorem dX4_commonDivisor_25 : decode cX4_commonDivisor 25 = .ok (.iload 5, 2) := by decide +kernel
theorem dX4_commonDivisor_27 : decode cX4_commonDivisor 27 = .ok (.istore_n 3, 1) := by decide +kernel
theorem dX4_commonDivisor_28 : decode cX4_commonDivisor 28 = .ok (.iinc 4 1, 3) := by decide +kernel
theorem dX4_commonDivisor_31 : decode cX4_commonDivisor 31 = .ok (.goto (-24), 3) := by decide +kernel
theorem dX4_commonDivisor_34 : decode cX4_commonDivisor 34 = .ok (.iload_n 2, 1) := by decide +kernel
theorem dX4_commonDivisor_35 : decode cX4_commonDivisor 35 = .ok (.ireturn, 1) := by decide +kernel
