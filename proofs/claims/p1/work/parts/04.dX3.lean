theorem dX3_init_0 : decode cX3_init 0 = .ok (.aload_n 0, 1) := by decide +kernel
theorem dX3_init_1 : decode cX3_init 1 = .ok (.invokespecial 3, 3) := by decide +kernel
theorem dX3_init_4 : decode cX3_init 4 = .ok (.aload_n 0, 1) := by decide +kernel
theorem dX3_init_5 : decode cX3_init 5 = .ok (.bipush 64, 2) := by decide +kernel
theorem dX3_init_7 : decode cX3_init 7 = .ok (.newarray .int, 2) := by decide +kernel
theorem dX3_init_9 : decode cX3_init 9 = .ok (.putfield 9, 3) := by decide +kernel
theorem dX3_init_12 : decode cX3_init 12 = .ok (.aload_n 0, 1) := by decide +kernel
theorem dX3_init_13 : decode cX3_init 13 = .ok (.sipush 5544, 3) := by decide +kernel
theorem dX3_init_16 : decode cX3_init 16 = .ok (.newarray .int, 2) := by decide +kernel
theorem dX3_init_18 : decode cX3_init 18 = .ok (.putfield 15, 3) := by decide +kernel
theorem dX3_init_21 : decode cX3_init 21 = .ok (.aload_n 0, 1) := by decide +kernel
theorem dX3_init_22 : decode cX3_init 22 = .ok (.bipush 36, 2) := by decide +kernel
theorem dX3_init_24 : decode cX3_init 24 = .ok (.newarray .int, 2) := by decide +kernel
theorem dX3_init_26 : decode cX3_init 26 = .ok (.putfield 18, 3) := by decide +kernel
theorem dX3_init_29 : decode cX3_init 29 = .ok (.aload_n 0, 1) := by decide +kernel
theorem dX3_init_30 : decode cX3_init 30 = .ok (.bipush 6, 2) := by decide +kernel
theorem dX3_init_32 : decode cX3_init 32 = .ok (.newarray .int, 2) := by decide +kernel
theorem dX3_init_34 : decode cX3_init 34 = .ok (.putfield 21, 3) := by decide +kernel
theorem dX3_init_37 : decode cX3_init 37 = .ok (.aload_n 0, 1) := by decide +kernel
theorem dX3_init_38 : decode cX3_init 38 = .ok (.aload_n 1, 1) := by decide +kernel
theorem dX3_init_39 : decode cX3_init 39 = .ok (.putfield 24, 3) := by decide +kernel
theorem dX3_init_42 : decode cX3_init 42 = .ok (.bipush 7, 2) := by decide +kernel
theorem dX3_init_44 : decode cX3_init 44 = .ok (.newarray .int, 2) := by decide +kernel
theorem dX3_init_46 : decode cX3_init 46 = .ok (.astore_n 2, 1) := by decide +kernel
theorem dX3_init_47 : decode cX3_init 47 = .ok (.iconst 0, 1) := by decide +kernel
theorem dX3_init_48 : decode cX3_init 48 = .ok (.istore_n 3, 1) := by decide +kernel
theorem dX3_init_49 : decode cX3_init 49 = .ok (.iload_n 3, 1) := by decide +kernel
theorem dX3_init_50 : decode cX3_init 50 = .ok (.aload_n 0, 1) := by decide +kernel
theorem dX3_init_51 : decode cX3_init 51 = .ok (.getfield 9, 3) := by decide +kernel
theorem dX3_init_54 : decode cX3_init 54 = .ok (.arraylength, 1) := by decide +kernel
theorem dX3_init_55 : decode cX3_init 55 = .ok (.if_icmp .ge 26, 3) := by decide +kernel
theorem dX3_init_58 : decode cX3_init 58 = .ok (.aload_n 0, 1) := by decide +kernel
theorem dX3_init_59 : decode cX3_init 59 = .ok (.getfield 9, 3) := by decide +kernel
theorem dX3_init_62 : decode cX3_init 62 = .ok (.iload_n 3, 1) := by decide +kernel
theorem dX3_init_63 : decode cX3_init 63 = .ok (.aload_n 2, 1) := by decide +kernel
theorem dX3_init_64 : decode cX3_init 64 = .ok (.iload_n 3, 1) := by decide +kernel
theorem dX3_init_65 : decode cX3_init 65 = .ok (.invokestatic 28, 3) := by decide +kernel
theorem dX3_init_68 : decode cX3_init 68 = .ok (.dup2, 1) := by decide +kernel
theorem dX3_init_69 : decode cX3_init 69 = .ok (.iaload, 1) := by decide +kernel
theorem dX3_init_70 : decode cX3_init 70 = .ok (.dup_x2, 1) := by decide +kernel
theorem dX3_init_71 : decode cX3_init 71 = .ok (.iconst 1, 1) := by decide +kernel
theorem dX3_init_72 : decode cX3_init 72 = .ok (.iadd, 1) := by decide +kernel
theorem dX3_init_73 : decode cX3_init 73 = .ok (.iastore, 1) := by decide +kernel
theorem dX3_init_74 : decode cX3_init 74 = .ok (.iastore, 1) := by decide +kernel
theorem dX3_init_75 : decode cX3_init 75 = .ok (.iinc 3 1, 3) := by decide +kernel
theorem dX3_init_78 : decode cX3_init 78 = .ok (.goto (-29), 3) := by decide +kernel
theorem dX3_init_81 : decode cX3_init 81 = .ok (.aload_n 0, 1) := by decide +kernel
theorem dX3_init_82 : decode cX3_init 82 = .ok (.getfield 15, 3) := by decide +kernel
theorem dX3_init_85 : decode cX3_init 85 = .ok (.iconst 0, 1) := by decide +kernel
theorem dX3_init_86 : decode cX3_init 86 = .ok (.iconst 1, 1) := by decide +kernel
theorem dX3_init_87 : decode cX3_init 87 = .ok (.iastore, 1) := by decide +kernel
theorem dX3_init_88 : decode cX3_init 88 = .ok (.return_, 1) := by decide +kernel
theorem dX3_fill_0 : decode cX3_fill 0 = .ok (.iconst 1, 1) := by decide +kernel
theorem dX3_fill_1 : decode cX3_fill 1 = .ok (.istore_n 1, 1) := by decide +kernel
theorem dX3_fill_2 : decode cX3_fill 2 = .ok (.iload_n 1, 1) := by decide +kernel
theorem dX3_fill_3 : decode cX3_fill 3 = .ok (.iconst 1, 1) := by decide +kernel
theorem dX3_fill_4 : decode cX3_fill 4 = .ok (.aload_n 0, 1) := by decide +kernel
theorem dX3_fill_5 : decode cX3_fill 5 = .ok (.getfield 24, 3) := by decide +kernel
theorem dX3_fill_8 : decode cX3_fill 8 = .ok (.getfield 34, 3) := by decide +kernel
theorem dX3_fill_11 : decode cX3_fill 11 = .ok (.ishl, 1) := by decide +kernel
theorem dX3_fill_12 : decode cX3_fill 12 = .ok (.if_icmp .ge 47, 3) := by decide +kernel
theorem dX3_fill_15 : decode cX3_fill 15 = .ok (.iconst 1, 1) := by decide +kernel
theorem dX3_fill_16 : decode cX3_fill 16 = .ok (.istore_n 2, 1) := by decide +kernel
theorem dX3_fill_17 : decode cX3_fill 17 = .ok (.iload_n 2, 1) := by decide +kernel
theorem dX3_fill_18 : decode cX3_fill 18 = .ok (.iconst 1, 1) := by decide +kernel
theorem dX3_fill_19 : decode cX3_fill 19 = .ok (.aload_n 0, 1) := by decide +kernel
theorem dX3_fill_20 : decode cX3_fill 20 = .ok (.getfield 24, 3) := by decide +kernel
theorem dX3_fill_23 : decode cX3_fill 23 = .ok (.getfield 40, 3) := by decide +kernel
theorem dX3_fill_26 : decode cX3_fill 26 = .ok (.ishl, 1) := by decide +kernel
theorem dX3_fill_27 : decode cX3_fill 27 = .ok (.if_icmp .ge 26, 3) := by decide +kernel
theorem dX3_fill_30 : decode cX3_fill 30 = .ok (.iload_n 1, 1) := by decide +kernel
theorem dX3_fill_31 : decode cX3_fill 31 = .ok (.invokestatic 28, 3) := by decide +kernel
theorem dX3_fill_34 : decode cX3_fill 34 = .ok (.iload_n 2, 1) := by decide +kernel
theorem dX3_fill_35 : decode cX3_fill 35 = .ok (.invokestatic 28, 3) := by decide +kernel
theorem dX3_fill_38 : decode cX3_fill 38 = .ok (.if_icmp .ne 9, 3) := by decide +kernel
theorem dX3_fill_41 : decode cX3_fill 41 = .ok (.aload_n 0, 1) := by decide +kernel
theorem dX3_fill_42 : decode cX3_fill 42 = .ok (.iload_n 1, 1) := by decide +kernel
theorem dX3_fill_43 : decode cX3_fill 43 = .ok (.iload_n 2, 1) := by decide +kernel
theorem dX3_fill_44 : decode cX3_fill 44 = .ok (.invokevirtual 43, 3) := by decide +kernel
theorem dX3_fill_47 : decode cX3_fill 47 = .ok (.iinc 2 1, 3) := by decide +kernel
theorem dX3_fill_50 : decode cX3_fill 50 = .ok (.goto (-33), 3) := by decide +kernel
theorem dX3_fill_53 : decode cX3_fill 53 = .ok (.iinc 1 1, 3) := by decide +kernel
theorem dX3_fill_56 : decode cX3_fill 56 = .ok (.goto (-54), 3) := by decide +kernel
theorem dX3_fill_59 : decode cX3_fill 59 = .ok (.return_, 1) := by decide +kernel
theorem dX3_signOf_0 : decode cX3_signOf 0 = .ok (.aload_n 0, 1) := by decide +kernel
theorem dX3_signOf_1 : decode cX3_signOf 1 = .ok (.getfield 15, 3) := by decide +kernel
theorem dX3_signOf_4 : decode cX3_signOf 4 = .ok (.aload_n 0, 1) := by decide +kernel
theorem dX3_signOf_5 : decode cX3_signOf 5 = .ok (.iload_n 1, 1) := by decide +kernel
theorem dX3_signOf_6 : decode cX3_signOf 6 = .ok (.iload_n 2, 1) := by decide +kernel
theorem dX3_signOf_7 : decode cX3_signOf 7 = .ok (.invokevirtual 47, 3) := by decide +kernel
theorem dX3_signOf_10 : decode cX3_signOf 10 = .ok (.invokestatic 51, 3) := by decide +kernel
theorem dX3_signOf_13 : decode cX3_signOf 13 = .ok (.ireturn, 1) := by decide +kernel
theorem dX3_holds_0 : decode cX3_holds 0 = .ok (.aload_n 0, 1) := by decide +kernel
theorem dX3_holds_1 : decode cX3_holds 1 = .ok (.iload_n 1, 1) := by decide +kernel
theorem dX3_holds_2 : decode cX3_holds 2 = .ok (.iload_n 2, 1) := by decide +kernel
theorem dX3_holds_3 : decode cX3_holds 3 = .ok (.invokevirtual 55, 3) := by decide +kernel
theorem dX3_holds_6 : decode cX3_holds 6 = .ok (.istore_n 3, 1) := by decide +kernel
theorem dX3_holds_7 : decode cX3_holds 7 = .ok (.iload_n 3, 1) := by decide +kernel
theorem dX3_holds_8 : decode cX3_holds 8 = .ok (.ifCond .ne 5, 3) := by decide +kernel
theorem dX3_holds_11 : decode cX3_holds 11 = .ok (.iconst 0, 1) := by decide +kernel
theorem dX3_holds_12 : decode cX3_holds 12 = .ok (.ireturn, 1) := by decide +kernel
theorem dX3_holds_13 : decode cX3_holds 13 = .ok (.iconst 0, 1) := by decide +kernel
theorem dX3_holds_14 : decode cX3_holds 14 = .ok (.istore 4, 2) := by decide +kernel
theorem dX3_holds_16 : decode cX3_holds 16 = .ok (.iload 4, 2) := by decide +kernel
theorem dX3_holds_18 : decode cX3_holds 18 = .ok (.bipush 6, 2) := by decide +kernel
theorem dX3_holds_20 : decode cX3_holds 20 = .ok (.if_icmp .ge 44, 3) := by decide +kernel
theorem dX3_holds_23 : decode cX3_holds 23 = .ok (.iload_n 2, 1) := by decide +kernel
theorem dX3_holds_24 : decode cX3_holds 24 = .ok (.iload 4, 2) := by decide +kernel
theorem dX3_holds_26 : decode cX3_holds 26 = .ok (.ishr, 1) := by decide +kernel
theorem dX3_holds_27 : decode cX3_holds 27 = .ok (.iconst 1, 1) := by decide +kernel
theorem dX3_holds_28 : decode cX3_holds 28 = .ok (.iand, 1) := by decide +kernel
theorem dX3_holds_29 : decode cX3_holds 29 = .ok (.ifCond .eq 29, 3) := by decide +kernel
theorem dX3_holds_32 : decode cX3_holds 32 = .ok (.aload_n 0, 1) := by decide +kernel
theorem dX3_holds_33 : decode cX3_holds 33 = .ok (.iload_n 1, 1) := by decide +kernel
theorem dX3_holds_34 : decode cX3_holds 34 = .ok (.iload_n 2, 1) := by decide +kernel
theorem dX3_holds_35 : decode cX3_holds 35 = .ok (.iload 4, 2) := by decide +kernel
theorem dX3_holds_37 : decode cX3_holds 37 = .ok (.invokevirtual 58, 3) := by decide +kernel
theorem dX3_holds_40 : decode cX3_holds 40 = .ok (.aload_n 0, 1) := by decide +kernel
theorem dX3_holds_41 : decode cX3_holds 41 = .ok (.getfield 18, 3) := by decide +kernel
theorem dX3_holds_44 : decode cX3_holds 44 = .ok (.iload 4, 2) := by decide +kernel
theorem dX3_holds_46 : decode cX3_holds 46 = .ok (.bipush 6, 2) := by decide +kernel
theorem dX3_holds_48 : decode cX3_holds 48 = .ok (.imul, 1) := by decide +kernel
theorem dX3_holds_49 : decode cX3_holds 49 = .ok (.invokestatic 51, 3) := by decide +kernel
theorem dX3_holds_52 : decode cX3_holds 52 = .ok (.iload_n 3, 1) := by decide +kernel
theorem dX3_holds_53 : decode cX3_holds 53 = .ok (.if_icmp .eq 5, 3) := by decide +kernel
theorem dX3_holds_56 : decode cX3_holds 56 = .ok (.iconst 0, 1) := by decide +kernel
theorem dX3_holds_57 : decode cX3_holds 57 = .ok (.ireturn, 1) := by decide +kernel
theorem dX3_holds_58 : decode cX3_holds 58 = .ok (.iinc 4 1, 3) := by decide +kernel
theorem dX3_holds_61 : decode cX3_holds 61 = .ok (.goto (-45), 3) := by decide +kernel
theorem dX3_holds_64 : decode cX3_holds 64 = .ok (.iconst 0, 1) := by decide +kernel
theorem dX3_holds_65 : decode cX3_holds 65 = .ok (.istore 4, 2) := by decide +kernel
theorem dX3_holds_67 : decode cX3_holds 67 = .ok (.iload 4, 2) := by decide +kernel
theorem dX3_holds_69 : decode cX3_holds 69 = .ok (.aload_n 0, 1) := by decide +kernel
theorem dX3_holds_70 : decode cX3_holds 70 = .ok (.getfield 24, 3) := by decide +kernel
theorem dX3_holds_73 : decode cX3_holds 73 = .ok (.getfield 34, 3) := by decide +kernel
theorem dX3_holds_76 : decode cX3_holds 76 = .ok (.if_icmp .ge 32, 3) := by decide +kernel
theorem dX3_holds_79 : decode cX3_holds 79 = .ok (.iload_n 1, 1) := by decide +kernel
theorem dX3_holds_80 : decode cX3_holds 80 = .ok (.iload 4, 2) := by decide +kernel
theorem dX3_holds_82 : decode cX3_holds 82 = .ok (.ishr, 1) := by decide +kernel
theorem dX3_holds_83 : decode cX3_holds 83 = .ok (.iconst 1, 1) := by decide +kernel
theorem dX3_holds_84 : decode cX3_holds 84 = .ok (.iand, 1) := by decide +kernel
theorem dX3_holds_85 : decode cX3_holds 85 = .ok (.ifCond .ne 17, 3) := by decide +kernel
theorem dX3_holds_88 : decode cX3_holds 88 = .ok (.aload_n 0, 1) := by decide +kernel
theorem dX3_holds_89 : decode cX3_holds 89 = .ok (.iload 4, 2) := by decide +kernel
theorem dX3_holds_91 : decode cX3_holds 91 = .ok (.iload_n 1, 1) := by decide +kernel
theorem dX3_holds_92 : decode cX3_holds 92 = .ok (.iload_n 2, 1) := by decide +kernel
theorem dX3_holds_93 : decode cX3_holds 93 = .ok (.invokevirtual 62, 3) := by decide +kernel
theorem dX3_holds_96 : decode cX3_holds 96 = .ok (.iload_n 3, 1) := by decide +kernel
theorem dX3_holds_97 : decode cX3_holds 97 = .ok (.if_icmp .ne 5, 3) := by decide +kernel
theorem dX3_holds_100 : decode cX3_holds 100 = .ok (.iconst 0, 1) := by decide +kernel
theorem dX3_holds_101 : decode cX3_holds 101 = .ok (.ireturn, 1) := by decide +kernel
theorem dX3_holds_102 : decode cX3_holds 102 = .ok (.iinc 4 1, 3) := by decide +kernel
theorem dX3_holds_105 : decode cX3_holds 105 = .ok (.goto (-38), 3) := by decide +kernel
theorem dX3_holds_108 : decode cX3_holds 108 = .ok (.iconst 1, 1) := by decide +kernel
theorem dX3_holds_109 : decode cX3_holds 109 = .ok (.ireturn, 1) := by decide +kernel
theorem dX3_read_0 : decode cX3_read 0 = .ok (.iconst 0, 1) := by decide +kernel
theorem dX3_read_1 : decode cX3_read 1 = .ok (.istore 4, 2) := by decide +kernel
theorem dX3_read_3 : decode cX3_read 3 = .ok (.iload 4, 2) := by decide +kernel
theorem dX3_read_5 : decode cX3_read 5 = .ok (.bipush 6, 2) := by decide +kernel
theorem dX3_read_7 : decode cX3_read 7 = .ok (.if_icmp .ge 59, 3) := by decide +kernel
theorem dX3_read_10 : decode cX3_read 10 = .ok (.iload_n 2, 1) := by decide +kernel
theorem dX3_read_11 : decode cX3_read 11 = .ok (.iload 4, 2) := by decide +kernel
theorem dX3_read_13 : decode cX3_read 13 = .ok (.ishr, 1) := by decide +kernel
theorem dX3_read_14 : decode cX3_read 14 = .ok (.iconst 1, 1) := by decide +kernel
theorem dX3_read_15 : decode cX3_read 15 = .ok (.iand, 1) := by decide +kernel
theorem dX3_read_16 : decode cX3_read 16 = .ok (.ifCond .eq 44, 3) := by decide +kernel
theorem dX3_read_19 : decode cX3_read 19 = .ok (.aload_n 0, 1) := by decide +kernel
theorem dX3_read_20 : decode cX3_read 20 = .ok (.iload_n 1, 1) := by decide +kernel
theorem dX3_read_21 : decode cX3_read 21 = .ok (.iload_n 2, 1) := by decide +kernel
theorem dX3_read_22 : decode cX3_read 22 = .ok (.iload 4, 2) := by decide +kernel
theorem dX3_read_24 : decode cX3_read 24 = .ok (.invokevirtual 58, 3) := by decide +kernel
theorem dX3_read_27 : decode cX3_read 27 = .ok (.aload_n 3, 1) := by decide +kernel
theorem dX3_read_28 : decode cX3_read 28 = .ok (.getfield 66, 3) := by decide +kernel
theorem dX3_read_31 : decode cX3_read 31 = .ok (.iload 4, 2) := by decide +kernel
theorem dX3_read_33 : decode cX3_read 33 = .ok (.aaload, 1) := by decide +kernel
theorem dX3_read_34 : decode cX3_read 34 = .ok (.aload_n 0, 1) := by decide +kernel
theorem dX3_read_35 : decode cX3_read 35 = .ok (.getfield 18, 3) := by decide +kernel
theorem dX3_read_38 : decode cX3_read 38 = .ok (.iload 4, 2) := by decide +kernel
theorem dX3_read_40 : decode cX3_read 40 = .ok (.bipush 6, 2) := by decide +kernel
theorem dX3_read_42 : decode cX3_read 42 = .ok (.imul, 1) := by decide +kernel
theorem dX3_read_43 : decode cX3_read 43 = .ok (.bipush 6, 2) := by decide +kernel
theorem dX3_read_45 : decode cX3_read 45 = .ok (.aload_n 0, 1) := by decide +kernel
theorem dX3_read_46 : decode cX3_read 46 = .ok (.getfield 18, 3) := by decide +kernel
theorem dX3_read_49 : decode cX3_read 49 = .ok (.iload 4, 2) := by decide +kernel
theorem dX3_read_51 : decode cX3_read 51 = .ok (.bipush 6, 2) := by decide +kernel
theorem dX3_read_53 : decode cX3_read 53 = .ok (.imul, 1) := by decide +kernel
theorem dX3_read_54 : decode cX3_read 54 = .ok (.invokestatic 51, 3) := by decide +kernel
theorem dX3_read_57 : decode cX3_read 57 = .ok (.invokevirtual 72, 3) := by decide +kernel
theorem dX3_read_60 : decode cX3_read 60 = .ok (.iinc 4 1, 3) := by decide +kernel
theorem dX3_read_63 : decode cX3_read 63 = .ok (.goto (-60), 3) := by decide +kernel
theorem dX3_read_66 : decode cX3_read 66 = .ok (.return_, 1) := by decide +kernel
theorem dX3_expand_0 : decode cX3_expand 0 = .ok (.aload_n 0, 1) := by decide +kernel
theorem dX3_expand_1 : decode cX3_expand 1 = .ok (.iload_n 1, 1) := by decide +kernel
theorem dX3_expand_2 : decode cX3_expand 2 = .ok (.iload_n 2, 1) := by decide +kernel
theorem dX3_expand_3 : decode cX3_expand 3 = .ok (.invokevirtual 47, 3) := by decide +kernel
theorem dX3_expand_6 : decode cX3_expand 6 = .ok (.istore_n 3, 1) := by decide +kernel
theorem dX3_expand_7 : decode cX3_expand 7 = .ok (.iload_n 1, 1) := by decide +kernel
theorem dX3_expand_8 : decode cX3_expand 8 = .ok (.invokestatic 78, 3) := by decide +kernel
theorem dX3_expand_11 : decode cX3_expand 11 = .ok (.istore 4, 2) := by decide +kernel
theorem dX3_expand_13 : decode cX3_expand 13 = .ok (.iload_n 1, 1) := by decide +kernel
theorem dX3_expand_14 : decode cX3_expand 14 = .ok (.iload_n 1, 1) := by decide +kernel
theorem dX3_expand_15 : decode cX3_expand 15 = .ok (.iconst 1, 1) := by decide +kernel
theorem dX3_expand_16 : decode cX3_expand 16 = .ok (.isub, 1) := by decide +kernel
theorem dX3_expand_17 : decode cX3_expand 17 = .ok (.iand, 1) := by decide +kernel
theorem dX3_expand_18 : decode cX3_expand 18 = .ok (.istore 5, 2) := by decide +kernel
theorem dX3_expand_20 : decode cX3_expand 20 = .ok (.iconst 1, 1) := by decide +kernel
theorem dX3_expand_21 : decode cX3_expand 21 = .ok (.istore 6, 2) := by decide +kernel
theorem dX3_expand_23 : decode cX3_expand 23 = .ok (.aload_n 0, 1) := by decide +kernel
theorem dX3_expand_24 : decode cX3_expand 24 = .ok (.getfield 15, 3) := by decide +kernel
theorem dX3_expand_27 : decode cX3_expand 27 = .ok (.iload_n 3, 1) := by decide +kernel
theorem dX3_expand_28 : decode cX3_expand 28 = .ok (.iload_n 3, 1) := by decide +kernel
theorem dX3_expand_29 : decode cX3_expand 29 = .ok (.bipush 6, 2) := by decide +kernel
theorem dX3_expand_31 : decode cX3_expand 31 = .ok (.iadd, 1) := by decide +kernel
theorem dX3_expand_32 : decode cX3_expand 32 = .ok (.iconst 0, 1) := by decide +kernel
theorem dX3_expand_33 : decode cX3_expand 33 = .ok (.invokestatic 81, 3) := by decide +kernel
theorem dX3_expand_36 : decode cX3_expand 36 = .ok (.iconst 0, 1) := by decide +kernel
theorem dX3_expand_37 : decode cX3_expand 37 = .ok (.istore 7, 2) := by decide +kernel
theorem dX3_expand_39 : decode cX3_expand 39 = .ok (.iload 7, 2) := by decide +kernel
theorem dX3_expand_41 : decode cX3_expand 41 = .ok (.bipush 6, 2) := by decide +kernel
theorem dX3_expand_43 : decode cX3_expand 43 = .ok (.if_icmp .ge 63, 3) := by decide +kernel
theorem dX3_expand_46 : decode cX3_expand 46 = .ok (.iload_n 2, 1) := by decide +kernel
theorem dX3_expand_47 : decode cX3_expand 47 = .ok (.iload 7, 2) := by decide +kernel
theorem dX3_expand_49 : decode cX3_expand 49 = .ok (.ishr, 1) := by decide +kernel
theorem dX3_expand_50 : decode cX3_expand 50 = .ok (.iconst 1, 1) := by decide +kernel
theorem dX3_expand_51 : decode cX3_expand 51 = .ok (.iand, 1) := by decide +kernel
theorem dX3_expand_52 : decode cX3_expand 52 = .ok (.ifCond .eq 48, 3) := by decide +kernel
theorem dX3_expand_55 : decode cX3_expand 55 = .ok (.aload_n 0, 1) := by decide +kernel
theorem dX3_expand_56 : decode cX3_expand 56 = .ok (.getfield 15, 3) := by decide +kernel
theorem dX3_expand_59 : decode cX3_expand 59 = .ok (.iload_n 3, 1) := by decide +kernel
theorem dX3_expand_60 : decode cX3_expand 60 = .ok (.aload_n 0, 1) := by decide +kernel
theorem dX3_expand_61 : decode cX3_expand 61 = .ok (.getfield 15, 3) := by decide +kernel
theorem dX3_expand_64 : decode cX3_expand 64 = .ok (.aload_n 0, 1) := by decide +kernel
theorem dX3_expand_65 : decode cX3_expand 65 = .ok (.iload 5, 2) := by decide +kernel
theorem dX3_expand_67 : decode cX3_expand 67 = .ok (.iload_n 2, 1) := by decide +kernel
theorem dX3_expand_68 : decode cX3_expand 68 = .ok (.iconst 1, 1) := by decide +kernel
theorem dX3_expand_69 : decode cX3_expand 69 = .ok (.iload 7, 2) := by decide +kernel
theorem dX3_expand_71 : decode cX3_expand 71 = .ok (.ishl, 1) := by decide +kernel
theorem dX3_expand_72 : decode cX3_expand 72 = .ok (.iconst (-1), 1) := by decide +kernel
theorem dX3_expand_73 : decode cX3_expand 73 = .ok (.ixor, 1) := by decide +kernel
theorem dX3_expand_74 : decode cX3_expand 74 = .ok (.iand, 1) := by decide +kernel
theorem dX3_expand_75 : decode cX3_expand 75 = .ok (.invokevirtual 47, 3) := by decide +kernel
theorem dX3_expand_78 : decode cX3_expand 78 = .ok (.iload 6, 2) := by decide +kernel
theorem dX3_expand_80 : decode cX3_expand 80 = .ok (.aload_n 0, 1) := by decide +kernel
theorem dX3_expand_81 : decode cX3_expand 81 = .ok (.getfield 24, 3) := by decide +kernel
theorem dX3_expand_84 : decode cX3_expand 84 = .ok (.iload 4, 2) := by decide +kernel
theorem dX3_expand_86 : decode cX3_expand 86 = .ok (.iload 7, 2) := by decide +kernel
theorem dX3_expand_88 : decode cX3_expand 88 = .ok (.invokevirtual 86, 3) := by decide +kernel
theorem dX3_expand_91 : decode cX3_expand 91 = .ok (.imul, 1) := by decide +kernel
theorem dX3_expand_92 : decode cX3_expand 92 = .ok (.invokestatic 89, 3) := by decide +kernel
theorem dX3_expand_95 : decode cX3_expand 95 = .ok (.iload 6, 2) := by decide +kernel
theorem dX3_expand_97 : decode cX3_expand 97 = .ok (.ineg, 1) := by decide +kernel
theorem dX3_expand_98 : decode cX3_expand 98 = .ok (.istore 6, 2) := by decide +kernel
theorem dX3_expand_100 : decode cX3_expand 100 = .ok (.iinc 7 1, 3) := by decide +kernel
theorem dX3_expand_103 : decode cX3_expand 103 = .ok (.goto (-64), 3) := by decide +kernel
theorem dX3_expand_106 : decode cX3_expand 106 = .ok (.return_, 1) := by decide +kernel
theorem dX3_sumCofactors_0 : decode cX3_sumCofactors 0 = .ok (.iload_n 2, 1) := by decide +kernel
theorem dX3_sumCofactors_1 : decode cX3_sumCofactors 1 = .ok (.iconst 1, 1) := by decide +kernel
theorem dX3_sumCofactors_2 : decode cX3_sumCofactors 2 = .ok (.iload_n 3, 1) := by decide +kernel
theorem dX3_sumCofactors_3 : decode cX3_sumCofactors 3 = .ok (.ishl, 1) := by decide +kernel
theorem dX3_sumCofactors_4 : decode cX3_sumCofactors 4 = .ok (.iconst (-1), 1) := by decide +kernel
theorem dX3_sumCofactors_5 : decode cX3_sumCofactors 5 = .ok (.ixor, 1) := by decide +kernel
theorem dX3_sumCofactors_6 : decode cX3_sumCofactors 6 = .ok (.iand, 1) := by decide +kernel
theorem dX3_sumCofactors_7 : decode cX3_sumCofactors 7 = .ok (.istore 4, 2) := by decide +kernel
theorem dX3_sumCofactors_9 : decode cX3_sumCofactors 9 = .ok (.iload 4, 2) := by decide +kernel
theorem dX3_sumCofactors_11 : decode cX3_sumCofactors 11 = .ok (.iconst 1, 1) := by decide +kernel
theorem dX3_sumCofactors_12 : decode cX3_sumCofactors 12 = .ok (.iload_n 3, 1) := by decide +kernel
theorem dX3_sumCofactors_13 : decode cX3_sumCofactors 13 = .ok (.ishl, 1) := by decide +kernel
theorem dX3_sumCofactors_14 : decode cX3_sumCofactors 14 = .ok (.iconst 1, 1) := by decide +kernel
theorem dX3_sumCofactors_15 : decode cX3_sumCofactors 15 = .ok (.isub, 1) := by decide +kernel
theorem dX3_sumCofactors_16 : decode cX3_sumCofactors 16 = .ok (.iand, 1) := by decide +kernel
theorem dX3_sumCofactors_17 : decode cX3_sumCofactors 17 = .ok (.invokestatic 28, 3) := by decide +kernel
theorem dX3_sumCofactors_20 : decode cX3_sumCofactors 20 = .ok (.iconst 2, 1) := by decide +kernel
theorem dX3_sumCofactors_21 : decode cX3_sumCofactors 21 = .ok (.irem, 1) := by decide +kernel
theorem dX3_sumCofactors_22 : decode cX3_sumCofactors 22 = .ok (.ifCond .ne 7, 3) := by decide +kernel
theorem dX3_sumCofactors_25 : decode cX3_sumCofactors 25 = .ok (.iconst 1, 1) := by decide +kernel
theorem dX3_sumCofactors_26 : decode cX3_sumCofactors 26 = .ok (.goto 4, 3) := by decide +kernel
theorem dX3_sumCofactors_29 : decode cX3_sumCofactors 29 = .ok (.iconst (-1), 1) := by decide +kernel
theorem dX3_sumCofactors_30 : decode cX3_sumCofactors 30 = .ok (.istore 5, 2) := by decide +kernel
theorem dX3_sumCofactors_32 : decode cX3_sumCofactors 32 = .ok (.aload_n 0, 1) := by decide +kernel
theorem dX3_sumCofactors_33 : decode cX3_sumCofactors 33 = .ok (.getfield 18, 3) := by decide +kernel
theorem dX3_sumCofactors_36 : decode cX3_sumCofactors 36 = .ok (.iload_n 3, 1) := by decide +kernel
theorem dX3_sumCofactors_37 : decode cX3_sumCofactors 37 = .ok (.bipush 6, 2) := by decide +kernel
theorem dX3_sumCofactors_39 : decode cX3_sumCofactors 39 = .ok (.imul, 1) := by decide +kernel
theorem dX3_sumCofactors_40 : decode cX3_sumCofactors 40 = .ok (.iload_n 3, 1) := by decide +kernel
theorem dX3_sumCofactors_41 : decode cX3_sumCofactors 41 = .ok (.bipush 6, 2) := by decide +kernel
theorem dX3_sumCofactors_43 : decode cX3_sumCofactors 43 = .ok (.imul, 1) := by decide +kernel
theorem dX3_sumCofactors_44 : decode cX3_sumCofactors 44 = .ok (.bipush 6, 2) := by decide +kernel
theorem dX3_sumCofactors_46 : decode cX3_sumCofactors 46 = .ok (.iadd, 1) := by decide +kernel
theorem dX3_sumCofactors_47 : decode cX3_sumCofactors 47 = .ok (.iconst 0, 1) := by decide +kernel
theorem dX3_sumCofactors_48 : decode cX3_sumCofactors 48 = .ok (.invokestatic 81, 3) := by decide +kernel
theorem dX3_sumCofactors_51 : decode cX3_sumCofactors 51 = .ok (.iconst 0, 1) := by decide +kernel
theorem dX3_sumCofactors_52 : decode cX3_sumCofactors 52 = .ok (.istore 6, 2) := by decide +kernel
theorem dX3_sumCofactors_54 : decode cX3_sumCofactors 54 = .ok (.iload 6, 2) := by decide +kernel
theorem dX3_sumCofactors_56 : decode cX3_sumCofactors 56 = .ok (.bipush 6, 2) := by decide +kernel
theorem dX3_sumCofactors_58 : decode cX3_sumCofactors 58 = .ok (.if_icmp .ge 54, 3) := by decide +kernel
theorem dX3_sumCofactors_61 : decode cX3_sumCofactors 61 = .ok (.iload_n 1, 1) := by decide +kernel
theorem dX3_sumCofactors_62 : decode cX3_sumCofactors 62 = .ok (.iload 6, 2) := by decide +kernel
theorem dX3_sumCofactors_64 : decode cX3_sumCofactors 64 = .ok (.ishr, 1) := by decide +kernel
theorem dX3_sumCofactors_65 : decode cX3_sumCofactors 65 = .ok (.iconst 1, 1) := by decide +kernel
theorem dX3_sumCofactors_66 : decode cX3_sumCofactors 66 = .ok (.iand, 1) := by decide +kernel
theorem dX3_sumCofactors_67 : decode cX3_sumCofactors 67 = .ok (.ifCond .eq 39, 3) := by decide +kernel
theorem dX3_sumCofactors_70 : decode cX3_sumCofactors 70 = .ok (.aload_n 0, 1) := by decide +kernel
theorem dX3_sumCofactors_71 : decode cX3_sumCofactors 71 = .ok (.getfield 18, 3) := by decide +kernel
theorem dX3_sumCofactors_74 : decode cX3_sumCofactors 74 = .ok (.iload_n 3, 1) := by decide +kernel
theorem dX3_sumCofactors_75 : decode cX3_sumCofactors 75 = .ok (.bipush 6, 2) := by decide +kernel
theorem dX3_sumCofactors_77 : decode cX3_sumCofactors 77 = .ok (.imul, 1) := by decide +kernel
theorem dX3_sumCofactors_78 : decode cX3_sumCofactors 78 = .ok (.aload_n 0, 1) := by decide +kernel
theorem dX3_sumCofactors_79 : decode cX3_sumCofactors 79 = .ok (.getfield 15, 3) := by decide +kernel
theorem dX3_sumCofactors_82 : decode cX3_sumCofactors 82 = .ok (.aload_n 0, 1) := by decide +kernel
theorem dX3_sumCofactors_83 : decode cX3_sumCofactors 83 = .ok (.iload_n 1, 1) := by decide +kernel
theorem dX3_sumCofactors_84 : decode cX3_sumCofactors 84 = .ok (.iconst 1, 1) := by decide +kernel
theorem dX3_sumCofactors_85 : decode cX3_sumCofactors 85 = .ok (.iload 6, 2) := by decide +kernel
theorem dX3_sumCofactors_87 : decode cX3_sumCofactors 87 = .ok (.ishl, 1) := by decide +kernel
theorem dX3_sumCofactors_88 : decode cX3_sumCofactors 88 = .ok (.iconst (-1), 1) := by decide +kernel
theorem dX3_sumCofactors_89 : decode cX3_sumCofactors 89 = .ok (.ixor, 1) := by decide +kernel
theorem dX3_sumCofactors_90 : decode cX3_sumCofactors 90 = .ok (.iand, 1) := by decide +kernel
theorem dX3_sumCofactors_91 : decode cX3_sumCofactors 91 = .ok (.iload 4, 2) := by decide +kernel
theorem dX3_sumCofactors_93 : decode cX3_sumCofactors 93 = .ok (.invokevirtual 47, 3) := by decide +kernel
theorem dX3_sumCofactors_96 : decode cX3_sumCofactors 96 = .ok (.iload 5, 2) := by decide +kernel
theorem dX3_sumCofactors_98 : decode cX3_sumCofactors 98 = .ok (.invokestatic 89, 3) := by decide +kernel
theorem dX3_sumCofactors_101 : decode cX3_sumCofactors 101 = .ok (.iload 5, 2) := by decide +kernel
theorem dX3_sumCofactors_103 : decode cX3_sumCofactors 103 = .ok (.ineg, 1) := by decide +kernel
theorem dX3_sumCofactors_104 : decode cX3_sumCofactors 104 = .ok (.istore 5, 2) := by decide +kernel
theorem dX3_sumCofactors_106 : decode cX3_sumCofactors 106 = .ok (.iinc 6 1, 3) := by decide +kernel
theorem dX3_sumCofactors_109 : decode cX3_sumCofactors 109 = .ok (.goto (-55), 3) := by decide +kernel
theorem dX3_sumCofactors_112 : decode cX3_sumCofactors 112 = .ok (.return_, 1) := by decide +kernel
theorem dX3_excessSign_0 : decode cX3_excessSign 0 = .ok (.aload_n 0, 1) := by decide +kernel
theorem dX3_excessSign_1 : decode cX3_excessSign 1 = .ok (.getfield 21, 3) := by decide +kernel
theorem dX3_excessSign_4 : decode cX3_excessSign 4 = .ok (.iconst 0, 1) := by decide +kernel
theorem dX3_excessSign_5 : decode cX3_excessSign 5 = .ok (.invokestatic 93, 3) := by decide +kernel
theorem dX3_excessSign_8 : decode cX3_excessSign 8 = .ok (.aload_n 0, 1) := by decide +kernel
theorem dX3_excessSign_9 : decode cX3_excessSign 9 = .ok (.getfield 21, 3) := by decide +kernel
theorem dX3_excessSign_12 : decode cX3_excessSign 12 = .ok (.iconst 0, 1) := by decide +kernel
theorem dX3_excessSign_13 : decode cX3_excessSign 13 = .ok (.aload_n 0, 1) := by decide +kernel
theorem dX3_excessSign_14 : decode cX3_excessSign 14 = .ok (.getfield 15, 3) := by decide +kernel
theorem dX3_excessSign_17 : decode cX3_excessSign 17 = .ok (.aload_n 0, 1) := by decide +kernel
theorem dX3_excessSign_18 : decode cX3_excessSign 18 = .ok (.iload_n 2, 1) := by decide +kernel
theorem dX3_excessSign_19 : decode cX3_excessSign 19 = .ok (.iload_n 3, 1) := by decide +kernel
theorem dX3_excessSign_20 : decode cX3_excessSign 20 = .ok (.invokevirtual 47, 3) := by decide +kernel
theorem dX3_excessSign_23 : decode cX3_excessSign 23 = .ok (.iconst (-1), 1) := by decide +kernel
theorem dX3_excessSign_24 : decode cX3_excessSign 24 = .ok (.invokestatic 89, 3) := by decide +kernel
theorem dX3_excessSign_27 : decode cX3_excessSign 27 = .ok (.iconst 0, 1) := by decide +kernel
theorem dX3_excessSign_28 : decode cX3_excessSign 28 = .ok (.istore 4, 2) := by decide +kernel
theorem dX3_excessSign_30 : decode cX3_excessSign 30 = .ok (.iload 4, 2) := by decide +kernel
theorem dX3_excessSign_32 : decode cX3_excessSign 32 = .ok (.bipush 6, 2) := by decide +kernel
theorem dX3_excessSign_34 : decode cX3_excessSign 34 = .ok (.if_icmp .ge 45, 3) := by decide +kernel
theorem dX3_excessSign_37 : decode cX3_excessSign 37 = .ok (.iload_n 3, 1) := by decide +kernel
theorem dX3_excessSign_38 : decode cX3_excessSign 38 = .ok (.iload 4, 2) := by decide +kernel
theorem dX3_excessSign_40 : decode cX3_excessSign 40 = .ok (.ishr, 1) := by decide +kernel
theorem dX3_excessSign_41 : decode cX3_excessSign 41 = .ok (.iconst 1, 1) := by decide +kernel
theorem dX3_excessSign_42 : decode cX3_excessSign 42 = .ok (.iand, 1) := by decide +kernel
theorem dX3_excessSign_43 : decode cX3_excessSign 43 = .ok (.ifCond .eq 30, 3) := by decide +kernel
theorem dX3_excessSign_46 : decode cX3_excessSign 46 = .ok (.aload_n 0, 1) := by decide +kernel
theorem dX3_excessSign_47 : decode cX3_excessSign 47 = .ok (.getfield 21, 3) := by decide +kernel
theorem dX3_excessSign_50 : decode cX3_excessSign 50 = .ok (.iconst 0, 1) := by decide +kernel
theorem dX3_excessSign_51 : decode cX3_excessSign 51 = .ok (.aload_n 0, 1) := by decide +kernel
theorem dX3_excessSign_52 : decode cX3_excessSign 52 = .ok (.getfield 18, 3) := by decide +kernel
theorem dX3_excessSign_55 : decode cX3_excessSign 55 = .ok (.iload 4, 2) := by decide +kernel
theorem dX3_excessSign_57 : decode cX3_excessSign 57 = .ok (.bipush 6, 2) := by decide +kernel
theorem dX3_excessSign_59 : decode cX3_excessSign 59 = .ok (.imul, 1) := by decide +kernel
theorem dX3_excessSign_60 : decode cX3_excessSign 60 = .ok (.aload_n 0, 1) := by decide +kernel
theorem dX3_excessSign_61 : decode cX3_excessSign 61 = .ok (.getfield 24, 3) := by decide +kernel
theorem dX3_excessSign_64 : decode cX3_excessSign 64 = .ok (.iload_n 1, 1) := by decide +kernel
theorem dX3_excessSign_65 : decode cX3_excessSign 65 = .ok (.iload 4, 2) := by decide +kernel
theorem dX3_excessSign_67 : decode cX3_excessSign 67 = .ok (.invokevirtual 86, 3) := by decide +kernel
theorem dX3_excessSign_70 : decode cX3_excessSign 70 = .ok (.invokestatic 89, 3) := by decide +kernel
theorem dX3_excessSign_73 : decode cX3_excessSign 73 = .ok (.iinc 4 1, 3) := by decide +kernel
theorem dX3_excessSign_76 : decode cX3_excessSign 76 = .ok (.goto (-46), 3) := by decide +kernel
theorem dX3_excessSign_79 : decode cX3_excessSign 79 = .ok (.aload_n 0, 1) := by decide +kernel
theorem dX3_excessSign_80 : decode cX3_excessSign 80 = .ok (.getfield 21, 3) := by decide +kernel
theorem dX3_excessSign_83 : decode cX3_excessSign 83 = .ok (.iconst 0, 1) := by decide +kernel
theorem dX3_excessSign_84 : decode cX3_excessSign 84 = .ok (.invokestatic 51, 3) := by decide +kernel
theorem dX3_excessSign_87 : decode cX3_excessSign 87 = .ok (.ireturn, 1) := by decide +kernel
theorem dX3_place_0 : decode cX3_place 0 = .ok (.iload_n 1, 1) := by decide +kernel
theorem dX3_place_1 : decode cX3_place 1 = .ok (.invokestatic 28, 3) := by decide +kernel
theorem dX3_place_4 : decode cX3_place 4 = .ok (.istore_n 3, 1) := by decide +kernel
theorem dX3_place_5 : decode cX3_place 5 = .ok (.getstatic 96, 3) := by decide +kernel
theorem dX3_place_8 : decode cX3_place 8 = .ok (.iload_n 3, 1) := by decide +kernel
theorem dX3_place_9 : decode cX3_place 9 = .ok (.iaload, 1) := by decide +kernel
theorem dX3_place_10 : decode cX3_place 10 = .ok (.aload_n 0, 1) := by decide +kernel
theorem dX3_place_11 : decode cX3_place 11 = .ok (.getfield 9, 3) := by decide +kernel
theorem dX3_place_14 : decode cX3_place 14 = .ok (.iload_n 1, 1) := by decide +kernel
theorem dX3_place_15 : decode cX3_place 15 = .ok (.iaload, 1) := by decide +kernel
theorem dX3_place_16 : decode cX3_place 16 = .ok (.getstatic 99, 3) := by decide +kernel
theorem dX3_place_19 : decode cX3_place 19 = .ok (.iload_n 3, 1) := by decide +kernel
theorem dX3_place_20 : decode cX3_place 20 = .ok (.iaload, 1) := by decide +kernel
theorem dX3_place_21 : decode cX3_place 21 = .ok (.imul, 1) := by decide +kernel
theorem dX3_place_22 : decode cX3_place 22 = .ok (.iadd, 1) := by decide +kernel
theorem dX3_place_23 : decode cX3_place 23 = .ok (.aload_n 0, 1) := by decide +kernel
theorem dX3_place_24 : decode cX3_place 24 = .ok (.getfield 9, 3) := by decide +kernel
theorem dX3_place_27 : decode cX3_place 27 = .ok (.iload_n 2, 1) := by decide +kernel
theorem dX3_place_28 : decode cX3_place 28 = .ok (.iaload, 1) := by decide +kernel
theorem dX3_place_29 : decode cX3_place 29 = .ok (.iadd, 1) := by decide +kernel
theorem dX3_place_30 : decode cX3_place 30 = .ok (.bipush 6, 2) := by decide +kernel
theorem dX3_place_32 : decode cX3_place 32 = .ok (.imul, 1) := by decide +kernel
theorem dX3_place_33 : decode cX3_place 33 = .ok (.ireturn, 1) := by decide +kernel
theorem dX3_addTimes_0 : decode cX3_addTimes 0 = .ok (.lconst 0, 1) := by decide +kernel
theorem dX3_addTimes_1 : decode cX3_addTimes 1 = .ok (.lstore 5, 2) := by decide +kernel
theorem dX3_addTimes_3 : decode cX3_addTimes 3 = .ok (.iconst 0, 1) := by decide +kernel
theorem dX3_addTimes_4 : decode cX3_addTimes 4 = .ok (.istore 7, 2) := by decide +kernel
theorem dX3_addTimes_6 : decode cX3_addTimes 6 = .ok (.iload 7, 2) := by decide +kernel
theorem dX3_addTimes_8 : decode cX3_addTimes 8 = .ok (.bipush 6, 2) := by decide +kernel
theorem dX3_addTimes_10 : decode cX3_addTimes 10 = .ok (.if_icmp .ge 53, 3) := by decide +kernel
theorem dX3_addTimes_13 : decode cX3_addTimes 13 = .ok (.lload 5, 2) := by decide +kernel
theorem dX3_addTimes_15 : decode cX3_addTimes 15 = .ok (.aload_n 0, 1) := by decide +kernel
theorem dX3_addTimes_16 : decode cX3_addTimes 16 = .ok (.iload_n 1, 1) := by decide +kernel
theorem dX3_addTimes_17 : decode cX3_addTimes 17 = .ok (.iload 7, 2) := by decide +kernel
theorem dX3_addTimes_19 : decode cX3_addTimes 19 = .ok (.iadd, 1) := by decide +kernel
theorem dX3_addTimes_20 : decode cX3_addTimes 20 = .ok (.iaload, 1) := by decide +kernel
theorem dX3_addTimes_21 : decode cX3_addTimes 21 = .ok (.i2l, 1) := by decide +kernel
theorem dX3_addTimes_22 : decode cX3_addTimes 22 = .ok (.iload 4, 2) := by decide +kernel
theorem dX3_addTimes_24 : decode cX3_addTimes 24 = .ok (.i2l, 1) := by decide +kernel
theorem dX3_addTimes_25 : decode cX3_addTimes 25 = .ok (.aload_n 2, 1) := by decide +kernel
theorem dX3_addTimes_26 : decode cX3_addTimes 26 = .ok (.iload_n 3, 1) := by decide +kernel
theorem dX3_addTimes_27 : decode cX3_addTimes 27 = .ok (.iload 7, 2) := by decide +kernel
theorem dX3_addTimes_29 : decode cX3_addTimes 29 = .ok (.iadd, 1) := by decide +kernel
theorem dX3_addTimes_30 : decode cX3_addTimes 30 = .ok (.iaload, 1) := by decide +kernel
theorem dX3_addTimes_31 : decode cX3_addTimes 31 = .ok (.i2l, 1) := by decide +kernel
theorem dX3_addTimes_32 : decode cX3_addTimes 32 = .ok (.lmul, 1) := by decide +kernel
theorem dX3_addTimes_33 : decode cX3_addTimes 33 = .ok (.ladd, 1) := by decide +kernel
theorem dX3_addTimes_34 : decode cX3_addTimes 34 = .ok (.ladd, 1) := by decide +kernel
theorem dX3_addTimes_35 : decode cX3_addTimes 35 = .ok (.lstore 5, 2) := by decide +kernel
theorem dX3_addTimes_37 : decode cX3_addTimes 37 = .ok (.aload_n 0, 1) := by decide +kernel
theorem dX3_addTimes_38 : decode cX3_addTimes 38 = .ok (.iload_n 1, 1) := by decide +kernel
theorem dX3_addTimes_39 : decode cX3_addTimes 39 = .ok (.iload 7, 2) := by decide +kernel
theorem dX3_addTimes_41 : decode cX3_addTimes 41 = .ok (.iadd, 1) := by decide +kernel
theorem dX3_addTimes_42 : decode cX3_addTimes 42 = .ok (.lload 5, 2) := by decide +kernel
theorem dX3_addTimes_44 : decode cX3_addTimes 44 = .ok (.ldc2_w 102, 3) := by decide +kernel
theorem dX3_addTimes_47 : decode cX3_addTimes 47 = .ok (.land, 1) := by decide +kernel
theorem dX3_addTimes_48 : decode cX3_addTimes 48 = .ok (.l2i, 1) := by decide +kernel
theorem dX3_addTimes_49 : decode cX3_addTimes 49 = .ok (.iastore, 1) := by decide +kernel
theorem dX3_addTimes_50 : decode cX3_addTimes 50 = .ok (.lload 5, 2) := by decide +kernel
theorem dX3_addTimes_52 : decode cX3_addTimes 52 = .ok (.bipush 31, 2) := by decide +kernel
theorem dX3_addTimes_54 : decode cX3_addTimes 54 = .ok (.lshr, 1) := by decide +kernel
theorem dX3_addTimes_55 : decode cX3_addTimes 55 = .ok (.lstore 5, 2) := by decide +kernel
theorem dX3_addTimes_57 : decode cX3_addTimes 57 = .ok (.iinc 7 1, 3) := by decide +kernel
theorem dX3_addTimes_60 : decode cX3_addTimes 60 = .ok (.goto (-54), 3) := by decide +kernel
theorem dX3_addTimes_63 : decode cX3_addTimes 63 = .ok (.return_, 1) := by decide +kernel
theorem dX3_signAt_0 : decode cX3_signAt 0 = .ok (.aload_n 0, 1) := by decide +kernel
theorem dX3_signAt_1 : decode cX3_signAt 1 = .ok (.iload_n 1, 1) := by decide +kernel
theorem dX3_signAt_2 : decode cX3_signAt 2 = .ok (.bipush 6, 2) := by decide +kernel
theorem dX3_signAt_4 : decode cX3_signAt 4 = .ok (.iadd, 1) := by decide +kernel
theorem dX3_signAt_5 : decode cX3_signAt 5 = .ok (.iconst 1, 1) := by decide +kernel
theorem dX3_signAt_6 : decode cX3_signAt 6 = .ok (.isub, 1) := by decide +kernel
theorem dX3_signAt_7 : decode cX3_signAt 7 = .ok (.iaload, 1) := by decide +kernel
theorem dX3_signAt_8 : decode cX3_signAt 8 = .ok (.bipush 30, 2) := by decide +kernel
theorem dX3_signAt_10 : decode cX3_signAt 10 = .ok (.ishr, 1) := by decide +kernel
theorem dX3_signAt_11 : decode cX3_signAt 11 = .ok (.iconst 1, 1) := by decide +kernel
theorem dX3_signAt_12 : decode cX3_signAt 12 = .ok (.iand, 1) := by decide +kernel
theorem dX3_signAt_13 : decode cX3_signAt 13 = .ok (.ifCond .eq 5, 3) := by decide +kernel
theorem dX3_signAt_16 : decode cX3_signAt 16 = .ok (.iconst (-1), 1) := by decide +kernel
theorem dX3_signAt_17 : decode cX3_signAt 17 = .ok (.ireturn, 1) := by decide +kernel
theorem dX3_signAt_18 : decode cX3_signAt 18 = .ok (.iconst 0, 1) := by decide +kernel
theorem dX3_signAt_19 : decode cX3_signAt 19 = .ok (.istore_n 2, 1) := by decide +kernel
theorem dX3_signAt_20 : decode cX3_signAt 20 = .ok (.iconst 0, 1) := by decide +kernel
theorem dX3_signAt_21 : decode cX3_signAt 21 = .ok (.istore_n 3, 1) := by decide +kernel
theorem dX3_signAt_22 : decode cX3_signAt 22 = .ok (.iload_n 3, 1) := by decide +kernel
theorem dX3_signAt_23 : decode cX3_signAt 23 = .ok (.bipush 6, 2) := by decide +kernel
theorem dX3_signAt_25 : decode cX3_signAt 25 = .ok (.if_icmp .ge 17, 3) := by decide +kernel
theorem dX3_signAt_28 : decode cX3_signAt 28 = .ok (.iload_n 2, 1) := by decide +kernel
theorem dX3_signAt_29 : decode cX3_signAt 29 = .ok (.aload_n 0, 1) := by decide +kernel
theorem dX3_signAt_30 : decode cX3_signAt 30 = .ok (.iload_n 1, 1) := by decide +kernel
theorem dX3_signAt_31 : decode cX3_signAt 31 = .ok (.iload_n 3, 1) := by decide +kernel
theorem dX3_signAt_32 : decode cX3_signAt 32 = .ok (.iadd, 1) := by decide +kernel
theorem dX3_signAt_33 : decode cX3_signAt 33 = .ok (.iaload, 1) := by decide +kernel
theorem dX3_signAt_34 : decode cX3_signAt 34 = .ok (.ior, 1) := by decide +kernel
theorem dX3_signAt_35 : decode cX3_signAt 35 = .ok (.istore_n 2, 1) := by decide +kernel
theorem dX3_signAt_36 : decode cX3_signAt 36 = .ok (.iinc 3 1, 3) := by decide +kernel
theorem dX3_signAt_39 : decode cX3_signAt 39 = .ok (.goto (-17), 3) := by decide +kernel
theorem dX3_signAt_42 : decode cX3_signAt 42 = .ok (.iload_n 2, 1) := by decide +kernel
theorem dX3_signAt_43 : decode cX3_signAt 43 = .ok (.ifCond .ne 7, 3) := by decide +kernel
theorem dX3_signAt_46 : decode cX3_signAt 46 = .ok (.iconst 0, 1) := by decide +kernel
theorem dX3_signAt_47 : decode cX3_signAt 47 = .ok (.goto 4, 3) := by decide +kernel
theorem dX3_signAt_50 : decode cX3_signAt 50 = .ok (.iconst 1, 1) := by decide +kernel
theorem dX3_signAt_51 : decode cX3_signAt 51 = .ok (.ireturn, 1) := by decide +kernel
