theorem dX8_index_77 : decode cX8_index 77 = .ok (.istore 4, 2) := by decide +kernel
theorem dX8_index_79 : decode cX8_index 79 = .ok (.iload_n 2, 1) := by decide +kernel
theorem dX8_index_80 : decode cX8_index 80 = .ok (.invokestatic 244, 3) := by decide +kernel
theorem dX8_index_83 : decode cX8_index 83 = .ok (.iconst 2, 1) := by decide +kernel
theorem dX8_index_84 : decode cX8_index 84 = .ok (.irem, 1) := by decide +kernel
theorem dX8_index_85 : decode cX8_index 85 = .ok (.ifCond .ne 9, 3) := by decide +kernel
theorem dX8_index_88 : decode cX8_index 88 = .ok (.iload 4, 2) := by decide +kernel
theorem dX8_index_90 : decode cX8_index 90 = .ok (.ineg, 1) := by decide +kernel
theorem dX8_index_91 : decode cX8_index 91 = .ok (.goto 5, 3) := by decide +kernel
theorem dX8_index_94 : decode cX8_index 94 = .ok (.iload 4, 2) := by decide +kernel
theorem dX8_index_96 : decode cX8_index 96 = .ok (.ireturn, 1) := by decide +kernel
theorem dX8_round_0 : decode cX8_round 0 = .ok (.aload_n 0, 1) := by decide +kernel
theorem dX8_round_1 : decode cX8_round 1 = .ok (.invokevirtual 118, 3) := by decide +kernel
theorem dX8_round_4 : decode cX8_round 4 = .ok (.aload_n 0, 1) := by decide +kernel
theorem dX8_round_5 : decode cX8_round 5 = .ok (.getfield 16, 3) := by decide +kernel
theorem dX8_round_8 : decode cX8_round 8 = .ok (.iconst 0, 1) := by decide +kernel
theorem dX8_round_9 : decode cX8_round 9 = .ok (.aaload, 1) := by decide +kernel
theorem dX8_round_10 : decode cX8_round 10 = .ok (.aload_n 0, 1) := by decide +kernel
theorem dX8_round_11 : decode cX8_round 11 = .ok (.getfield 27, 3) := by decide +kernel
theorem dX8_round_14 : decode cX8_round 14 = .ok (.iconst 0, 1) := by decide +kernel
theorem dX8_round_15 : decode cX8_round 15 = .ok (.iaload, 1) := by decide +kernel
theorem dX8_round_16 : decode cX8_round 16 = .ok (.aload_n 0, 1) := by decide +kernel
theorem dX8_round_17 : decode cX8_round 17 = .ok (.getfield 27, 3) := by decide +kernel
theorem dX8_round_20 : decode cX8_round 20 = .ok (.iconst 1, 1) := by decide +kernel
theorem dX8_round_21 : decode cX8_round 21 = .ok (.iaload, 1) := by decide +kernel
theorem dX8_round_22 : decode cX8_round 22 = .ok (.invokevirtual 247, 3) := by decide +kernel
theorem dX8_round_25 : decode cX8_round 25 = .ok (.istore_n 1, 1) := by decide +kernel
theorem dX8_round_26 : decode cX8_round 26 = .ok (.aload_n 0, 1) := by decide +kernel
theorem dX8_round_27 : decode cX8_round 27 = .ok (.getfield 16, 3) := by decide +kernel
theorem dX8_round_30 : decode cX8_round 30 = .ok (.iconst 1, 1) := by decide +kernel
theorem dX8_round_31 : decode cX8_round 31 = .ok (.aaload, 1) := by decide +kernel
theorem dX8_round_32 : decode cX8_round 32 = .ok (.aload_n 0, 1) := by decide +kernel
theorem dX8_round_33 : decode cX8_round 33 = .ok (.getfield 27, 3) := by decide +kernel
theorem dX8_round_36 : decode cX8_round 36 = .ok (.iconst 1, 1) := by decide +kernel
theorem dX8_round_37 : decode cX8_round 37 = .ok (.iaload, 1) := by decide +kernel
theorem dX8_round_38 : decode cX8_round 38 = .ok (.aload_n 0, 1) := by decide +kernel
theorem dX8_round_39 : decode cX8_round 39 = .ok (.getfield 27, 3) := by decide +kernel
theorem dX8_round_42 : decode cX8_round 42 = .ok (.iconst 0, 1) := by decide +kernel
theorem dX8_round_43 : decode cX8_round 43 = .ok (.iaload, 1) := by decide +kernel
theorem dX8_round_44 : decode cX8_round 44 = .ok (.invokevirtual 247, 3) := by decide +kernel
theorem dX8_round_47 : decode cX8_round 47 = .ok (.istore_n 2, 1) := by decide +kernel
theorem dX8_round_48 : decode cX8_round 48 = .ok (.aload_n 0, 1) := by decide +kernel
theorem dX8_round_49 : decode cX8_round 49 = .ok (.getfield 27, 3) := by decide +kernel
theorem dX8_round_52 : decode cX8_round 52 = .ok (.iconst 0, 1) := by decide +kernel
theorem dX8_round_53 : decode cX8_round 53 = .ok (.dup2, 1) := by decide +kernel
theorem dX8_round_54 : decode cX8_round 54 = .ok (.iaload, 1) := by decide +kernel
theorem dX8_round_55 : decode cX8_round 55 = .ok (.iload_n 1, 1) := by decide +kernel
theorem dX8_round_56 : decode cX8_round 56 = .ok (.iconst (-1), 1) := by decide +kernel
theorem dX8_round_57 : decode cX8_round 57 = .ok (.ixor, 1) := by decide +kernel
theorem dX8_round_58 : decode cX8_round 58 = .ok (.iand, 1) := by decide +kernel
theorem dX8_round_59 : decode cX8_round 59 = .ok (.iastore, 1) := by decide +kernel
theorem dX8_round_60 : decode cX8_round 60 = .ok (.aload_n 0, 1) := by decide +kernel
theorem dX8_round_61 : decode cX8_round 61 = .ok (.getfield 27, 3) := by decide +kernel
theorem dX8_round_64 : decode cX8_round 64 = .ok (.iconst 1, 1) := by decide +kernel
theorem dX8_round_65 : decode cX8_round 65 = .ok (.dup2, 1) := by decide +kernel
theorem dX8_round_66 : decode cX8_round 66 = .ok (.iaload, 1) := by decide +kernel
theorem dX8_round_67 : decode cX8_round 67 = .ok (.iload_n 2, 1) := by decide +kernel
theorem dX8_round_68 : decode cX8_round 68 = .ok (.iconst (-1), 1) := by decide +kernel
theorem dX8_round_69 : decode cX8_round 69 = .ok (.ixor, 1) := by decide +kernel
theorem dX8_round_70 : decode cX8_round 70 = .ok (.iand, 1) := by decide +kernel
theorem dX8_round_71 : decode cX8_round 71 = .ok (.iastore, 1) := by decide +kernel
theorem dX8_round_72 : decode cX8_round 72 = .ok (.iload_n 1, 1) := by decide +kernel
theorem dX8_round_73 : decode cX8_round 73 = .ok (.invokestatic 244, 3) := by decide +kernel
theorem dX8_round_76 : decode cX8_round 76 = .ok (.iload_n 2, 1) := by decide +kernel
theorem dX8_round_77 : decode cX8_round 77 = .ok (.invokestatic 244, 3) := by decide +kernel
theorem dX8_round_80 : decode cX8_round 80 = .ok (.iadd, 1) := by decide +kernel
theorem dX8_round_81 : decode cX8_round 81 = .ok (.ireturn, 1) := by decide +kernel
theorem dX8_isThere_0 : decode cX8_isThere 0 = .ok (.aload_n 0, 1) := by decide +kernel
theorem dX8_isThere_1 : decode cX8_isThere 1 = .ok (.invokevirtual 118, 3) := by decide +kernel
theorem dX8_isThere_4 : decode cX8_isThere 4 = .ok (.aload_n 0, 1) := by decide +kernel
theorem dX8_isThere_5 : decode cX8_isThere 5 = .ok (.iload_n 1, 1) := by decide +kernel
theorem dX8_isThere_6 : decode cX8_isThere 6 = .ok (.invokevirtual 121, 3) := by decide +kernel
theorem dX8_isThere_9 : decode cX8_isThere 9 = .ok (.aload_n 0, 1) := by decide +kernel
theorem dX8_isThere_10 : decode cX8_isThere 10 = .ok (.iload_n 1, 1) := by decide +kernel
theorem dX8_isThere_11 : decode cX8_isThere 11 = .ok (.iload_n 2, 1) := by decide +kernel
theorem dX8_isThere_12 : decode cX8_isThere 12 = .ok (.invokevirtual 125, 3) := by decide +kernel
theorem dX8_isThere_15 : decode cX8_isThere 15 = .ok (.aload_n 0, 1) := by decide +kernel
theorem dX8_isThere_16 : decode cX8_isThere 16 = .ok (.getfield 27, 3) := by decide +kernel
theorem dX8_isThere_19 : decode cX8_isThere 19 = .ok (.iload_n 1, 1) := by decide +kernel
theorem dX8_isThere_20 : decode cX8_isThere 20 = .ok (.iaload, 1) := by decide +kernel
theorem dX8_isThere_21 : decode cX8_isThere 21 = .ok (.iload_n 2, 1) := by decide +kernel
theorem dX8_isThere_22 : decode cX8_isThere 22 = .ok (.ishr, 1) := by decide +kernel
theorem dX8_isThere_23 : decode cX8_isThere 23 = .ok (.iconst 1, 1) := by decide +kernel
theorem dX8_isThere_24 : decode cX8_isThere 24 = .ok (.iand, 1) := by decide +kernel
theorem dX8_isThere_25 : decode cX8_isThere 25 = .ok (.ifCond .eq 7, 3) := by decide +kernel
theorem dX8_isThere_28 : decode cX8_isThere 28 = .ok (.iconst 1, 1) := by decide +kernel
theorem dX8_isThere_29 : decode cX8_isThere 29 = .ok (.goto 4, 3) := by decide +kernel
theorem dX8_isThere_32 : decode cX8_isThere 32 = .ok (.iconst 0, 1) := by decide +kernel
theorem dX8_isThere_33 : decode cX8_isThere 33 = .ok (.ireturn, 1) := by decide +kernel
theorem dX8_part_0 : decode cX8_part 0 = .ok (.iload_n 2, 1) := by decide +kernel
theorem dX8_part_1 : decode cX8_part 1 = .ok (.ifCond .ge 13, 3) := by decide +kernel
theorem dX8_part_4 : decode cX8_part 4 = .ok (.new 149, 3) := by decide +kernel
theorem dX8_part_7 : decode cX8_part 7 = .ok (.dup, 1) := by decide +kernel
theorem dX8_part_8 : decode cX8_part 8 = .ok (.ldc 250, 2) := by decide +kernel
theorem dX8_part_10 : decode cX8_part 10 = .ok (.invokespecial 153, 3) := by decide +kernel
theorem dX8_part_13 : decode cX8_part 13 = .ok (.athrow, 1) := by decide +kernel
theorem dX8_part_14 : decode cX8_part 14 = .ok (.iload_n 1, 1) := by decide +kernel
theorem dX8_part_15 : decode cX8_part 15 = .ok (.ifCond .eq 17, 3) := by decide +kernel
theorem dX8_part_18 : decode cX8_part 18 = .ok (.aload_n 0, 1) := by decide +kernel
theorem dX8_part_19 : decode cX8_part 19 = .ok (.getfield 91, 3) := by decide +kernel
theorem dX8_part_22 : decode cX8_part 22 = .ok (.getfield 184, 3) := by decide +kernel
theorem dX8_part_25 : decode cX8_part 25 = .ok (.iload_n 2, 1) := by decide +kernel
theorem dX8_part_26 : decode cX8_part 26 = .ok (.invokevirtual 252, 3) := by decide +kernel
theorem dX8_part_29 : decode cX8_part 29 = .ok (.goto 14, 3) := by decide +kernel
theorem dX8_part_32 : decode cX8_part 32 = .ok (.aload_n 0, 1) := by decide +kernel
theorem dX8_part_33 : decode cX8_part 33 = .ok (.getfield 91, 3) := by decide +kernel
theorem dX8_part_36 : decode cX8_part 36 = .ok (.getfield 174, 3) := by decide +kernel
theorem dX8_part_39 : decode cX8_part 39 = .ok (.iload_n 2, 1) := by decide +kernel
theorem dX8_part_40 : decode cX8_part 40 = .ok (.invokevirtual 252, 3) := by decide +kernel
theorem dX8_part_43 : decode cX8_part 43 = .ok (.lreturn, 1) := by decide +kernel
theorem dX8_sign_0 : decode cX8_sign 0 = .ok (.aload_n 0, 1) := by decide +kernel
theorem dX8_sign_1 : decode cX8_sign 1 = .ok (.getfield 91, 3) := by decide +kernel
theorem dX8_sign_4 : decode cX8_sign 4 = .ok (.getfield 174, 3) := by decide +kernel
theorem dX8_sign_7 : decode cX8_sign 7 = .ok (.getfield 194, 3) := by decide +kernel
theorem dX8_sign_10 : decode cX8_sign 10 = .ok (.ireturn, 1) := by decide +kernel
theorem dX8_told_0 : decode cX8_told 0 = .ok (.iload_n 1, 1) := by decide +kernel
theorem dX8_told_1 : decode cX8_told 1 = .ok (.tableswitch 77 0 6 #[43, 43, 50, 55, 60, 65, 65], 43) := by decide +kernel
theorem dX8_told_44 : decode cX8_told 44 = .ok (.aload_n 0, 1) := by decide +kernel
theorem dX8_told_45 : decode cX8_told 45 = .ok (.getfield 7, 3) := by decide +kernel
theorem dX8_told_48 : decode cX8_told 48 = .ok (.iload_n 1, 1) := by decide +kernel
theorem dX8_told_49 : decode cX8_told 49 = .ok (.iaload, 1) := by decide +kernel
theorem dX8_told_50 : decode cX8_told 50 = .ok (.ireturn, 1) := by decide +kernel
theorem dX8_told_51 : decode cX8_told 51 = .ok (.aload_n 0, 1) := by decide +kernel
theorem dX8_told_52 : decode cX8_told 52 = .ok (.getfield 42, 3) := by decide +kernel
theorem dX8_told_55 : decode cX8_told 55 = .ok (.ireturn, 1) := by decide +kernel
theorem dX8_told_56 : decode cX8_told 56 = .ok (.aload_n 0, 1) := by decide +kernel
theorem dX8_told_57 : decode cX8_told 57 = .ok (.getfield 56, 3) := by decide +kernel
theorem dX8_told_60 : decode cX8_told 60 = .ok (.ireturn, 1) := by decide +kernel
theorem dX8_told_61 : decode cX8_told 61 = .ok (.aload_n 0, 1) := by decide +kernel
theorem dX8_told_62 : decode cX8_told 62 = .ok (.getfield 46, 3) := by decide +kernel
theorem dX8_told_65 : decode cX8_told 65 = .ok (.ireturn, 1) := by decide +kernel
theorem dX8_told_66 : decode cX8_told 66 = .ok (.aload_n 0, 1) := by decide +kernel
theorem dX8_told_67 : decode cX8_told 67 = .ok (.getfield 16, 3) := by decide +kernel
theorem dX8_told_70 : decode cX8_told 70 = .ok (.iload_n 1, 1) := by decide +kernel
theorem dX8_told_71 : decode cX8_told 71 = .ok (.iconst 5, 1) := by decide +kernel
theorem dX8_told_72 : decode cX8_told 72 = .ok (.isub, 1) := by decide +kernel
theorem dX8_told_73 : decode cX8_told 73 = .ok (.aaload, 1) := by decide +kernel
theorem dX8_told_74 : decode cX8_told 74 = .ok (.getfield 211, 3) := by decide +kernel
theorem dX8_told_77 : decode cX8_told 77 = .ok (.ireturn, 1) := by decide +kernel
theorem dX8_told_78 : decode cX8_told 78 = .ok (.new 102, 3) := by decide +kernel
theorem dX8_told_81 : decode cX8_told 81 = .ok (.dup, 1) := by decide +kernel
theorem dX8_told_82 : decode cX8_told 82 = .ok (.ldc_w 256, 3) := by decide +kernel
theorem dX8_told_85 : decode cX8_told 85 = .ok (.invokespecial 106, 3) := by decide +kernel
theorem dX8_told_88 : decode cX8_told 88 = .ok (.athrow, 1) := by decide +kernel
theorem dX8_needGame_0 : decode cX8_needGame 0 = .ok (.aload_n 0, 1) := by decide +kernel
theorem dX8_needGame_1 : decode cX8_needGame 1 = .ok (.getfield 7, 3) := by decide +kernel
theorem dX8_needGame_4 : decode cX8_needGame 4 = .ok (.iconst 0, 1) := by decide +kernel
theorem dX8_needGame_5 : decode cX8_needGame 5 = .ok (.iaload, 1) := by decide +kernel
theorem dX8_needGame_6 : decode cX8_needGame 6 = .ok (.ifCond .ne 14, 3) := by decide +kernel
theorem dX8_needGame_9 : decode cX8_needGame 9 = .ok (.new 144, 3) := by decide +kernel
theorem dX8_needGame_12 : decode cX8_needGame 12 = .ok (.dup, 1) := by decide +kernel
theorem dX8_needGame_13 : decode cX8_needGame 13 = .ok (.ldc_w 258, 3) := by decide +kernel
theorem dX8_needGame_16 : decode cX8_needGame 16 = .ok (.invokespecial 148, 3) := by decide +kernel
theorem dX8_needGame_19 : decode cX8_needGame 19 = .ok (.athrow, 1) := by decide +kernel
theorem dX8_needGame_20 : decode cX8_needGame 20 = .ok (.return_, 1) := by decide +kernel
theorem dX8_needPlayer_0 : decode cX8_needPlayer 0 = .ok (.iload_n 1, 1) := by decide +kernel
theorem dX8_needPlayer_1 : decode cX8_needPlayer 1 = .ok (.ifCond .lt 8, 3) := by decide +kernel
theorem dX8_needPlayer_4 : decode cX8_needPlayer 4 = .ok (.iload_n 1, 1) := by decide +kernel
theorem dX8_needPlayer_5 : decode cX8_needPlayer 5 = .ok (.iconst 1, 1) := by decide +kernel
theorem dX8_needPlayer_6 : decode cX8_needPlayer 6 = .ok (.if_icmp .le 14, 3) := by decide +kernel
theorem dX8_needPlayer_9 : decode cX8_needPlayer 9 = .ok (.new 102, 3) := by decide +kernel
theorem dX8_needPlayer_12 : decode cX8_needPlayer 12 = .ok (.dup, 1) := by decide +kernel
theorem dX8_needPlayer_13 : decode cX8_needPlayer 13 = .ok (.ldc_w 260, 3) := by decide +kernel
theorem dX8_needPlayer_16 : decode cX8_needPlayer 16 = .ok (.invokespecial 106, 3) := by decide +kernel
theorem dX8_needPlayer_19 : decode cX8_needPlayer 19 = .ok (.athrow, 1) := by decide +kernel
theorem dX8_needPlayer_20 : decode cX8_needPlayer 20 = .ok (.return_, 1) := by decide +kernel
theorem dX8_needRow_0 : decode cX8_needRow 0 = .ok (.iload_n 2, 1) := by decide +kernel
theorem dX8_needRow_1 : decode cX8_needRow 1 = .ok (.ifCond .lt 13, 3) := by decide +kernel
theorem dX8_needRow_4 : decode cX8_needRow 4 = .ok (.iload_n 2, 1) := by decide +kernel
theorem dX8_needRow_5 : decode cX8_needRow 5 = .ok (.aload_n 0, 1) := by decide +kernel
theorem dX8_needRow_6 : decode cX8_needRow 6 = .ok (.getfield 7, 3) := by decide +kernel
theorem dX8_needRow_9 : decode cX8_needRow 9 = .ok (.iload_n 1, 1) := by decide +kernel
theorem dX8_needRow_10 : decode cX8_needRow 10 = .ok (.iaload, 1) := by decide +kernel
theorem dX8_needRow_11 : decode cX8_needRow 11 = .ok (.if_icmp .lt 14, 3) := by decide +kernel
theorem dX8_needRow_14 : decode cX8_needRow 14 = .ok (.new 102, 3) := by decide +kernel
theorem dX8_needRow_17 : decode cX8_needRow 17 = .ok (.dup, 1) := by decide +kernel
theorem dX8_needRow_18 : decode cX8_needRow 18 = .ok (.ldc_w 262, 3) := by decide +kernel
theorem dX8_needRow_21 : decode cX8_needRow 21 = .ok (.invokespecial 106, 3) := by decide +kernel
theorem dX8_needRow_24 : decode cX8_needRow 24 = .ok (.athrow, 1) := by decide +kernel
theorem dX8_needRow_25 : decode cX8_needRow 25 = .ok (.return_, 1) := by decide +kernel
theorem dX8_needSource_0 : decode cX8_needSource 0 = .ok (.aload_n 0, 1) := by decide +kernel
theorem dX8_needSource_1 : decode cX8_needSource 1 = .ok (.iload_n 1, 1) := by decide +kernel
theorem dX8_needSource_2 : decode cX8_needSource 2 = .ok (.invokevirtual 264, 3) := by decide +kernel
theorem dX8_needSource_5 : decode cX8_needSource 5 = .ok (.ifCond .ne 14, 3) := by decide +kernel
theorem dX8_needSource_8 : decode cX8_needSource 8 = .ok (.new 144, 3) := by decide +kernel
theorem dX8_needSource_11 : decode cX8_needSource 11 = .ok (.dup, 1) := by decide +kernel
theorem dX8_needSource_12 : decode cX8_needSource 12 = .ok (.ldc_w 268, 3) := by decide +kernel
theorem dX8_needSource_15 : decode cX8_needSource 15 = .ok (.invokespecial 148, 3) := by decide +kernel
theorem dX8_needSource_18 : decode cX8_needSource 18 = .ok (.athrow, 1) := by decide +kernel
theorem dX8_needSource_19 : decode cX8_needSource 19 = .ok (.return_, 1) := by decide +kernel
theorem dX8_isSource_0 : decode cX8_isSource 0 = .ok (.aload_n 0, 1) := by decide +kernel
theorem dX8_isSource_1 : decode cX8_isSource 1 = .ok (.getfield 7, 3) := by decide +kernel
theorem dX8_isSource_4 : decode cX8_isSource 4 = .ok (.iconst 0, 1) := by decide +kernel
theorem dX8_isSource_5 : decode cX8_isSource 5 = .ok (.iaload, 1) := by decide +kernel
theorem dX8_isSource_6 : decode cX8_isSource 6 = .ok (.ifCond .eq 9, 3) := by decide +kernel
theorem dX8_isSource_9 : decode cX8_isSource 9 = .ok (.iload_n 1, 1) := by decide +kernel
theorem dX8_isSource_10 : decode cX8_isSource 10 = .ok (.bipush (-2), 2) := by decide +kernel
theorem dX8_isSource_12 : decode cX8_isSource 12 = .ok (.if_icmp .ge 5, 3) := by decide +kernel
theorem dX8_isSource_15 : decode cX8_isSource 15 = .ok (.iconst 0, 1) := by decide +kernel
theorem dX8_isSource_16 : decode cX8_isSource 16 = .ok (.ireturn, 1) := by decide +kernel
theorem dX8_isSource_17 : decode cX8_isSource 17 = .ok (.iload_n 1, 1) := by decide +kernel
theorem dX8_isSource_18 : decode cX8_isSource 18 = .ok (.bipush (-2), 2) := by decide +kernel
theorem dX8_isSource_20 : decode cX8_isSource 20 = .ok (.if_icmp .ne 33, 3) := by decide +kernel
theorem dX8_isSource_23 : decode cX8_isSource 23 = .ok (.aload_n 0, 1) := by decide +kernel
theorem dX8_isSource_24 : decode cX8_isSource 24 = .ok (.getfield 23, 3) := by decide +kernel
theorem dX8_isSource_27 : decode cX8_isSource 27 = .ok (.iconst 0, 1) := by decide +kernel
theorem dX8_isSource_28 : decode cX8_isSource 28 = .ok (.aaload, 1) := by decide +kernel
theorem dX8_isSource_29 : decode cX8_isSource 29 = .ok (.invokevirtual 270, 3) := by decide +kernel
theorem dX8_isSource_32 : decode cX8_isSource 32 = .ok (.ifCond .eq 19, 3) := by decide +kernel
theorem dX8_isSource_35 : decode cX8_isSource 35 = .ok (.aload_n 0, 1) := by decide +kernel
theorem dX8_isSource_36 : decode cX8_isSource 36 = .ok (.getfield 23, 3) := by decide +kernel
theorem dX8_isSource_39 : decode cX8_isSource 39 = .ok (.iconst 1, 1) := by decide +kernel
theorem dX8_isSource_40 : decode cX8_isSource 40 = .ok (.aaload, 1) := by decide +kernel
theorem dX8_isSource_41 : decode cX8_isSource 41 = .ok (.invokevirtual 270, 3) := by decide +kernel
theorem dX8_isSource_44 : decode cX8_isSource 44 = .ok (.ifCond .eq 7, 3) := by decide +kernel
theorem dX8_isSource_47 : decode cX8_isSource 47 = .ok (.iconst 1, 1) := by decide +kernel
theorem dX8_isSource_48 : decode cX8_isSource 48 = .ok (.goto 4, 3) := by decide +kernel
theorem dX8_isSource_51 : decode cX8_isSource 51 = .ok (.iconst 0, 1) := by decide +kernel
theorem dX8_isSource_52 : decode cX8_isSource 52 = .ok (.ireturn, 1) := by decide +kernel
theorem dX8_isSource_53 : decode cX8_isSource 53 = .ok (.iload_n 1, 1) := by decide +kernel
theorem dX8_isSource_54 : decode cX8_isSource 54 = .ok (.iconst (-1), 1) := by decide +kernel
theorem dX8_isSource_55 : decode cX8_isSource 55 = .ok (.if_icmp .ne 16, 3) := by decide +kernel
theorem dX8_isSource_58 : decode cX8_isSource 58 = .ok (.aload_n 0, 1) := by decide +kernel
theorem dX8_isSource_59 : decode cX8_isSource 59 = .ok (.getfield 42, 3) := by decide +kernel
theorem dX8_isSource_62 : decode cX8_isSource 62 = .ok (.ifCond .le 7, 3) := by decide +kernel
theorem dX8_isSource_65 : decode cX8_isSource 65 = .ok (.iconst 1, 1) := by decide +kernel
theorem dX8_isSource_66 : decode cX8_isSource 66 = .ok (.goto 4, 3) := by decide +kernel
theorem dX8_isSource_69 : decode cX8_isSource 69 = .ok (.iconst 0, 1) := by decide +kernel
theorem dX8_isSource_70 : decode cX8_isSource 70 = .ok (.ireturn, 1) := by decide +kernel
theorem dX8_isSource_71 : decode cX8_isSource 71 = .ok (.aload_n 0, 1) := by decide +kernel
theorem dX8_isSource_72 : decode cX8_isSource 72 = .ok (.getfield 59, 3) := by decide +kernel
theorem dX8_isSource_75 : decode cX8_isSource 75 = .ok (.ifCond .eq 15, 3) := by decide +kernel
theorem dX8_isSource_78 : decode cX8_isSource 78 = .ok (.iload_n 1, 1) := by decide +kernel
theorem dX8_isSource_79 : decode cX8_isSource 79 = .ok (.aload_n 0, 1) := by decide +kernel
theorem dX8_isSource_80 : decode cX8_isSource 80 = .ok (.getfield 56, 3) := by decide +kernel
theorem dX8_isSource_83 : decode cX8_isSource 83 = .ok (.if_icmp .ge 7, 3) := by decide +kernel
theorem dX8_isSource_86 : decode cX8_isSource 86 = .ok (.iconst 1, 1) := by decide +kernel
theorem dX8_isSource_87 : decode cX8_isSource 87 = .ok (.goto 4, 3) := by decide +kernel
theorem dX8_isSource_90 : decode cX8_isSource 90 = .ok (.iconst 0, 1) := by decide +kernel
theorem dX8_isSource_91 : decode cX8_isSource 91 = .ok (.ireturn, 1) := by decide +kernel
theorem dX8_forget_0 : decode cX8_forget 0 = .ok (.aload_n 0, 1) := by decide +kernel
theorem dX8_forget_1 : decode cX8_forget 1 = .ok (.iconst 0, 1) := by decide +kernel
theorem dX8_forget_2 : decode cX8_forget 2 = .ok (.putfield 42, 3) := by decide +kernel
theorem dX8_forget_5 : decode cX8_forget 5 = .ok (.aload_n 0, 1) := by decide +kernel
theorem dX8_forget_6 : decode cX8_forget 6 = .ok (.iconst (-1), 1) := by decide +kernel
theorem dX8_forget_7 : decode cX8_forget 7 = .ok (.putfield 46, 3) := by decide +kernel
theorem dX8_forget_10 : decode cX8_forget 10 = .ok (.aload_n 0, 1) := by decide +kernel
theorem dX8_forget_11 : decode cX8_forget 11 = .ok (.iconst 0, 1) := by decide +kernel
theorem dX8_forget_12 : decode cX8_forget 12 = .ok (.putfield 56, 3) := by decide +kernel
theorem dX8_forget_15 : decode cX8_forget 15 = .ok (.aload_n 0, 1) := by decide +kernel
theorem dX8_forget_16 : decode cX8_forget 16 = .ok (.iconst 0, 1) := by decide +kernel
theorem dX8_forget_17 : decode cX8_forget 17 = .ok (.putfield 59, 3) := by decide +kernel
theorem dX8_forget_20 : decode cX8_forget 20 = .ok (.iconst 0, 1) := by decide +kernel
theorem dX8_forget_21 : decode cX8_forget 21 = .ok (.istore_n 1, 1) := by decide +kernel
theorem dX8_forget_22 : decode cX8_forget 22 = .ok (.iload_n 1, 1) := by decide +kernel
theorem dX8_forget_23 : decode cX8_forget 23 = .ok (.iconst 2, 1) := by decide +kernel
theorem dX8_forget_24 : decode cX8_forget 24 = .ok (.if_icmp .ge 25, 3) := by decide +kernel
theorem dX8_forget_27 : decode cX8_forget 27 = .ok (.aload_n 0, 1) := by decide +kernel
theorem dX8_forget_28 : decode cX8_forget 28 = .ok (.getfield 27, 3) := by decide +kernel
theorem dX8_forget_31 : decode cX8_forget 31 = .ok (.iload_n 1, 1) := by decide +kernel
theorem dX8_forget_32 : decode cX8_forget 32 = .ok (.iconst 1, 1) := by decide +kernel
theorem dX8_forget_33 : decode cX8_forget 33 = .ok (.aload_n 0, 1) := by decide +kernel
theorem dX8_forget_34 : decode cX8_forget 34 = .ok (.getfield 7, 3) := by decide +kernel
theorem dX8_forget_37 : decode cX8_forget 37 = .ok (.iload_n 1, 1) := by decide +kernel
theorem dX8_forget_38 : decode cX8_forget 38 = .ok (.iaload, 1) := by decide +kernel
theorem dX8_forget_39 : decode cX8_forget 39 = .ok (.ishl, 1) := by decide +kernel
theorem dX8_forget_40 : decode cX8_forget 40 = .ok (.iconst 1, 1) := by decide +kernel
theorem dX8_forget_41 : decode cX8_forget 41 = .ok (.isub, 1) := by decide +kernel
theorem dX8_forget_42 : decode cX8_forget 42 = .ok (.iastore, 1) := by decide +kernel
theorem dX8_forget_43 : decode cX8_forget 43 = .ok (.iinc 1 1, 3) := by decide +kernel
theorem dX8_forget_46 : decode cX8_forget 46 = .ok (.goto (-24), 3) := by decide +kernel
theorem dX8_forget_49 : decode cX8_forget 49 = .ok (.return_, 1) := by decide +kernel
theorem dX8_makeList_0 : decode cX8_makeList 0 = .ok (.aload_n 0, 1) := by decide +kernel
theorem dX8_makeList_1 : decode cX8_makeList 1 = .ok (.getfield 49, 3) := by decide +kernel
theorem dX8_makeList_4 : decode cX8_makeList 4 = .ok (.ifnonnull 43, 3) := by decide +kernel
theorem dX8_makeList_7 : decode cX8_makeList 7 = .ok (.aload_n 0, 1) := by decide +kernel
theorem dX8_makeList_8 : decode cX8_makeList 8 = .ok (.iconst 2, 1) := by decide +kernel
theorem dX8_makeList_9 : decode cX8_makeList 9 = .ok (.anewarray 239, 3) := by decide +kernel
theorem dX8_makeList_12 : decode cX8_makeList 12 = .ok (.dup, 1) := by decide +kernel
theorem dX8_makeList_13 : decode cX8_makeList 13 = .ok (.iconst 0, 1) := by decide +kernel
theorem dX8_makeList_14 : decode cX8_makeList 14 = .ok (.new 239, 3) := by decide +kernel
theorem dX8_makeList_17 : decode cX8_makeList 17 = .ok (.dup, 1) := by decide +kernel
theorem dX8_makeList_18 : decode cX8_makeList 18 = .ok (.aload_n 0, 1) := by decide +kernel
theorem dX8_makeList_19 : decode cX8_makeList 19 = .ok (.getfield 16, 3) := by decide +kernel
theorem dX8_makeList_22 : decode cX8_makeList 22 = .ok (.iconst 0, 1) := by decide +kernel
theorem dX8_makeList_23 : decode cX8_makeList 23 = .ok (.aaload, 1) := by decide +kernel
theorem dX8_makeList_24 : decode cX8_makeList 24 = .ok (.invokespecial 274, 3) := by decide +kernel
theorem dX8_makeList_27 : decode cX8_makeList 27 = .ok (.aastore, 1) := by decide +kernel
theorem dX8_makeList_28 : decode cX8_makeList 28 = .ok (.dup, 1) := by decide +kernel
theorem dX8_makeList_29 : decode cX8_makeList 29 = .ok (.iconst 1, 1) := by decide +kernel
theorem dX8_makeList_30 : decode cX8_makeList 30 = .ok (.new 239, 3) := by decide +kernel
theorem dX8_makeList_33 : decode cX8_makeList 33 = .ok (.dup, 1) := by decide +kernel
theorem dX8_makeList_34 : decode cX8_makeList 34 = .ok (.aload_n 0, 1) := by decide +kernel
theorem dX8_makeList_35 : decode cX8_makeList 35 = .ok (.getfield 16, 3) := by decide +kernel
theorem dX8_makeList_38 : decode cX8_makeList 38 = .ok (.iconst 1, 1) := by decide +kernel
theorem dX8_makeList_39 : decode cX8_makeList 39 = .ok (.aaload, 1) := by decide +kernel
theorem dX8_makeList_40 : decode cX8_makeList 40 = .ok (.invokespecial 274, 3) := by decide +kernel
theorem dX8_makeList_43 : decode cX8_makeList 43 = .ok (.aastore, 1) := by decide +kernel
theorem dX8_makeList_44 : decode cX8_makeList 44 = .ok (.putfield 49, 3) := by decide +kernel
theorem dX8_makeList_47 : decode cX8_makeList 47 = .ok (.aload_n 0, 1) := by decide +kernel
theorem dX8_makeList_48 : decode cX8_makeList 48 = .ok (.getfield 49, 3) := by decide +kernel
theorem dX8_makeList_51 : decode cX8_makeList 51 = .ok (.iconst 0, 1) := by decide +kernel
theorem dX8_makeList_52 : decode cX8_makeList 52 = .ok (.aaload, 1) := by decide +kernel
theorem dX8_makeList_53 : decode cX8_makeList 53 = .ok (.invokevirtual 277, 3) := by decide +kernel
theorem dX8_makeList_56 : decode cX8_makeList 56 = .ok (.aload_n 0, 1) := by decide +kernel
theorem dX8_makeList_57 : decode cX8_makeList 57 = .ok (.getfield 49, 3) := by decide +kernel
theorem dX8_makeList_60 : decode cX8_makeList 60 = .ok (.iconst 1, 1) := by decide +kernel
theorem dX8_makeList_61 : decode cX8_makeList 61 = .ok (.aaload, 1) := by decide +kernel
theorem dX8_makeList_62 : decode cX8_makeList 62 = .ok (.invokevirtual 277, 3) := by decide +kernel
theorem dX8_makeList_65 : decode cX8_makeList 65 = .ok (.aload_n 0, 1) := by decide +kernel
theorem dX8_makeList_66 : decode cX8_makeList 66 = .ok (.iconst 0, 1) := by decide +kernel
theorem dX8_makeList_67 : decode cX8_makeList 67 = .ok (.putfield 56, 3) := by decide +kernel
theorem dX8_makeList_70 : decode cX8_makeList 70 = .ok (.aload_n 0, 1) := by decide +kernel
theorem dX8_makeList_71 : decode cX8_makeList 71 = .ok (.getfield 7, 3) := by decide +kernel
theorem dX8_makeList_74 : decode cX8_makeList 74 = .ok (.iconst 0, 1) := by decide +kernel
theorem dX8_makeList_75 : decode cX8_makeList 75 = .ok (.iaload, 1) := by decide +kernel
theorem dX8_makeList_76 : decode cX8_makeList 76 = .ok (.aload_n 0, 1) := by decide +kernel
theorem dX8_makeList_77 : decode cX8_makeList 77 = .ok (.getfield 7, 3) := by decide +kernel
theorem dX8_makeList_80 : decode cX8_makeList 80 = .ok (.iconst 1, 1) := by decide +kernel
theorem dX8_makeList_81 : decode cX8_makeList 81 = .ok (.iaload, 1) := by decide +kernel
theorem dX8_makeList_82 : decode cX8_makeList 82 = .ok (.invokestatic 280, 3) := by decide +kernel
theorem dX8_makeList_85 : decode cX8_makeList 85 = .ok (.istore_n 1, 1) := by decide +kernel
theorem dX8_makeList_86 : decode cX8_makeList 86 = .ok (.iconst 1, 1) := by decide +kernel
theorem dX8_makeList_87 : decode cX8_makeList 87 = .ok (.istore_n 2, 1) := by decide +kernel
theorem dX8_makeList_88 : decode cX8_makeList 88 = .ok (.iload_n 2, 1) := by decide +kernel
theorem dX8_makeList_89 : decode cX8_makeList 89 = .ok (.iload_n 1, 1) := by decide +kernel
theorem dX8_makeList_90 : decode cX8_makeList 90 = .ok (.if_icmp .gt 43, 3) := by decide +kernel
theorem dX8_makeList_93 : decode cX8_makeList 93 = .ok (.iconst 1, 1) := by decide +kernel
theorem dX8_makeList_94 : decode cX8_makeList 94 = .ok (.istore_n 3, 1) := by decide +kernel
theorem dX8_makeList_95 : decode cX8_makeList 95 = .ok (.iload_n 3, 1) := by decide +kernel
theorem dX8_makeList_96 : decode cX8_makeList 96 = .ok (.iconst 1, 1) := by decide +kernel
theorem dX8_makeList_97 : decode cX8_makeList 97 = .ok (.aload_n 0, 1) := by decide +kernel
theorem dX8_makeList_98 : decode cX8_makeList 98 = .ok (.getfield 7, 3) := by decide +kernel
theorem dX8_makeList_101 : decode cX8_makeList 101 = .ok (.iconst 0, 1) := by decide +kernel
theorem dX8_makeList_102 : decode cX8_makeList 102 = .ok (.iaload, 1) := by decide +kernel
theorem dX8_makeList_103 : decode cX8_makeList 103 = .ok (.ishl, 1) := by decide +kernel
theorem dX8_makeList_104 : decode cX8_makeList 104 = .ok (.if_icmp .ge 23, 3) := by decide +kernel
theorem dX8_makeList_107 : decode cX8_makeList 107 = .ok (.iload_n 3, 1) := by decide +kernel
theorem dX8_makeList_108 : decode cX8_makeList 108 = .ok (.invokestatic 244, 3) := by decide +kernel
theorem dX8_makeList_111 : decode cX8_makeList 111 = .ok (.iload_n 2, 1) := by decide +kernel
theorem dX8_makeList_112 : decode cX8_makeList 112 = .ok (.if_icmp .ne 9, 3) := by decide +kernel
theorem dX8_makeList_115 : decode cX8_makeList 115 = .ok (.aload_n 0, 1) := by decide +kernel
theorem dX8_makeList_116 : decode cX8_makeList 116 = .ok (.iload_n 3, 1) := by decide +kernel
theorem dX8_makeList_117 : decode cX8_makeList 117 = .ok (.iload_n 2, 1) := by decide +kernel
theorem dX8_makeList_118 : decode cX8_makeList 118 = .ok (.invokevirtual 285, 3) := by decide +kernel
theorem dX8_makeList_121 : decode cX8_makeList 121 = .ok (.iinc 3 1, 3) := by decide +kernel
theorem dX8_makeList_124 : decode cX8_makeList 124 = .ok (.goto (-29), 3) := by decide +kernel
theorem dX8_makeList_127 : decode cX8_makeList 127 = .ok (.iinc 2 1, 3) := by decide +kernel
theorem dX8_makeList_130 : decode cX8_makeList 130 = .ok (.goto (-42), 3) := by decide +kernel
theorem dX8_makeList_133 : decode cX8_makeList 133 = .ok (.aload_n 0, 1) := by decide +kernel
theorem dX8_makeList_134 : decode cX8_makeList 134 = .ok (.iconst 1, 1) := by decide +kernel
theorem dX8_makeList_135 : decode cX8_makeList 135 = .ok (.putfield 59, 3) := by decide +kernel
theorem dX8_makeList_138 : decode cX8_makeList 138 = .ok (.return_, 1) := by decide +kernel
theorem dX8_listAllWith_0 : decode cX8_listAllWith 0 = .ok (.iconst 1, 1) := by decide +kernel
theorem dX8_listAllWith_1 : decode cX8_listAllWith 1 = .ok (.istore_n 3, 1) := by decide +kernel
theorem dX8_listAllWith_2 : decode cX8_listAllWith 2 = .ok (.iload_n 3, 1) := by decide +kernel
theorem dX8_listAllWith_3 : decode cX8_listAllWith 3 = .ok (.iconst 1, 1) := by decide +kernel
theorem dX8_listAllWith_4 : decode cX8_listAllWith 4 = .ok (.aload_n 0, 1) := by decide +kernel
theorem dX8_listAllWith_5 : decode cX8_listAllWith 5 = .ok (.getfield 7, 3) := by decide +kernel
theorem dX8_listAllWith_8 : decode cX8_listAllWith 8 = .ok (.iconst 1, 1) := by decide +kernel
theorem dX8_listAllWith_9 : decode cX8_listAllWith 9 = .ok (.iaload, 1) := by decide +kernel
theorem dX8_listAllWith_10 : decode cX8_listAllWith 10 = .ok (.ishl, 1) := by decide +kernel
theorem dX8_listAllWith_11 : decode cX8_listAllWith 11 = .ok (.if_icmp .ge 88, 3) := by decide +kernel
theorem dX8_listAllWith_14 : decode cX8_listAllWith 14 = .ok (.aload_n 0, 1) := by decide +kernel
theorem dX8_listAllWith_15 : decode cX8_listAllWith 15 = .ok (.getfield 56, 3) := by decide +kernel
theorem dX8_listAllWith_18 : decode cX8_listAllWith 18 = .ok (.bipush 100, 2) := by decide +kernel
theorem dX8_listAllWith_20 : decode cX8_listAllWith 20 = .ok (.if_icmp .ge 79, 3) := by decide +kernel
theorem dX8_listAllWith_23 : decode cX8_listAllWith 23 = .ok (.iload_n 3, 1) := by decide +kernel
theorem dX8_listAllWith_24 : decode cX8_listAllWith 24 = .ok (.invokestatic 244, 3) := by decide +kernel
theorem dX8_listAllWith_27 : decode cX8_listAllWith 27 = .ok (.iload_n 2, 1) := by decide +kernel
theorem dX8_listAllWith_28 : decode cX8_listAllWith 28 = .ok (.if_icmp .ne 65, 3) := by decide +kernel
theorem dX8_listAllWith_31 : decode cX8_listAllWith 31 = .ok (.aload_n 0, 1) := by decide +kernel
theorem dX8_listAllWith_32 : decode cX8_listAllWith 32 = .ok (.getfield 49, 3) := by decide +kernel
theorem dX8_listAllWith_35 : decode cX8_listAllWith 35 = .ok (.iconst 0, 1) := by decide +kernel
theorem dX8_listAllWith_36 : decode cX8_listAllWith 36 = .ok (.aaload, 1) := by decide +kernel
theorem dX8_listAllWith_37 : decode cX8_listAllWith 37 = .ok (.iload_n 1, 1) := by decide +kernel
theorem dX8_listAllWith_38 : decode cX8_listAllWith 38 = .ok (.iload_n 3, 1) := by decide +kernel
theorem dX8_listAllWith_39 : decode cX8_listAllWith 39 = .ok (.invokevirtual 288, 3) := by decide +kernel
theorem dX8_listAllWith_42 : decode cX8_listAllWith 42 = .ok (.ifCond .eq 51, 3) := by decide +kernel
theorem dX8_listAllWith_45 : decode cX8_listAllWith 45 = .ok (.aload_n 0, 1) := by decide +kernel
theorem dX8_listAllWith_46 : decode cX8_listAllWith 46 = .ok (.getfield 49, 3) := by decide +kernel
theorem dX8_listAllWith_49 : decode cX8_listAllWith 49 = .ok (.iconst 1, 1) := by decide +kernel
theorem dX8_listAllWith_50 : decode cX8_listAllWith 50 = .ok (.aaload, 1) := by decide +kernel
theorem dX8_listAllWith_51 : decode cX8_listAllWith 51 = .ok (.iload_n 3, 1) := by decide +kernel
theorem dX8_listAllWith_52 : decode cX8_listAllWith 52 = .ok (.iload_n 1, 1) := by decide +kernel
theorem dX8_listAllWith_53 : decode cX8_listAllWith 53 = .ok (.invokevirtual 288, 3) := by decide +kernel
theorem dX8_listAllWith_56 : decode cX8_listAllWith 56 = .ok (.ifCond .eq 37, 3) := by decide +kernel
theorem dX8_listAllWith_59 : decode cX8_listAllWith 59 = .ok (.aload_n 0, 1) := by decide +kernel
theorem dX8_listAllWith_60 : decode cX8_listAllWith 60 = .ok (.getfield 53, 3) := by decide +kernel
theorem dX8_listAllWith_63 : decode cX8_listAllWith 63 = .ok (.iconst 0, 1) := by decide +kernel
theorem dX8_listAllWith_64 : decode cX8_listAllWith 64 = .ok (.aaload, 1) := by decide +kernel
theorem dX8_listAllWith_65 : decode cX8_listAllWith 65 = .ok (.aload_n 0, 1) := by decide +kernel
theorem dX8_listAllWith_66 : decode cX8_listAllWith 66 = .ok (.getfield 56, 3) := by decide +kernel
theorem dX8_listAllWith_69 : decode cX8_listAllWith 69 = .ok (.iload_n 1, 1) := by decide +kernel
theorem dX8_listAllWith_70 : decode cX8_listAllWith 70 = .ok (.iastore, 1) := by decide +kernel
theorem dX8_listAllWith_71 : decode cX8_listAllWith 71 = .ok (.aload_n 0, 1) := by decide +kernel
theorem dX8_listAllWith_72 : decode cX8_listAllWith 72 = .ok (.getfield 53, 3) := by decide +kernel
theorem dX8_listAllWith_75 : decode cX8_listAllWith 75 = .ok (.iconst 1, 1) := by decide +kernel
theorem dX8_listAllWith_76 : decode cX8_listAllWith 76 = .ok (.aaload, 1) := by decide +kernel
theorem dX8_listAllWith_77 : decode cX8_listAllWith 77 = .ok (.aload_n 0, 1) := by decide +kernel
theorem dX8_listAllWith_78 : decode cX8_listAllWith 78 = .ok (.getfield 56, 3) := by decide +kernel
theorem dX8_listAllWith_81 : decode cX8_listAllWith 81 = .ok (.iload_n 3, 1) := by decide +kernel
theorem dX8_listAllWith_82 : decode cX8_listAllWith 82 = .ok (.iastore, 1) := by decide +kernel
theorem dX8_listAllWith_83 : decode cX8_listAllWith 83 = .ok (.aload_n 0, 1) := by decide +kernel
theorem dX8_listAllWith_84 : decode cX8_listAllWith 84 = .ok (.dup, 1) := by decide +kernel
theorem dX8_listAllWith_85 : decode cX8_listAllWith 85 = .ok (.getfield 56, 3) := by decide +kernel
theorem dX8_listAllWith_88 : decode cX8_listAllWith 88 = .ok (.iconst 1, 1) := by decide +kernel
theorem dX8_listAllWith_89 : decode cX8_listAllWith 89 = .ok (.iadd, 1) := by decide +kernel
theorem dX8_listAllWith_90 : decode cX8_listAllWith 90 = .ok (.putfield 56, 3) := by decide +kernel
theorem dX8_listAllWith_93 : decode cX8_listAllWith 93 = .ok (.iinc 3 1, 3) := by decide +kernel
theorem dX8_listAllWith_96 : decode cX8_listAllWith 96 = .ok (.goto (-94), 3) := by decide +kernel
theorem dX8_listAllWith_99 : decode cX8_listAllWith 99 = .ok (.return_, 1) := by decide +kernel
theorem dX8_load_0 : decode cX8_load 0 = .ok (.iconst 0, 1) := by decide +kernel
theorem dX8_load_1 : decode cX8_load 1 = .ok (.istore_n 2, 1) := by decide +kernel
theorem dX8_load_2 : decode cX8_load 2 = .ok (.iload_n 2, 1) := by decide +kernel
theorem dX8_load_3 : decode cX8_load 3 = .ok (.iconst 2, 1) := by decide +kernel
theorem dX8_load_4 : decode cX8_load 4 = .ok (.if_icmp .ge 128, 3) := by decide +kernel
theorem dX8_load_7 : decode cX8_load 7 = .ok (.aload_n 0, 1) := by decide +kernel
theorem dX8_load_8 : decode cX8_load 8 = .ok (.getfield 66, 3) := by decide +kernel
theorem dX8_load_11 : decode cX8_load 11 = .ok (.iload_n 2, 1) := by decide +kernel
theorem dX8_load_12 : decode cX8_load 12 = .ok (.aaload, 1) := by decide +kernel
theorem dX8_load_13 : decode cX8_load 13 = .ok (.astore_n 3, 1) := by decide +kernel
theorem dX8_load_14 : decode cX8_load 14 = .ok (.aload_n 3, 1) := by decide +kernel
theorem dX8_load_15 : decode cX8_load 15 = .ok (.invokevirtual 292, 3) := by decide +kernel
theorem dX8_load_18 : decode cX8_load 18 = .ok (.iload_n 1, 1) := by decide +kernel
theorem dX8_load_19 : decode cX8_load 19 = .ok (.bipush (-2), 2) := by decide +kernel
theorem dX8_load_21 : decode cX8_load 21 = .ok (.if_icmp .ne 16, 3) := by decide +kernel
theorem dX8_load_24 : decode cX8_load 24 = .ok (.aload_n 0, 1) := by decide +kernel
theorem dX8_load_25 : decode cX8_load 25 = .ok (.getfield 23, 3) := by decide +kernel
theorem dX8_load_28 : decode cX8_load 28 = .ok (.iload_n 2, 1) := by decide +kernel
theorem dX8_load_29 : decode cX8_load 29 = .ok (.aaload, 1) := by decide +kernel
theorem dX8_load_30 : decode cX8_load 30 = .ok (.aload_n 3, 1) := by decide +kernel
theorem dX8_load_31 : decode cX8_load 31 = .ok (.invokevirtual 293, 3) := by decide +kernel
theorem dX8_load_34 : decode cX8_load 34 = .ok (.goto 88, 3) := by decide +kernel
theorem dX8_load_37 : decode cX8_load 37 = .ok (.iload_n 1, 1) := by decide +kernel
theorem dX8_load_38 : decode cX8_load 38 = .ok (.iconst (-1), 1) := by decide +kernel
theorem dX8_load_39 : decode cX8_load 39 = .ok (.if_icmp .ne 36, 3) := by decide +kernel
theorem dX8_load_42 : decode cX8_load 42 = .ok (.aload_n 0, 1) := by decide +kernel
theorem dX8_load_43 : decode cX8_load 43 = .ok (.getfield 33, 3) := by decide +kernel
theorem dX8_load_46 : decode cX8_load 46 = .ok (.iload_n 2, 1) := by decide +kernel
theorem dX8_load_47 : decode cX8_load 47 = .ok (.aaload, 1) := by decide +kernel
theorem dX8_load_48 : decode cX8_load 48 = .ok (.iload_n 2, 1) := by decide +kernel
theorem dX8_load_49 : decode cX8_load 49 = .ok (.ifCond .ne 7, 3) := by decide +kernel
theorem dX8_load_52 : decode cX8_load 52 = .ok (.iconst 0, 1) := by decide +kernel
theorem dX8_load_53 : decode cX8_load 53 = .ok (.goto 9, 3) := by decide +kernel
theorem dX8_load_56 : decode cX8_load 56 = .ok (.aload_n 0, 1) := by decide +kernel
theorem dX8_load_57 : decode cX8_load 57 = .ok (.getfield 7, 3) := by decide +kernel
theorem dX8_load_60 : decode cX8_load 60 = .ok (.iconst 0, 1) := by decide +kernel
theorem dX8_load_61 : decode cX8_load 61 = .ok (.iaload, 1) := by decide +kernel
theorem dX8_load_62 : decode cX8_load 62 = .ok (.aload_n 0, 1) := by decide +kernel
theorem dX8_load_63 : decode cX8_load 63 = .ok (.getfield 7, 3) := by decide +kernel
theorem dX8_load_66 : decode cX8_load 66 = .ok (.iload_n 2, 1) := by decide +kernel
theorem dX8_load_67 : decode cX8_load 67 = .ok (.iaload, 1) := by decide +kernel
theorem dX8_load_68 : decode cX8_load 68 = .ok (.aload_n 3, 1) := by decide +kernel
theorem dX8_load_69 : decode cX8_load 69 = .ok (.invokevirtual 297, 3) := by decide +kernel
theorem dX8_load_72 : decode cX8_load 72 = .ok (.goto 50, 3) := by decide +kernel
theorem dX8_load_75 : decode cX8_load 75 = .ok (.aload_n 0, 1) := by decide +kernel
theorem dX8_load_76 : decode cX8_load 76 = .ok (.getfield 49, 3) := by decide +kernel
theorem dX8_load_79 : decode cX8_load 79 = .ok (.ifnull 43, 3) := by decide +kernel
theorem dX8_load_82 : decode cX8_load 82 = .ok (.iload_n 1, 1) := by decide +kernel
theorem dX8_load_83 : decode cX8_load 83 = .ok (.ifCond .lt 39, 3) := by decide +kernel
theorem dX8_load_86 : decode cX8_load 86 = .ok (.iload_n 1, 1) := by decide +kernel
theorem dX8_load_87 : decode cX8_load 87 = .ok (.bipush 100, 2) := by decide +kernel
theorem dX8_load_89 : decode cX8_load 89 = .ok (.if_icmp .ge 33, 3) := by decide +kernel
theorem dX8_load_92 : decode cX8_load 92 = .ok (.aload_n 0, 1) := by decide +kernel
theorem dX8_load_93 : decode cX8_load 93 = .ok (.getfield 49, 3) := by decide +kernel
theorem dX8_load_96 : decode cX8_load 96 = .ok (.iconst 1, 1) := by decide +kernel
theorem dX8_load_97 : decode cX8_load 97 = .ok (.iload_n 2, 1) := by decide +kernel
theorem dX8_load_98 : decode cX8_load 98 = .ok (.isub, 1) := by decide +kernel
theorem dX8_load_99 : decode cX8_load 99 = .ok (.aaload, 1) := by decide +kernel
theorem dX8_load_100 : decode cX8_load 100 = .ok (.aload_n 0, 1) := by decide +kernel
theorem dX8_load_101 : decode cX8_load 101 = .ok (.getfield 53, 3) := by decide +kernel
theorem dX8_load_104 : decode cX8_load 104 = .ok (.iconst 1, 1) := by decide +kernel
theorem dX8_load_105 : decode cX8_load 105 = .ok (.iload_n 2, 1) := by decide +kernel
theorem dX8_load_106 : decode cX8_load 106 = .ok (.isub, 1) := by decide +kernel
theorem dX8_load_107 : decode cX8_load 107 = .ok (.aaload, 1) := by decide +kernel
theorem dX8_load_108 : decode cX8_load 108 = .ok (.iload_n 1, 1) := by decide +kernel
theorem dX8_load_109 : decode cX8_load 109 = .ok (.iaload, 1) := by decide +kernel
theorem dX8_load_110 : decode cX8_load 110 = .ok (.aload_n 0, 1) := by decide +kernel
theorem dX8_load_111 : decode cX8_load 111 = .ok (.getfield 53, 3) := by decide +kernel
theorem dX8_load_114 : decode cX8_load 114 = .ok (.iload_n 2, 1) := by decide +kernel
theorem dX8_load_115 : decode cX8_load 115 = .ok (.aaload, 1) := by decide +kernel
theorem dX8_load_116 : decode cX8_load 116 = .ok (.iload_n 1, 1) := by decide +kernel
theorem dX8_load_117 : decode cX8_load 117 = .ok (.iaload, 1) := by decide +kernel
theorem dX8_load_118 : decode cX8_load 118 = .ok (.aload_n 3, 1) := by decide +kernel
theorem dX8_load_119 : decode cX8_load 119 = .ok (.invokevirtual 300, 3) := by decide +kernel
theorem dX8_load_122 : decode cX8_load 122 = .ok (.aload_n 3, 1) := by decide +kernel
theorem dX8_load_123 : decode cX8_load 123 = .ok (.invokevirtual 301, 3) := by decide +kernel
theorem dX8_load_126 : decode cX8_load 126 = .ok (.iinc 2 1, 3) := by decide +kernel
theorem dX8_load_129 : decode cX8_load 129 = .ok (.goto (-127), 3) := by decide +kernel
theorem dX8_load_132 : decode cX8_load 132 = .ok (.return_, 1) := by decide +kernel
theorem dX8_weighValues_0 : decode cX8_weighValues 0 = .ok (.aload_n 0, 1) := by decide +kernel
theorem dX8_weighValues_1 : decode cX8_weighValues 1 = .ok (.getfield 85, 3) := by decide +kernel
theorem dX8_weighValues_4 : decode cX8_weighValues 4 = .ok (.invokevirtual 204, 3) := by decide +kernel
theorem dX8_weighValues_7 : decode cX8_weighValues 7 = .ok (.iconst 0, 1) := by decide +kernel
theorem dX8_weighValues_8 : decode cX8_weighValues 8 = .ok (.istore_n 2, 1) := by decide +kernel
theorem dX8_weighValues_9 : decode cX8_weighValues 9 = .ok (.iload_n 2, 1) := by decide +kernel
theorem dX8_weighValues_10 : decode cX8_weighValues 10 = .ok (.aload_n 0, 1) := by decide +kernel
theorem dX8_weighValues_11 : decode cX8_weighValues 11 = .ok (.getfield 7, 3) := by decide +kernel
theorem dX8_weighValues_14 : decode cX8_weighValues 14 = .ok (.iload_n 1, 1) := by decide +kernel
theorem dX8_weighValues_15 : decode cX8_weighValues 15 = .ok (.iaload, 1) := by decide +kernel
theorem dX8_weighValues_16 : decode cX8_weighValues 16 = .ok (.if_icmp .ge 81, 3) := by decide +kernel
theorem dX8_weighValues_19 : decode cX8_weighValues 19 = .ok (.aload_n 0, 1) := by decide +kernel
theorem dX8_weighValues_20 : decode cX8_weighValues 20 = .ok (.getfield 74, 3) := by decide +kernel
theorem dX8_weighValues_23 : decode cX8_weighValues 23 = .ok (.iload_n 2, 1) := by decide +kernel
theorem dX8_weighValues_24 : decode cX8_weighValues 24 = .ok (.aaload, 1) := by decide +kernel
theorem dX8_weighValues_25 : decode cX8_weighValues 25 = .ok (.invokevirtual 204, 3) := by decide +kernel
theorem dX8_weighValues_28 : decode cX8_weighValues 28 = .ok (.aload_n 0, 1) := by decide +kernel
theorem dX8_weighValues_29 : decode cX8_weighValues 29 = .ok (.getfield 16, 3) := by decide +kernel
theorem dX8_weighValues_32 : decode cX8_weighValues 32 = .ok (.iload_n 1, 1) := by decide +kernel
theorem dX8_weighValues_33 : decode cX8_weighValues 33 = .ok (.aaload, 1) := by decide +kernel
theorem dX8_weighValues_34 : decode cX8_weighValues 34 = .ok (.iload_n 2, 1) := by decide +kernel
theorem dX8_weighValues_35 : decode cX8_weighValues 35 = .ok (.aload_n 0, 1) := by decide +kernel
theorem dX8_weighValues_36 : decode cX8_weighValues 36 = .ok (.getfield 66, 3) := by decide +kernel
theorem dX8_weighValues_39 : decode cX8_weighValues 39 = .ok (.iconst 1, 1) := by decide +kernel
theorem dX8_weighValues_40 : decode cX8_weighValues 40 = .ok (.iload_n 1, 1) := by decide +kernel
theorem dX8_weighValues_41 : decode cX8_weighValues 41 = .ok (.isub, 1) := by decide +kernel
theorem dX8_weighValues_42 : decode cX8_weighValues 42 = .ok (.aaload, 1) := by decide +kernel
theorem dX8_weighValues_43 : decode cX8_weighValues 43 = .ok (.aload_n 0, 1) := by decide +kernel
theorem dX8_weighValues_44 : decode cX8_weighValues 44 = .ok (.getfield 74, 3) := by decide +kernel
theorem dX8_weighValues_47 : decode cX8_weighValues 47 = .ok (.iload_n 2, 1) := by decide +kernel
theorem dX8_weighValues_48 : decode cX8_weighValues 48 = .ok (.aaload, 1) := by decide +kernel
theorem dX8_weighValues_49 : decode cX8_weighValues 49 = .ok (.aload_n 0, 1) := by decide +kernel
theorem dX8_weighValues_50 : decode cX8_weighValues 50 = .ok (.getfield 81, 3) := by decide +kernel
theorem dX8_weighValues_53 : decode cX8_weighValues 53 = .ok (.invokevirtual 207, 3) := by decide +kernel
theorem dX8_weighValues_56 : decode cX8_weighValues 56 = .ok (.aload_n 0, 1) := by decide +kernel
theorem dX8_weighValues_57 : decode cX8_weighValues 57 = .ok (.getfield 81, 3) := by decide +kernel
theorem dX8_weighValues_60 : decode cX8_weighValues 60 = .ok (.aload_n 0, 1) := by decide +kernel
theorem dX8_weighValues_61 : decode cX8_weighValues 61 = .ok (.getfield 74, 3) := by decide +kernel
theorem dX8_weighValues_64 : decode cX8_weighValues 64 = .ok (.iload_n 2, 1) := by decide +kernel
theorem dX8_weighValues_65 : decode cX8_weighValues 65 = .ok (.aaload, 1) := by decide +kernel
theorem dX8_weighValues_66 : decode cX8_weighValues 66 = .ok (.aload_n 0, 1) := by decide +kernel
theorem dX8_weighValues_67 : decode cX8_weighValues 67 = .ok (.getfield 66, 3) := by decide +kernel
theorem dX8_weighValues_70 : decode cX8_weighValues 70 = .ok (.iload_n 1, 1) := by decide +kernel
theorem dX8_weighValues_71 : decode cX8_weighValues 71 = .ok (.aaload, 1) := by decide +kernel
theorem dX8_weighValues_72 : decode cX8_weighValues 72 = .ok (.getfield 177, 3) := by decide +kernel
theorem dX8_weighValues_75 : decode cX8_weighValues 75 = .ok (.iload_n 2, 1) := by decide +kernel
theorem dX8_weighValues_76 : decode cX8_weighValues 76 = .ok (.aaload, 1) := by decide +kernel
theorem dX8_weighValues_77 : decode cX8_weighValues 77 = .ok (.invokevirtual 230, 3) := by decide +kernel
theorem dX8_weighValues_80 : decode cX8_weighValues 80 = .ok (.aload_n 0, 1) := by decide +kernel
theorem dX8_weighValues_81 : decode cX8_weighValues 81 = .ok (.getfield 85, 3) := by decide +kernel
theorem dX8_weighValues_84 : decode cX8_weighValues 84 = .ok (.aload_n 0, 1) := by decide +kernel
theorem dX8_weighValues_85 : decode cX8_weighValues 85 = .ok (.getfield 81, 3) := by decide +kernel
theorem dX8_weighValues_88 : decode cX8_weighValues 88 = .ok (.invokevirtual 304, 3) := by decide +kernel
theorem dX8_weighValues_91 : decode cX8_weighValues 91 = .ok (.iinc 2 1, 3) := by decide +kernel
theorem dX8_weighValues_94 : decode cX8_weighValues 94 = .ok (.goto (-85), 3) := by decide +kernel
theorem dX8_weighValues_97 : decode cX8_weighValues 97 = .ok (.return_, 1) := by decide +kernel
theorem dX8_bestBits_0 : decode cX8_bestBits 0 = .ok (.iconst 1, 1) := by decide +kernel
theorem dX8_bestBits_1 : decode cX8_bestBits 1 = .ok (.istore_n 2, 1) := by decide +kernel
theorem dX8_bestBits_2 : decode cX8_bestBits 2 = .ok (.iconst 0, 1) := by decide +kernel
theorem dX8_bestBits_3 : decode cX8_bestBits 3 = .ok (.istore_n 3, 1) := by decide +kernel
theorem dX8_bestBits_4 : decode cX8_bestBits 4 = .ok (.iconst 1, 1) := by decide +kernel
theorem dX8_bestBits_5 : decode cX8_bestBits 5 = .ok (.istore 4, 2) := by decide +kernel
theorem dX8_bestBits_7 : decode cX8_bestBits 7 = .ok (.iload 4, 2) := by decide +kernel
theorem dX8_bestBits_9 : decode cX8_bestBits 9 = .ok (.aload_n 0, 1) := by decide +kernel
theorem dX8_bestBits_10 : decode cX8_bestBits 10 = .ok (.getfield 7, 3) := by decide +kernel
theorem dX8_bestBits_13 : decode cX8_bestBits 13 = .ok (.iload_n 1, 1) := by decide +kernel
theorem dX8_bestBits_14 : decode cX8_bestBits 14 = .ok (.iaload, 1) := by decide +kernel
theorem dX8_bestBits_15 : decode cX8_bestBits 15 = .ok (.if_icmp .ge 49, 3) := by decide +kernel
theorem dX8_bestBits_18 : decode cX8_bestBits 18 = .ok (.aload_n 0, 1) := by decide +kernel
theorem dX8_bestBits_19 : decode cX8_bestBits 19 = .ok (.getfield 74, 3) := by decide +kernel
theorem dX8_bestBits_22 : decode cX8_bestBits 22 = .ok (.iload 4, 2) := by decide +kernel
theorem dX8_bestBits_24 : decode cX8_bestBits 24 = .ok (.aaload, 1) := by decide +kernel
theorem dX8_bestBits_25 : decode cX8_bestBits 25 = .ok (.aload_n 0, 1) := by decide +kernel
theorem dX8_bestBits_26 : decode cX8_bestBits 26 = .ok (.getfield 74, 3) := by decide +kernel
theorem dX8_bestBits_29 : decode cX8_bestBits 29 = .ok (.iload_n 3, 1) := by decide +kernel
theorem dX8_bestBits_30 : decode cX8_bestBits 30 = .ok (.aaload, 1) := by decide +kernel
theorem dX8_bestBits_31 : decode cX8_bestBits 31 = .ok (.invokevirtual 307, 3) := by decide +kernel
theorem dX8_bestBits_34 : decode cX8_bestBits 34 = .ok (.istore 5, 2) := by decide +kernel
theorem dX8_bestBits_36 : decode cX8_bestBits 36 = .ok (.iload 5, 2) := by decide +kernel
theorem dX8_bestBits_38 : decode cX8_bestBits 38 = .ok (.ifCond .le 8, 3) := by decide +kernel
theorem dX8_bestBits_41 : decode cX8_bestBits 41 = .ok (.iconst 0, 1) := by decide +kernel
theorem dX8_bestBits_42 : decode cX8_bestBits 42 = .ok (.istore_n 2, 1) := by decide +kernel
theorem dX8_bestBits_43 : decode cX8_bestBits 43 = .ok (.iload 4, 2) := by decide +kernel
theorem dX8_bestBits_45 : decode cX8_bestBits 45 = .ok (.istore_n 3, 1) := by decide +kernel
theorem dX8_bestBits_46 : decode cX8_bestBits 46 = .ok (.iload 5, 2) := by decide +kernel
theorem dX8_bestBits_48 : decode cX8_bestBits 48 = .ok (.ifCond .lt 10, 3) := by decide +kernel
theorem dX8_bestBits_51 : decode cX8_bestBits 51 = .ok (.iload_n 2, 1) := by decide +kernel
theorem dX8_bestBits_52 : decode cX8_bestBits 52 = .ok (.iconst 1, 1) := by decide +kernel
theorem dX8_bestBits_53 : decode cX8_bestBits 53 = .ok (.iload 4, 2) := by decide +kernel
theorem dX8_bestBits_55 : decode cX8_bestBits 55 = .ok (.ishl, 1) := by decide +kernel
theorem dX8_bestBits_56 : decode cX8_bestBits 56 = .ok (.ior, 1) := by decide +kernel
theorem dX8_bestBits_57 : decode cX8_bestBits 57 = .ok (.istore_n 2, 1) := by decide +kernel
theorem dX8_bestBits_58 : decode cX8_bestBits 58 = .ok (.iinc 4 1, 3) := by decide +kernel
theorem dX8_bestBits_61 : decode cX8_bestBits 61 = .ok (.goto (-54), 3) := by decide +kernel
theorem dX8_bestBits_64 : decode cX8_bestBits 64 = .ok (.iload_n 2, 1) := by decide +kernel
theorem dX8_bestBits_65 : decode cX8_bestBits 65 = .ok (.ireturn, 1) := by decide +kernel
theorem dX8_holdOfBoth_0 : decode cX8_holdOfBoth 0 = .ok (.aload_n 0, 1) := by decide +kernel
theorem dX8_holdOfBoth_1 : decode cX8_holdOfBoth 1 = .ok (.getfield 91, 3) := by decide +kernel
theorem dX8_holdOfBoth_4 : decode cX8_holdOfBoth 4 = .ok (.getfield 174, 3) := by decide +kernel
theorem dX8_holdOfBoth_7 : decode cX8_holdOfBoth 7 = .ok (.aload_n 2, 1) := by decide +kernel
theorem dX8_holdOfBoth_8 : decode cX8_holdOfBoth 8 = .ok (.invokevirtual 180, 3) := by decide +kernel
theorem dX8_holdOfBoth_11 : decode cX8_holdOfBoth 11 = .ok (.aload_n 0, 1) := by decide +kernel
theorem dX8_holdOfBoth_12 : decode cX8_holdOfBoth 12 = .ok (.getfield 91, 3) := by decide +kernel
theorem dX8_holdOfBoth_15 : decode cX8_holdOfBoth 15 = .ok (.getfield 184, 3) := by decide +kernel
theorem dX8_holdOfBoth_18 : decode cX8_holdOfBoth 18 = .ok (.aload_n 0, 1) := by decide +kernel
theorem dX8_holdOfBoth_19 : decode cX8_holdOfBoth 19 = .ok (.getfield 16, 3) := by decide +kernel
theorem dX8_holdOfBoth_22 : decode cX8_holdOfBoth 22 = .ok (.iload_n 1, 1) := by decide +kernel
theorem dX8_holdOfBoth_23 : decode cX8_holdOfBoth 23 = .ok (.aaload, 1) := by decide +kernel
theorem dX8_holdOfBoth_24 : decode cX8_holdOfBoth 24 = .ok (.getfield 211, 3) := by decide +kernel
theorem dX8_holdOfBoth_27 : decode cX8_holdOfBoth 27 = .ok (.i2l, 1) := by decide +kernel
theorem dX8_holdOfBoth_28 : decode cX8_holdOfBoth 28 = .ok (.invokevirtual 214, 3) := by decide +kernel
theorem dX8_holdOfBoth_31 : decode cX8_holdOfBoth 31 = .ok (.aload_n 0, 1) := by decide +kernel
theorem dX8_holdOfBoth_32 : decode cX8_holdOfBoth 32 = .ok (.getfield 91, 3) := by decide +kernel
theorem dX8_holdOfBoth_35 : decode cX8_holdOfBoth 35 = .ok (.aload_n 0, 1) := by decide +kernel
theorem dX8_holdOfBoth_36 : decode cX8_holdOfBoth 36 = .ok (.getfield 66, 3) := by decide +kernel
theorem dX8_holdOfBoth_39 : decode cX8_holdOfBoth 39 = .ok (.iconst 0, 1) := by decide +kernel
theorem dX8_holdOfBoth_40 : decode cX8_holdOfBoth 40 = .ok (.aaload, 1) := by decide +kernel
theorem dX8_holdOfBoth_41 : decode cX8_holdOfBoth 41 = .ok (.getfield 187, 3) := by decide +kernel
theorem dX8_holdOfBoth_44 : decode cX8_holdOfBoth 44 = .ok (.aload_n 0, 1) := by decide +kernel
theorem dX8_holdOfBoth_45 : decode cX8_holdOfBoth 45 = .ok (.getfield 81, 3) := by decide +kernel
theorem dX8_holdOfBoth_48 : decode cX8_holdOfBoth 48 = .ok (.invokevirtual 218, 3) := by decide +kernel
theorem dX8_holdOfBoth_51 : decode cX8_holdOfBoth 51 = .ok (.aload_n 0, 1) := by decide +kernel
theorem dX8_holdOfBoth_52 : decode cX8_holdOfBoth 52 = .ok (.getfield 91, 3) := by decide +kernel
theorem dX8_holdOfBoth_55 : decode cX8_holdOfBoth 55 = .ok (.aload_n 0, 1) := by decide +kernel
theorem dX8_holdOfBoth_56 : decode cX8_holdOfBoth 56 = .ok (.getfield 66, 3) := by decide +kernel
theorem dX8_holdOfBoth_59 : decode cX8_holdOfBoth 59 = .ok (.iconst 1, 1) := by decide +kernel
theorem dX8_holdOfBoth_60 : decode cX8_holdOfBoth 60 = .ok (.aaload, 1) := by decide +kernel
theorem dX8_holdOfBoth_61 : decode cX8_holdOfBoth 61 = .ok (.getfield 187, 3) := by decide +kernel
theorem dX8_holdOfBoth_64 : decode cX8_holdOfBoth 64 = .ok (.aload_n 0, 1) := by decide +kernel
theorem dX8_holdOfBoth_65 : decode cX8_holdOfBoth 65 = .ok (.getfield 81, 3) := by decide +kernel
theorem dX8_holdOfBoth_68 : decode cX8_holdOfBoth 68 = .ok (.invokevirtual 218, 3) := by decide +kernel
theorem dX8_holdOfBoth_71 : decode cX8_holdOfBoth 71 = .ok (.aload_n 0, 1) := by decide +kernel
theorem dX8_holdOfBoth_72 : decode cX8_holdOfBoth 72 = .ok (.getfield 91, 3) := by decide +kernel
theorem dX8_holdOfBoth_75 : decode cX8_holdOfBoth 75 = .ok (.aload_n 0, 1) := by decide +kernel
theorem dX8_holdOfBoth_76 : decode cX8_holdOfBoth 76 = .ok (.getfield 98, 3) := by decide +kernel
theorem dX8_holdOfBoth_79 : decode cX8_holdOfBoth 79 = .ok (.invokevirtual 190, 3) := by decide +kernel
theorem dX8_holdOfBoth_82 : decode cX8_holdOfBoth 82 = .ok (.return_, 1) := by decide +kernel
theorem dX8_bigs_0 : decode cX8_bigs 0 = .ok (.iload_n 0, 1) := by decide +kernel
theorem dX8_bigs_1 : decode cX8_bigs 1 = .ok (.iconst 0, 1) := by decide +kernel
theorem dX8_bigs_2 : decode cX8_bigs 2 = .ok (.invokestatic 311, 3) := by decide +kernel
theorem dX8_bigs_5 : decode cX8_bigs 5 = .ok (.anewarray 78, 3) := by decide +kernel
theorem dX8_bigs_8 : decode cX8_bigs 8 = .ok (.astore_n 1, 1) := by decide +kernel
theorem dX8_bigs_9 : decode cX8_bigs 9 = .ok (.iconst 0, 1) := by decide +kernel
theorem dX8_bigs_10 : decode cX8_bigs 10 = .ok (.istore_n 2, 1) := by decide +kernel
theorem dX8_bigs_11 : decode cX8_bigs 11 = .ok (.iload_n 2, 1) := by decide +kernel
theorem dX8_bigs_12 : decode cX8_bigs 12 = .ok (.aload_n 1, 1) := by decide +kernel
theorem dX8_bigs_13 : decode cX8_bigs 13 = .ok (.arraylength, 1) := by decide +kernel
theorem dX8_bigs_14 : decode cX8_bigs 14 = .ok (.if_icmp .ge 19, 3) := by decide +kernel
theorem dX8_bigs_17 : decode cX8_bigs 17 = .ok (.aload_n 1, 1) := by decide +kernel
theorem dX8_bigs_18 : decode cX8_bigs 18 = .ok (.iload_n 2, 1) := by decide +kernel
theorem dX8_bigs_19 : decode cX8_bigs 19 = .ok (.new 78, 3) := by decide +kernel
theorem dX8_bigs_22 : decode cX8_bigs 22 = .ok (.dup, 1) := by decide +kernel
theorem dX8_bigs_23 : decode cX8_bigs 23 = .ok (.invokespecial 80, 3) := by decide +kernel
theorem dX8_bigs_26 : decode cX8_bigs 26 = .ok (.aastore, 1) := by decide +kernel
theorem dX8_bigs_27 : decode cX8_bigs 27 = .ok (.iinc 2 1, 3) := by decide +kernel
theorem dX8_bigs_30 : decode cX8_bigs 30 = .ok (.goto (-19), 3) := by decide +kernel
theorem dX8_bigs_33 : decode cX8_bigs 33 = .ok (.aload_n 1, 1) := by decide +kernel
theorem dX8_bigs_34 : decode cX8_bigs 34 = .ok (.areturn, 1) := by decide +kernel
