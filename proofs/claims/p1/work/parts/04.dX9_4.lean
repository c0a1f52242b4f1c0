theorem dX9_best_35 : decode cX9_best 35 = .ok (.iload_n 3, 1) := by decide +kernel
theorem dX9_best_36 : decode cX9_best 36 = .ok (.ifCond .ne 7, 3) := by decide +kernel
theorem dX9_best_39 : decode cX9_best 39 = .ok (.iconst 1, 1) := by decide +kernel
theorem dX9_best_40 : decode cX9_best 40 = .ok (.goto 11, 3) := by decide +kernel
theorem dX9_best_43 : decode cX9_best 43 = .ok (.aload_n 0, 1) := by decide +kernel
theorem dX9_best_44 : decode cX9_best 44 = .ok (.bipush 22, 2) := by decide +kernel
theorem dX9_best_46 : decode cX9_best 46 = .ok (.bipush 24, 2) := by decide +kernel
theorem dX9_best_48 : decode cX9_best 48 = .ok (.invokevirtual 159, 3) := by decide +kernel
theorem dX9_best_51 : decode cX9_best 51 = .ok (.istore 5, 2) := by decide +kernel
theorem dX9_best_53 : decode cX9_best 53 = .ok (.iload 5, 2) := by decide +kernel
theorem dX9_best_55 : decode cX9_best 55 = .ok (.ifCond .le 13, 3) := by decide +kernel
theorem dX9_best_58 : decode cX9_best 58 = .ok (.aload_n 0, 1) := by decide +kernel
theorem dX9_best_59 : decode cX9_best 59 = .ok (.bipush 22, 2) := by decide +kernel
theorem dX9_best_61 : decode cX9_best 61 = .ok (.bipush 24, 2) := by decide +kernel
theorem dX9_best_63 : decode cX9_best 63 = .ok (.invokevirtual 98, 3) := by decide +kernel
theorem dX9_best_66 : decode cX9_best 66 = .ok (.iconst 0, 1) := by decide +kernel
theorem dX9_best_67 : decode cX9_best 67 = .ok (.istore_n 3, 1) := by decide +kernel
theorem dX9_best_68 : decode cX9_best 68 = .ok (.iload_n 3, 1) := by decide +kernel
theorem dX9_best_69 : decode cX9_best 69 = .ok (.iload 5, 2) := by decide +kernel
theorem dX9_best_71 : decode cX9_best 71 = .ok (.ifCond .lt 10, 3) := by decide +kernel
theorem dX9_best_74 : decode cX9_best 74 = .ok (.iconst 1, 1) := by decide +kernel
theorem dX9_best_75 : decode cX9_best 75 = .ok (.iload 4, 2) := by decide +kernel
theorem dX9_best_77 : decode cX9_best 77 = .ok (.ishl, 1) := by decide +kernel
theorem dX9_best_78 : decode cX9_best 78 = .ok (.goto 4, 3) := by decide +kernel
theorem dX9_best_81 : decode cX9_best 81 = .ok (.iconst 0, 1) := by decide +kernel
theorem dX9_best_82 : decode cX9_best 82 = .ok (.ior, 1) := by decide +kernel
theorem dX9_best_83 : decode cX9_best 83 = .ok (.istore_n 3, 1) := by decide +kernel
theorem dX9_best_84 : decode cX9_best 84 = .ok (.iinc 4 1, 3) := by decide +kernel
theorem dX9_best_87 : decode cX9_best 87 = .ok (.goto (-82), 3) := by decide +kernel
theorem dX9_best_90 : decode cX9_best 90 = .ok (.iload_n 3, 1) := by decide +kernel
theorem dX9_best_91 : decode cX9_best 91 = .ok (.ireturn, 1) := by decide +kernel
theorem dX9_replies_0 : decode cX9_replies 0 = .ok (.aload_n 0, 1) := by decide +kernel
theorem dX9_replies_1 : decode cX9_replies 1 = .ok (.iload_n 1, 1) := by decide +kernel
theorem dX9_replies_2 : decode cX9_replies 2 = .ok (.invokevirtual 184, 3) := by decide +kernel
theorem dX9_replies_5 : decode cX9_replies 5 = .ok (.istore_n 3, 1) := by decide +kernel
theorem dX9_replies_6 : decode cX9_replies 6 = .ok (.aload_n 0, 1) := by decide +kernel
theorem dX9_replies_7 : decode cX9_replies 7 = .ok (.iload_n 3, 1) := by decide +kernel
theorem dX9_replies_8 : decode cX9_replies 8 = .ok (.ifCond .ge 7, 3) := by decide +kernel
theorem dX9_replies_11 : decode cX9_replies 11 = .ok (.iconst 1, 1) := by decide +kernel
theorem dX9_replies_12 : decode cX9_replies 12 = .ok (.goto 17, 3) := by decide +kernel
theorem dX9_replies_15 : decode cX9_replies 15 = .ok (.iload_n 2, 1) := by decide +kernel
theorem dX9_replies_16 : decode cX9_replies 16 = .ok (.iconst 0, 1) := by decide +kernel
theorem dX9_replies_17 : decode cX9_replies 17 = .ok (.iconst 1, 1) := by decide +kernel
theorem dX9_replies_18 : decode cX9_replies 18 = .ok (.invokestatic 116, 3) := by decide +kernel
theorem dX9_replies_21 : decode cX9_replies 21 = .ok (.ifCond .ne 7, 3) := by decide +kernel
theorem dX9_replies_24 : decode cX9_replies 24 = .ok (.iconst 2, 1) := by decide +kernel
theorem dX9_replies_25 : decode cX9_replies 25 = .ok (.goto 4, 3) := by decide +kernel
theorem dX9_replies_28 : decode cX9_replies 28 = .ok (.iconst 0, 1) := by decide +kernel
theorem dX9_replies_29 : decode cX9_replies 29 = .ok (.putfield 84, 3) := by decide +kernel
theorem dX9_replies_32 : decode cX9_replies 32 = .ok (.aload_n 0, 1) := by decide +kernel
theorem dX9_replies_33 : decode cX9_replies 33 = .ok (.getfield 84, 3) := by decide +kernel
theorem dX9_replies_36 : decode cX9_replies 36 = .ok (.ifCond .le 5, 3) := by decide +kernel
theorem dX9_replies_39 : decode cX9_replies 39 = .ok (.iconst 0, 1) := by decide +kernel
theorem dX9_replies_40 : decode cX9_replies 40 = .ok (.ireturn, 1) := by decide +kernel
theorem dX9_replies_41 : decode cX9_replies 41 = .ok (.aload_n 0, 1) := by decide +kernel
theorem dX9_replies_42 : decode cX9_replies 42 = .ok (.iload_n 3, 1) := by decide +kernel
theorem dX9_replies_43 : decode cX9_replies 43 = .ok (.iload_n 2, 1) := by decide +kernel
theorem dX9_replies_44 : decode cX9_replies 44 = .ok (.invokevirtual 196, 3) := by decide +kernel
theorem dX9_replies_47 : decode cX9_replies 47 = .ok (.istore 4, 2) := by decide +kernel
theorem dX9_replies_49 : decode cX9_replies 49 = .ok (.aload_n 0, 1) := by decide +kernel
theorem dX9_replies_50 : decode cX9_replies 50 = .ok (.bipush 24, 2) := by decide +kernel
theorem dX9_replies_52 : decode cX9_replies 52 = .ok (.iload_n 3, 1) := by decide +kernel
theorem dX9_replies_53 : decode cX9_replies 53 = .ok (.bipush 12, 2) := by decide +kernel
theorem dX9_replies_55 : decode cX9_replies 55 = .ok (.iadd, 1) := by decide +kernel
theorem dX9_replies_56 : decode cX9_replies 56 = .ok (.iload_n 2, 1) := by decide +kernel
theorem dX9_replies_57 : decode cX9_replies 57 = .ok (.iadd, 1) := by decide +kernel
theorem dX9_replies_58 : decode cX9_replies 58 = .ok (.bipush 23, 2) := by decide +kernel
theorem dX9_replies_60 : decode cX9_replies 60 = .ok (.invokevirtual 104, 3) := by decide +kernel
theorem dX9_replies_63 : decode cX9_replies 63 = .ok (.aload_n 0, 1) := by decide +kernel
theorem dX9_replies_64 : decode cX9_replies 64 = .ok (.iload_n 3, 1) := by decide +kernel
theorem dX9_replies_65 : decode cX9_replies 65 = .ok (.iload_n 2, 1) := by decide +kernel
theorem dX9_replies_66 : decode cX9_replies 66 = .ok (.bipush 25, 2) := by decide +kernel
theorem dX9_replies_68 : decode cX9_replies 68 = .ok (.invokevirtual 193, 3) := by decide +kernel
theorem dX9_replies_71 : decode cX9_replies 71 = .ok (.aload_n 0, 1) := by decide +kernel
theorem dX9_replies_72 : decode cX9_replies 72 = .ok (.bipush 23, 2) := by decide +kernel
theorem dX9_replies_74 : decode cX9_replies 74 = .ok (.bipush 25, 2) := by decide +kernel
theorem dX9_replies_76 : decode cX9_replies 76 = .ok (.iconst 1, 1) := by decide +kernel
theorem dX9_replies_77 : decode cX9_replies 77 = .ok (.bipush 22, 2) := by decide +kernel
theorem dX9_replies_79 : decode cX9_replies 79 = .ok (.invokevirtual 108, 3) := by decide +kernel
theorem dX9_replies_82 : decode cX9_replies 82 = .ok (.aload_n 0, 1) := by decide +kernel
theorem dX9_replies_83 : decode cX9_replies 83 = .ok (.bipush 10, 2) := by decide +kernel
theorem dX9_replies_85 : decode cX9_replies 85 = .ok (.aload_n 0, 1) := by decide +kernel
theorem dX9_replies_86 : decode cX9_replies 86 = .ok (.getfield 55, 3) := by decide +kernel
theorem dX9_replies_89 : decode cX9_replies 89 = .ok (.iload_n 2, 1) := by decide +kernel
theorem dX9_replies_90 : decode cX9_replies 90 = .ok (.laload, 1) := by decide +kernel
theorem dX9_replies_91 : decode cX9_replies 91 = .ok (.invokevirtual 80, 3) := by decide +kernel
theorem dX9_replies_94 : decode cX9_replies 94 = .ok (.aload_n 0, 1) := by decide +kernel
theorem dX9_replies_95 : decode cX9_replies 95 = .ok (.bipush 10, 2) := by decide +kernel
theorem dX9_replies_97 : decode cX9_replies 97 = .ok (.iload_n 3, 1) := by decide +kernel
theorem dX9_replies_98 : decode cX9_replies 98 = .ok (.bipush 12, 2) := by decide +kernel
theorem dX9_replies_100 : decode cX9_replies 100 = .ok (.iadd, 1) := by decide +kernel
theorem dX9_replies_101 : decode cX9_replies 101 = .ok (.bipush 20, 2) := by decide +kernel
theorem dX9_replies_103 : decode cX9_replies 103 = .ok (.invokevirtual 104, 3) := by decide +kernel
theorem dX9_replies_106 : decode cX9_replies 106 = .ok (.aload_n 0, 1) := by decide +kernel
theorem dX9_replies_107 : decode cX9_replies 107 = .ok (.bipush 20, 2) := by decide +kernel
theorem dX9_replies_109 : decode cX9_replies 109 = .ok (.iload_n 3, 1) := by decide +kernel
theorem dX9_replies_110 : decode cX9_replies 110 = .ok (.bipush 13, 2) := by decide +kernel
theorem dX9_replies_112 : decode cX9_replies 112 = .ok (.iadd, 1) := by decide +kernel
theorem dX9_replies_113 : decode cX9_replies 113 = .ok (.bipush 21, 2) := by decide +kernel
theorem dX9_replies_115 : decode cX9_replies 115 = .ok (.invokevirtual 104, 3) := by decide +kernel
theorem dX9_replies_118 : decode cX9_replies 118 = .ok (.aload_n 0, 1) := by decide +kernel
theorem dX9_replies_119 : decode cX9_replies 119 = .ok (.bipush 22, 2) := by decide +kernel
theorem dX9_replies_121 : decode cX9_replies 121 = .ok (.bipush 21, 2) := by decide +kernel
theorem dX9_replies_123 : decode cX9_replies 123 = .ok (.invokevirtual 187, 3) := by decide +kernel
theorem dX9_replies_126 : decode cX9_replies 126 = .ok (.istore 5, 2) := by decide +kernel
theorem dX9_replies_128 : decode cX9_replies 128 = .ok (.iload 4, 2) := by decide +kernel
theorem dX9_replies_130 : decode cX9_replies 130 = .ok (.ireturn, 1) := by decide +kernel
theorem dX9_judge_0 : decode cX9_judge 0 = .ok (.aload_n 0, 1) := by decide +kernel
theorem dX9_judge_1 : decode cX9_judge 1 = .ok (.iload_n 1, 1) := by decide +kernel
theorem dX9_judge_2 : decode cX9_judge 2 = .ok (.invokevirtual 184, 3) := by decide +kernel
theorem dX9_judge_5 : decode cX9_judge 5 = .ok (.istore_n 2, 1) := by decide +kernel
theorem dX9_judge_6 : decode cX9_judge 6 = .ok (.aload_n 0, 1) := by decide +kernel
theorem dX9_judge_7 : decode cX9_judge 7 = .ok (.iload_n 2, 1) := by decide +kernel
theorem dX9_judge_8 : decode cX9_judge 8 = .ok (.ifCond .ge 7, 3) := by decide +kernel
theorem dX9_judge_11 : decode cX9_judge 11 = .ok (.iconst 1, 1) := by decide +kernel
theorem dX9_judge_12 : decode cX9_judge 12 = .ok (.goto 4, 3) := by decide +kernel
theorem dX9_judge_15 : decode cX9_judge 15 = .ok (.iconst 0, 1) := by decide +kernel
theorem dX9_judge_16 : decode cX9_judge 16 = .ok (.putfield 84, 3) := by decide +kernel
theorem dX9_judge_19 : decode cX9_judge 19 = .ok (.aload_n 0, 1) := by decide +kernel
theorem dX9_judge_20 : decode cX9_judge 20 = .ok (.getfield 84, 3) := by decide +kernel
theorem dX9_judge_23 : decode cX9_judge 23 = .ok (.ifCond .le 5, 3) := by decide +kernel
theorem dX9_judge_26 : decode cX9_judge 26 = .ok (.iconst 0, 1) := by decide +kernel
theorem dX9_judge_27 : decode cX9_judge 27 = .ok (.ireturn, 1) := by decide +kernel
theorem dX9_judge_28 : decode cX9_judge 28 = .ok (.iconst 1, 1) := by decide +kernel
theorem dX9_judge_29 : decode cX9_judge 29 = .ok (.istore_n 3, 1) := by decide +kernel
theorem dX9_judge_30 : decode cX9_judge 30 = .ok (.iconst 0, 1) := by decide +kernel
theorem dX9_judge_31 : decode cX9_judge 31 = .ok (.istore 4, 2) := by decide +kernel
theorem dX9_judge_33 : decode cX9_judge 33 = .ok (.iload 4, 2) := by decide +kernel
theorem dX9_judge_35 : decode cX9_judge 35 = .ok (.iconst 2, 1) := by decide +kernel
theorem dX9_judge_36 : decode cX9_judge 36 = .ok (.if_icmp .ge 73, 3) := by decide +kernel
theorem dX9_judge_39 : decode cX9_judge 39 = .ok (.aload_n 0, 1) := by decide +kernel
theorem dX9_judge_40 : decode cX9_judge 40 = .ok (.iload_n 2, 1) := by decide +kernel
theorem dX9_judge_41 : decode cX9_judge 41 = .ok (.iload 4, 2) := by decide +kernel
theorem dX9_judge_43 : decode cX9_judge 43 = .ok (.invokevirtual 196, 3) := by decide +kernel
theorem dX9_judge_46 : decode cX9_judge 46 = .ok (.istore 5, 2) := by decide +kernel
theorem dX9_judge_48 : decode cX9_judge 48 = .ok (.iconst 0, 1) := by decide +kernel
theorem dX9_judge_49 : decode cX9_judge 49 = .ok (.istore 6, 2) := by decide +kernel
theorem dX9_judge_51 : decode cX9_judge 51 = .ok (.iload 6, 2) := by decide +kernel
theorem dX9_judge_53 : decode cX9_judge 53 = .ok (.bipush 6, 2) := by decide +kernel
theorem dX9_judge_55 : decode cX9_judge 55 = .ok (.if_icmp .ge 48, 3) := by decide +kernel
theorem dX9_judge_58 : decode cX9_judge 58 = .ok (.iload_n 3, 1) := by decide +kernel
theorem dX9_judge_59 : decode cX9_judge 59 = .ok (.ifCond .eq 36, 3) := by decide +kernel
theorem dX9_judge_62 : decode cX9_judge 62 = .ok (.aload_n 0, 1) := by decide +kernel
theorem dX9_judge_63 : decode cX9_judge 63 = .ok (.getfield 17, 3) := by decide +kernel
theorem dX9_judge_66 : decode cX9_judge 66 = .ok (.iload_n 2, 1) := by decide +kernel
theorem dX9_judge_67 : decode cX9_judge 67 = .ok (.bipush 6, 2) := by decide +kernel
theorem dX9_judge_69 : decode cX9_judge 69 = .ok (.iload 4, 2) := by decide +kernel
theorem dX9_judge_71 : decode cX9_judge 71 = .ok (.imul, 1) := by decide +kernel
theorem dX9_judge_72 : decode cX9_judge 72 = .ok (.iadd, 1) := by decide +kernel
theorem dX9_judge_73 : decode cX9_judge 73 = .ok (.iload 6, 2) := by decide +kernel
theorem dX9_judge_75 : decode cX9_judge 75 = .ok (.iadd, 1) := by decide +kernel
theorem dX9_judge_76 : decode cX9_judge 76 = .ok (.iaload, 1) := by decide +kernel
theorem dX9_judge_77 : decode cX9_judge 77 = .ok (.ifCond .eq 14, 3) := by decide +kernel
theorem dX9_judge_80 : decode cX9_judge 80 = .ok (.iload 5, 2) := by decide +kernel
theorem dX9_judge_82 : decode cX9_judge 82 = .ok (.iload 6, 2) := by decide +kernel
theorem dX9_judge_84 : decode cX9_judge 84 = .ok (.ishr, 1) := by decide +kernel
theorem dX9_judge_85 : decode cX9_judge 85 = .ok (.iconst 1, 1) := by decide +kernel
theorem dX9_judge_86 : decode cX9_judge 86 = .ok (.iand, 1) := by decide +kernel
theorem dX9_judge_87 : decode cX9_judge 87 = .ok (.iconst 1, 1) := by decide +kernel
theorem dX9_judge_88 : decode cX9_judge 88 = .ok (.if_icmp .ne 7, 3) := by decide +kernel
theorem dX9_judge_91 : decode cX9_judge 91 = .ok (.iconst 1, 1) := by decide +kernel
theorem dX9_judge_92 : decode cX9_judge 92 = .ok (.goto 4, 3) := by decide +kernel
theorem dX9_judge_95 : decode cX9_judge 95 = .ok (.iconst 0, 1) := by decide +kernel
theorem dX9_judge_96 : decode cX9_judge 96 = .ok (.istore_n 3, 1) := by decide +kernel
theorem dX9_judge_97 : decode cX9_judge 97 = .ok (.iinc 6 1, 3) := by decide +kernel
theorem dX9_judge_100 : decode cX9_judge 100 = .ok (.goto (-49), 3) := by decide +kernel
theorem dX9_judge_103 : decode cX9_judge 103 = .ok (.iinc 4 1, 3) := by decide +kernel
theorem dX9_judge_106 : decode cX9_judge 106 = .ok (.goto (-73), 3) := by decide +kernel
theorem dX9_judge_109 : decode cX9_judge 109 = .ok (.iload_n 3, 1) := by decide +kernel
theorem dX9_judge_110 : decode cX9_judge 110 = .ok (.ireturn, 1) := by decide +kernel
theorem dX9_bitsOf_0 : decode cX9_bitsOf 0 = .ok (.iconst 0, 1) := by decide +kernel
theorem dX9_bitsOf_1 : decode cX9_bitsOf 1 = .ok (.istore_n 2, 1) := by decide +kernel
theorem dX9_bitsOf_2 : decode cX9_bitsOf 2 = .ok (.iconst 0, 1) := by decide +kernel
theorem dX9_bitsOf_3 : decode cX9_bitsOf 3 = .ok (.istore_n 3, 1) := by decide +kernel
theorem dX9_bitsOf_4 : decode cX9_bitsOf 4 = .ok (.iload_n 3, 1) := by decide +kernel
theorem dX9_bitsOf_5 : decode cX9_bitsOf 5 = .ok (.bipush 6, 2) := by decide +kernel
theorem dX9_bitsOf_7 : decode cX9_bitsOf 7 = .ok (.if_icmp .ge 25, 3) := by decide +kernel
theorem dX9_bitsOf_10 : decode cX9_bitsOf 10 = .ok (.iload_n 0, 1) := by decide +kernel
theorem dX9_bitsOf_11 : decode cX9_bitsOf 11 = .ok (.iload_n 3, 1) := by decide +kernel
theorem dX9_bitsOf_12 : decode cX9_bitsOf 12 = .ok (.ishr, 1) := by decide +kernel
theorem dX9_bitsOf_13 : decode cX9_bitsOf 13 = .ok (.iconst 1, 1) := by decide +kernel
theorem dX9_bitsOf_14 : decode cX9_bitsOf 14 = .ok (.iand, 1) := by decide +kernel
theorem dX9_bitsOf_15 : decode cX9_bitsOf 15 = .ok (.iconst 1, 1) := by decide +kernel
theorem dX9_bitsOf_16 : decode cX9_bitsOf 16 = .ok (.if_icmp .ne 10, 3) := by decide +kernel
theorem dX9_bitsOf_19 : decode cX9_bitsOf 19 = .ok (.aload_n 1, 1) := by decide +kernel
theorem dX9_bitsOf_20 : decode cX9_bitsOf 20 = .ok (.iload_n 2, 1) := by decide +kernel
theorem dX9_bitsOf_21 : decode cX9_bitsOf 21 = .ok (.iload_n 3, 1) := by decide +kernel
theorem dX9_bitsOf_22 : decode cX9_bitsOf 22 = .ok (.iastore, 1) := by decide +kernel
theorem dX9_bitsOf_23 : decode cX9_bitsOf 23 = .ok (.iinc 2 1, 3) := by decide +kernel
theorem dX9_bitsOf_26 : decode cX9_bitsOf 26 = .ok (.iinc 3 1, 3) := by decide +kernel
theorem dX9_bitsOf_29 : decode cX9_bitsOf 29 = .ok (.goto (-25), 3) := by decide +kernel
theorem dX9_bitsOf_32 : decode cX9_bitsOf 32 = .ok (.iload_n 2, 1) := by decide +kernel
theorem dX9_bitsOf_33 : decode cX9_bitsOf 33 = .ok (.ireturn, 1) := by decide +kernel
theorem dX9_at_0 : decode cX9_at 0 = .ok (.sipush 240, 3) := by decide +kernel
theorem dX9_at_3 : decode cX9_at 3 = .ok (.bipush 8, 2) := by decide +kernel
theorem dX9_at_5 : decode cX9_at 5 = .ok (.iload_n 1, 1) := by decide +kernel
theorem dX9_at_6 : decode cX9_at 6 = .ok (.imul, 1) := by decide +kernel
theorem dX9_at_7 : decode cX9_at 7 = .ok (.iadd, 1) := by decide +kernel
theorem dX9_at_8 : decode cX9_at 8 = .ok (.iload_n 2, 1) := by decide +kernel
theorem dX9_at_9 : decode cX9_at 9 = .ok (.iadd, 1) := by decide +kernel
theorem dX9_at_10 : decode cX9_at 10 = .ok (.ireturn, 1) := by decide +kernel
theorem dX9_triangle_0 : decode cX9_triangle 0 = .ok (.aload_n 0, 1) := by decide +kernel
theorem dX9_triangle_1 : decode cX9_triangle 1 = .ok (.bipush 28, 2) := by decide +kernel
theorem dX9_triangle_3 : decode cX9_triangle 3 = .ok (.lconst 1, 1) := by decide +kernel
theorem dX9_triangle_4 : decode cX9_triangle 4 = .ok (.invokevirtual 80, 3) := by decide +kernel
theorem dX9_triangle_7 : decode cX9_triangle 7 = .ok (.iconst 1, 1) := by decide +kernel
theorem dX9_triangle_8 : decode cX9_triangle 8 = .ok (.istore_n 3, 1) := by decide +kernel
theorem dX9_triangle_9 : decode cX9_triangle 9 = .ok (.iconst 0, 1) := by decide +kernel
theorem dX9_triangle_10 : decode cX9_triangle 10 = .ok (.istore 4, 2) := by decide +kernel
theorem dX9_triangle_12 : decode cX9_triangle 12 = .ok (.iload 4, 2) := by decide +kernel
theorem dX9_triangle_14 : decode cX9_triangle 14 = .ok (.iload_n 1, 1) := by decide +kernel
theorem dX9_triangle_15 : decode cX9_triangle 15 = .ok (.if_icmp .ge 232, 3) := by decide +kernel
theorem dX9_triangle_18 : decode cX9_triangle 18 = .ok (.iload 4, 2) := by decide +kernel
theorem dX9_triangle_20 : decode cX9_triangle 20 = .ok (.istore 5, 2) := by decide +kernel
theorem dX9_triangle_22 : decode cX9_triangle 22 = .ok (.iload 5, 2) := by decide +kernel
theorem dX9_triangle_24 : decode cX9_triangle 24 = .ok (.iload_n 1, 1) := by decide +kernel
theorem dX9_triangle_25 : decode cX9_triangle 25 = .ok (.if_icmp .ge 25, 3) := by decide +kernel
theorem dX9_triangle_28 : decode cX9_triangle 28 = .ok (.aload_n 0, 1) := by decide +kernel
theorem dX9_triangle_29 : decode cX9_triangle 29 = .ok (.getfield 17, 3) := by decide +kernel
theorem dX9_triangle_32 : decode cX9_triangle 32 = .ok (.aload_n 0, 1) := by decide +kernel
theorem dX9_triangle_33 : decode cX9_triangle 33 = .ok (.iload 5, 2) := by decide +kernel
theorem dX9_triangle_35 : decode cX9_triangle 35 = .ok (.iload 4, 2) := by decide +kernel
theorem dX9_triangle_37 : decode cX9_triangle 37 = .ok (.invokevirtual 199, 3) := by decide +kernel
theorem dX9_triangle_40 : decode cX9_triangle 40 = .ok (.iaload, 1) := by decide +kernel
theorem dX9_triangle_41 : decode cX9_triangle 41 = .ok (.ifCond .ne 9, 3) := by decide +kernel
theorem dX9_triangle_44 : decode cX9_triangle 44 = .ok (.iinc 5 1, 3) := by decide +kernel
theorem dX9_triangle_47 : decode cX9_triangle 47 = .ok (.goto (-25), 3) := by decide +kernel
theorem dX9_triangle_50 : decode cX9_triangle 50 = .ok (.iload 5, 2) := by decide +kernel
theorem dX9_triangle_52 : decode cX9_triangle 52 = .ok (.iload_n 1, 1) := by decide +kernel
theorem dX9_triangle_53 : decode cX9_triangle 53 = .ok (.if_icmp .ne 11, 3) := by decide +kernel
theorem dX9_triangle_56 : decode cX9_triangle 56 = .ok (.aload_n 0, 1) := by decide +kernel
theorem dX9_triangle_57 : decode cX9_triangle 57 = .ok (.bipush 28, 2) := by decide +kernel
theorem dX9_triangle_59 : decode cX9_triangle 59 = .ok (.lconst 0, 1) := by decide +kernel
theorem dX9_triangle_60 : decode cX9_triangle 60 = .ok (.invokevirtual 80, 3) := by decide +kernel
theorem dX9_triangle_63 : decode cX9_triangle 63 = .ok (.return_, 1) := by decide +kernel
theorem dX9_triangle_64 : decode cX9_triangle 64 = .ok (.iload 5, 2) := by decide +kernel
theorem dX9_triangle_66 : decode cX9_triangle 66 = .ok (.iload 4, 2) := by decide +kernel
theorem dX9_triangle_68 : decode cX9_triangle 68 = .ok (.if_icmp .eq 69, 3) := by decide +kernel
theorem dX9_triangle_71 : decode cX9_triangle 71 = .ok (.iload_n 3, 1) := by decide +kernel
theorem dX9_triangle_72 : decode cX9_triangle 72 = .ok (.ineg, 1) := by decide +kernel
theorem dX9_triangle_73 : decode cX9_triangle 73 = .ok (.istore_n 3, 1) := by decide +kernel
theorem dX9_triangle_74 : decode cX9_triangle 74 = .ok (.iconst 0, 1) := by decide +kernel
theorem dX9_triangle_75 : decode cX9_triangle 75 = .ok (.istore 6, 2) := by decide +kernel
theorem dX9_triangle_77 : decode cX9_triangle 77 = .ok (.iload 6, 2) := by decide +kernel
theorem dX9_triangle_79 : decode cX9_triangle 79 = .ok (.iload_n 2, 1) := by decide +kernel
theorem dX9_triangle_80 : decode cX9_triangle 80 = .ok (.if_icmp .ge 57, 3) := by decide +kernel
theorem dX9_triangle_83 : decode cX9_triangle 83 = .ok (.aload_n 0, 1) := by decide +kernel
theorem dX9_triangle_84 : decode cX9_triangle 84 = .ok (.aload_n 0, 1) := by decide +kernel
theorem dX9_triangle_85 : decode cX9_triangle 85 = .ok (.iload 5, 2) := by decide +kernel
theorem dX9_triangle_87 : decode cX9_triangle 87 = .ok (.iload 6, 2) := by decide +kernel
theorem dX9_triangle_89 : decode cX9_triangle 89 = .ok (.invokevirtual 199, 3) := by decide +kernel
theorem dX9_triangle_92 : decode cX9_triangle 92 = .ok (.bipush 13, 2) := by decide +kernel
theorem dX9_triangle_94 : decode cX9_triangle 94 = .ok (.invokevirtual 98, 3) := by decide +kernel
theorem dX9_triangle_97 : decode cX9_triangle 97 = .ok (.aload_n 0, 1) := by decide +kernel
theorem dX9_triangle_98 : decode cX9_triangle 98 = .ok (.aload_n 0, 1) := by decide +kernel
theorem dX9_triangle_99 : decode cX9_triangle 99 = .ok (.iload 4, 2) := by decide +kernel
theorem dX9_triangle_101 : decode cX9_triangle 101 = .ok (.iload 6, 2) := by decide +kernel
theorem dX9_triangle_103 : decode cX9_triangle 103 = .ok (.invokevirtual 199, 3) := by decide +kernel
theorem dX9_triangle_106 : decode cX9_triangle 106 = .ok (.aload_n 0, 1) := by decide +kernel
theorem dX9_triangle_107 : decode cX9_triangle 107 = .ok (.iload 5, 2) := by decide +kernel
theorem dX9_triangle_109 : decode cX9_triangle 109 = .ok (.iload 6, 2) := by decide +kernel
theorem dX9_triangle_111 : decode cX9_triangle 111 = .ok (.invokevirtual 199, 3) := by decide +kernel
theorem dX9_triangle_114 : decode cX9_triangle 114 = .ok (.invokevirtual 98, 3) := by decide +kernel
theorem dX9_triangle_117 : decode cX9_triangle 117 = .ok (.aload_n 0, 1) := by decide +kernel
theorem dX9_triangle_118 : decode cX9_triangle 118 = .ok (.bipush 13, 2) := by decide +kernel
theorem dX9_triangle_120 : decode cX9_triangle 120 = .ok (.aload_n 0, 1) := by decide +kernel
theorem dX9_triangle_121 : decode cX9_triangle 121 = .ok (.iload 4, 2) := by decide +kernel
theorem dX9_triangle_123 : decode cX9_triangle 123 = .ok (.iload 6, 2) := by decide +kernel
theorem dX9_triangle_125 : decode cX9_triangle 125 = .ok (.invokevirtual 199, 3) := by decide +kernel
theorem dX9_triangle_128 : decode cX9_triangle 128 = .ok (.invokevirtual 98, 3) := by decide +kernel
theorem dX9_triangle_131 : decode cX9_triangle 131 = .ok (.iinc 6 1, 3) := by decide +kernel
theorem dX9_triangle_134 : decode cX9_triangle 134 = .ok (.goto (-57), 3) := by decide +kernel
theorem dX9_triangle_137 : decode cX9_triangle 137 = .ok (.iload 4, 2) := by decide +kernel
theorem dX9_triangle_139 : decode cX9_triangle 139 = .ok (.iconst 1, 1) := by decide +kernel
theorem dX9_triangle_140 : decode cX9_triangle 140 = .ok (.iadd, 1) := by decide +kernel
theorem dX9_triangle_141 : decode cX9_triangle 141 = .ok (.istore 6, 2) := by decide +kernel
theorem dX9_triangle_143 : decode cX9_triangle 143 = .ok (.iload 6, 2) := by decide +kernel
theorem dX9_triangle_145 : decode cX9_triangle 145 = .ok (.iload_n 1, 1) := by decide +kernel
theorem dX9_triangle_146 : decode cX9_triangle 146 = .ok (.if_icmp .ge 81, 3) := by decide +kernel
theorem dX9_triangle_149 : decode cX9_triangle 149 = .ok (.aload_n 0, 1) := by decide +kernel
theorem dX9_triangle_150 : decode cX9_triangle 150 = .ok (.aload_n 0, 1) := by decide +kernel
theorem dX9_triangle_151 : decode cX9_triangle 151 = .ok (.iload 6, 2) := by decide +kernel
theorem dX9_triangle_153 : decode cX9_triangle 153 = .ok (.iload 4, 2) := by decide +kernel
theorem dX9_triangle_155 : decode cX9_triangle 155 = .ok (.invokevirtual 199, 3) := by decide +kernel
theorem dX9_triangle_158 : decode cX9_triangle 158 = .ok (.bipush 19, 2) := by decide +kernel
theorem dX9_triangle_160 : decode cX9_triangle 160 = .ok (.invokevirtual 98, 3) := by decide +kernel
theorem dX9_triangle_163 : decode cX9_triangle 163 = .ok (.iload 4, 2) := by decide +kernel
theorem dX9_triangle_165 : decode cX9_triangle 165 = .ok (.iconst 1, 1) := by decide +kernel
theorem dX9_triangle_166 : decode cX9_triangle 166 = .ok (.iadd, 1) := by decide +kernel
theorem dX9_triangle_167 : decode cX9_triangle 167 = .ok (.istore 7, 2) := by decide +kernel
theorem dX9_triangle_169 : decode cX9_triangle 169 = .ok (.iload 7, 2) := by decide +kernel
theorem dX9_triangle_171 : decode cX9_triangle 171 = .ok (.iload_n 2, 1) := by decide +kernel
theorem dX9_triangle_172 : decode cX9_triangle 172 = .ok (.if_icmp .ge 49, 3) := by decide +kernel
theorem dX9_triangle_175 : decode cX9_triangle 175 = .ok (.aload_n 0, 1) := by decide +kernel
theorem dX9_triangle_176 : decode cX9_triangle 176 = .ok (.aload_n 0, 1) := by decide +kernel
theorem dX9_triangle_177 : decode cX9_triangle 177 = .ok (.iload 6, 2) := by decide +kernel
theorem dX9_triangle_179 : decode cX9_triangle 179 = .ok (.iload 7, 2) := by decide +kernel
theorem dX9_triangle_181 : decode cX9_triangle 181 = .ok (.invokevirtual 199, 3) := by decide +kernel
theorem dX9_triangle_184 : decode cX9_triangle 184 = .ok (.aload_n 0, 1) := by decide +kernel
theorem dX9_triangle_185 : decode cX9_triangle 185 = .ok (.iload 4, 2) := by decide +kernel
theorem dX9_triangle_187 : decode cX9_triangle 187 = .ok (.iload 4, 2) := by decide +kernel
theorem dX9_triangle_189 : decode cX9_triangle 189 = .ok (.invokevirtual 199, 3) := by decide +kernel
theorem dX9_triangle_192 : decode cX9_triangle 192 = .ok (.bipush 19, 2) := by decide +kernel
theorem dX9_triangle_194 : decode cX9_triangle 194 = .ok (.aload_n 0, 1) := by decide +kernel
theorem dX9_triangle_195 : decode cX9_triangle 195 = .ok (.iload 4, 2) := by decide +kernel
theorem dX9_triangle_197 : decode cX9_triangle 197 = .ok (.iload 7, 2) := by decide +kernel
theorem dX9_triangle_199 : decode cX9_triangle 199 = .ok (.invokevirtual 199, 3) := by decide +kernel
theorem dX9_triangle_202 : decode cX9_triangle 202 = .ok (.bipush 28, 2) := by decide +kernel
theorem dX9_triangle_204 : decode cX9_triangle 204 = .ok (.aload_n 0, 1) := by decide +kernel
theorem dX9_triangle_205 : decode cX9_triangle 205 = .ok (.iload 6, 2) := by decide +kernel
theorem dX9_triangle_207 : decode cX9_triangle 207 = .ok (.iload 7, 2) := by decide +kernel
theorem dX9_triangle_209 : decode cX9_triangle 209 = .ok (.invokevirtual 199, 3) := by decide +kernel
theorem dX9_triangle_212 : decode cX9_triangle 212 = .ok (.invokevirtual 166, 3) := by decide +kernel
theorem dX9_triangle_215 : decode cX9_triangle 215 = .ok (.iinc 7 1, 3) := by decide +kernel
theorem dX9_triangle_218 : decode cX9_triangle 218 = .ok (.goto (-49), 3) := by decide +kernel
theorem dX9_triangle_221 : decode cX9_triangle 221 = .ok (.iinc 6 1, 3) := by decide +kernel
theorem dX9_triangle_224 : decode cX9_triangle 224 = .ok (.goto (-81), 3) := by decide +kernel
theorem dX9_triangle_227 : decode cX9_triangle 227 = .ok (.aload_n 0, 1) := by decide +kernel
theorem dX9_triangle_228 : decode cX9_triangle 228 = .ok (.aload_n 0, 1) := by decide +kernel
theorem dX9_triangle_229 : decode cX9_triangle 229 = .ok (.iload 4, 2) := by decide +kernel
theorem dX9_triangle_231 : decode cX9_triangle 231 = .ok (.iload 4, 2) := by decide +kernel
theorem dX9_triangle_233 : decode cX9_triangle 233 = .ok (.invokevirtual 199, 3) := by decide +kernel
theorem dX9_triangle_236 : decode cX9_triangle 236 = .ok (.bipush 28, 2) := by decide +kernel
theorem dX9_triangle_238 : decode cX9_triangle 238 = .ok (.invokevirtual 98, 3) := by decide +kernel
theorem dX9_triangle_241 : decode cX9_triangle 241 = .ok (.iinc 4 1, 3) := by decide +kernel
theorem dX9_triangle_244 : decode cX9_triangle 244 = .ok (.goto (-232), 3) := by decide +kernel
theorem dX9_triangle_247 : decode cX9_triangle 247 = .ok (.aload_n 0, 1) := by decide +kernel
theorem dX9_triangle_248 : decode cX9_triangle 248 = .ok (.getfield 17, 3) := by decide +kernel
theorem dX9_triangle_251 : decode cX9_triangle 251 = .ok (.bipush 28, 2) := by decide +kernel
theorem dX9_triangle_253 : decode cX9_triangle 253 = .ok (.dup2, 1) := by decide +kernel
theorem dX9_triangle_254 : decode cX9_triangle 254 = .ok (.iaload, 1) := by decide +kernel
theorem dX9_triangle_255 : decode cX9_triangle 255 = .ok (.iload_n 3, 1) := by decide +kernel
theorem dX9_triangle_256 : decode cX9_triangle 256 = .ok (.imul, 1) := by decide +kernel
theorem dX9_triangle_257 : decode cX9_triangle 257 = .ok (.iastore, 1) := by decide +kernel
theorem dX9_triangle_258 : decode cX9_triangle 258 = .ok (.aload_n 0, 1) := by decide +kernel
theorem dX9_triangle_259 : decode cX9_triangle 259 = .ok (.iload_n 3, 1) := by decide +kernel
theorem dX9_triangle_260 : decode cX9_triangle 260 = .ok (.putfield 202, 3) := by decide +kernel
theorem dX9_triangle_263 : decode cX9_triangle 263 = .ok (.return_, 1) := by decide +kernel
theorem dX9_solve_0 : decode cX9_solve 0 = .ok (.iload_n 2, 1) := by decide +kernel
theorem dX9_solve_1 : decode cX9_solve 1 = .ok (.aload_n 0, 1) := by decide +kernel
theorem dX9_solve_2 : decode cX9_solve 2 = .ok (.getfield 71, 3) := by decide +kernel
theorem dX9_solve_5 : decode cX9_solve 5 = .ok (.invokestatic 205, 3) := by decide +kernel
theorem dX9_solve_8 : decode cX9_solve 8 = .ok (.istore 5, 2) := by decide +kernel
theorem dX9_solve_10 : decode cX9_solve 10 = .ok (.iload_n 3, 1) := by decide +kernel
theorem dX9_solve_11 : decode cX9_solve 11 = .ok (.aload_n 0, 1) := by decide +kernel
theorem dX9_solve_12 : decode cX9_solve 12 = .ok (.getfield 74, 3) := by decide +kernel
theorem dX9_solve_15 : decode cX9_solve 15 = .ok (.invokestatic 205, 3) := by decide +kernel
theorem dX9_solve_18 : decode cX9_solve 18 = .ok (.istore 6, 2) := by decide +kernel
theorem dX9_solve_20 : decode cX9_solve 20 = .ok (.iconst 0, 1) := by decide +kernel
theorem dX9_solve_21 : decode cX9_solve 21 = .ok (.istore 7, 2) := by decide +kernel
theorem dX9_solve_23 : decode cX9_solve 23 = .ok (.iload 7, 2) := by decide +kernel
theorem dX9_solve_25 : decode cX9_solve 25 = .ok (.iload 5, 2) := by decide +kernel
theorem dX9_solve_27 : decode cX9_solve 27 = .ok (.if_icmp .ge 116, 3) := by decide +kernel
theorem dX9_solve_30 : decode cX9_solve 30 = .ok (.iconst 0, 1) := by decide +kernel
theorem dX9_solve_31 : decode cX9_solve 31 = .ok (.istore 8, 2) := by decide +kernel
theorem dX9_solve_33 : decode cX9_solve 33 = .ok (.iload 8, 2) := by decide +kernel
theorem dX9_solve_35 : decode cX9_solve 35 = .ok (.iload 5, 2) := by decide +kernel
theorem dX9_solve_37 : decode cX9_solve 37 = .ok (.if_icmp .ge 70, 3) := by decide +kernel
theorem dX9_solve_40 : decode cX9_solve 40 = .ok (.iload_n 1, 1) := by decide +kernel
theorem dX9_solve_41 : decode cX9_solve 41 = .ok (.ifCond .ne 25, 3) := by decide +kernel
theorem dX9_solve_44 : decode cX9_solve 44 = .ok (.aload_n 0, 1) := by decide +kernel
theorem dX9_solve_45 : decode cX9_solve 45 = .ok (.iconst 1, 1) := by decide +kernel
theorem dX9_solve_46 : decode cX9_solve 46 = .ok (.aload_n 0, 1) := by decide +kernel
theorem dX9_solve_47 : decode cX9_solve 47 = .ok (.getfield 71, 3) := by decide +kernel
theorem dX9_solve_50 : decode cX9_solve 50 = .ok (.iload 8, 2) := by decide +kernel
theorem dX9_solve_52 : decode cX9_solve 52 = .ok (.iaload, 1) := by decide +kernel
theorem dX9_solve_53 : decode cX9_solve 53 = .ok (.aload_n 0, 1) := by decide +kernel
theorem dX9_solve_54 : decode cX9_solve 54 = .ok (.getfield 74, 3) := by decide +kernel
theorem dX9_solve_57 : decode cX9_solve 57 = .ok (.iload 7, 2) := by decide +kernel
theorem dX9_solve_59 : decode cX9_solve 59 = .ok (.iaload, 1) := by decide +kernel
theorem dX9_solve_60 : decode cX9_solve 60 = .ok (.invokevirtual 155, 3) := by decide +kernel
theorem dX9_solve_63 : decode cX9_solve 63 = .ok (.goto 22, 3) := by decide +kernel
theorem dX9_solve_66 : decode cX9_solve 66 = .ok (.aload_n 0, 1) := by decide +kernel
theorem dX9_solve_67 : decode cX9_solve 67 = .ok (.iconst 0, 1) := by decide +kernel
theorem dX9_solve_68 : decode cX9_solve 68 = .ok (.aload_n 0, 1) := by decide +kernel
theorem dX9_solve_69 : decode cX9_solve 69 = .ok (.getfield 74, 3) := by decide +kernel
theorem dX9_solve_72 : decode cX9_solve 72 = .ok (.iload 7, 2) := by decide +kernel
theorem dX9_solve_74 : decode cX9_solve 74 = .ok (.iaload, 1) := by decide +kernel
theorem dX9_solve_75 : decode cX9_solve 75 = .ok (.aload_n 0, 1) := by decide +kernel
theorem dX9_solve_76 : decode cX9_solve 76 = .ok (.getfield 71, 3) := by decide +kernel
theorem dX9_solve_79 : decode cX9_solve 79 = .ok (.iload 8, 2) := by decide +kernel
theorem dX9_solve_81 : decode cX9_solve 81 = .ok (.iaload, 1) := by decide +kernel
theorem dX9_solve_82 : decode cX9_solve 82 = .ok (.invokevirtual 155, 3) := by decide +kernel
theorem dX9_solve_85 : decode cX9_solve 85 = .ok (.lstore 9, 2) := by decide +kernel
theorem dX9_solve_87 : decode cX9_solve 87 = .ok (.aload_n 0, 1) := by decide +kernel
theorem dX9_solve_88 : decode cX9_solve 88 = .ok (.aload_n 0, 1) := by decide +kernel
theorem dX9_solve_89 : decode cX9_solve 89 = .ok (.iload 7, 2) := by decide +kernel
theorem dX9_solve_91 : decode cX9_solve 91 = .ok (.iload 8, 2) := by decide +kernel
theorem dX9_solve_93 : decode cX9_solve 93 = .ok (.invokevirtual 199, 3) := by decide +kernel
theorem dX9_solve_96 : decode cX9_solve 96 = .ok (.lload 9, 2) := by decide +kernel
theorem dX9_solve_98 : decode cX9_solve 98 = .ok (.invokevirtual 80, 3) := by decide +kernel
theorem dX9_solve_101 : decode cX9_solve 101 = .ok (.iinc 8 1, 3) := by decide +kernel
theorem dX9_solve_104 : decode cX9_solve 104 = .ok (.goto (-71), 3) := by decide +kernel
theorem dX9_solve_107 : decode cX9_solve 107 = .ok (.aload_n 0, 1) := by decide +kernel
theorem dX9_solve_108 : decode cX9_solve 108 = .ok (.aload_n 0, 1) := by decide +kernel
theorem dX9_solve_109 : decode cX9_solve 109 = .ok (.iload 7, 2) := by decide +kernel
theorem dX9_solve_111 : decode cX9_solve 111 = .ok (.iload 5, 2) := by decide +kernel
theorem dX9_solve_113 : decode cX9_solve 113 = .ok (.invokevirtual 199, 3) := by decide +kernel
theorem dX9_solve_116 : decode cX9_solve 116 = .ok (.ldc2_w 209, 3) := by decide +kernel
theorem dX9_solve_119 : decode cX9_solve 119 = .ok (.invokevirtual 80, 3) := by decide +kernel
theorem dX9_solve_122 : decode cX9_solve 122 = .ok (.aload_n 0, 1) := by decide +kernel
theorem dX9_solve_123 : decode cX9_solve 123 = .ok (.aload_n 0, 1) := by decide +kernel
theorem dX9_solve_124 : decode cX9_solve 124 = .ok (.iload 7, 2) := by decide +kernel
theorem dX9_solve_126 : decode cX9_solve 126 = .ok (.iload 5, 2) := by decide +kernel
theorem dX9_solve_128 : decode cX9_solve 128 = .ok (.iconst 1, 1) := by decide +kernel
theorem dX9_solve_129 : decode cX9_solve 129 = .ok (.iadd, 1) := by decide +kernel
theorem dX9_solve_130 : decode cX9_solve 130 = .ok (.invokevirtual 199, 3) := by decide +kernel
theorem dX9_solve_133 : decode cX9_solve 133 = .ok (.lconst 0, 1) := by decide +kernel
theorem dX9_solve_134 : decode cX9_solve 134 = .ok (.invokevirtual 80, 3) := by decide +kernel
theorem dX9_solve_137 : decode cX9_solve 137 = .ok (.iinc 7 1, 3) := by decide +kernel
theorem dX9_solve_140 : decode cX9_solve 140 = .ok (.goto (-117), 3) := by decide +kernel
theorem dX9_solve_143 : decode cX9_solve 143 = .ok (.iconst 0, 1) := by decide +kernel
theorem dX9_solve_144 : decode cX9_solve 144 = .ok (.istore 7, 2) := by decide +kernel
theorem dX9_solve_146 : decode cX9_solve 146 = .ok (.iload 7, 2) := by decide +kernel
theorem dX9_solve_148 : decode cX9_solve 148 = .ok (.iload 5, 2) := by decide +kernel
theorem dX9_solve_150 : decode cX9_solve 150 = .ok (.if_icmp .ge 22, 3) := by decide +kernel
theorem dX9_solve_153 : decode cX9_solve 153 = .ok (.aload_n 0, 1) := by decide +kernel
theorem dX9_solve_154 : decode cX9_solve 154 = .ok (.aload_n 0, 1) := by decide +kernel
theorem dX9_solve_155 : decode cX9_solve 155 = .ok (.iload 5, 2) := by decide +kernel
theorem dX9_solve_157 : decode cX9_solve 157 = .ok (.iload 7, 2) := by decide +kernel
theorem dX9_solve_159 : decode cX9_solve 159 = .ok (.invokevirtual 199, 3) := by decide +kernel
theorem dX9_solve_162 : decode cX9_solve 162 = .ok (.lconst 1, 1) := by decide +kernel
theorem dX9_solve_163 : decode cX9_solve 163 = .ok (.invokevirtual 80, 3) := by decide +kernel
theorem dX9_solve_166 : decode cX9_solve 166 = .ok (.iinc 7 1, 3) := by decide +kernel
theorem dX9_solve_169 : decode cX9_solve 169 = .ok (.goto (-23), 3) := by decide +kernel
theorem dX9_solve_172 : decode cX9_solve 172 = .ok (.aload_n 0, 1) := by decide +kernel
theorem dX9_solve_173 : decode cX9_solve 173 = .ok (.aload_n 0, 1) := by decide +kernel
theorem dX9_solve_174 : decode cX9_solve 174 = .ok (.iload 5, 2) := by decide +kernel
theorem dX9_solve_176 : decode cX9_solve 176 = .ok (.iload 5, 2) := by decide +kernel
theorem dX9_solve_178 : decode cX9_solve 178 = .ok (.invokevirtual 199, 3) := by decide +kernel
theorem dX9_solve_181 : decode cX9_solve 181 = .ok (.lconst 0, 1) := by decide +kernel
theorem dX9_solve_182 : decode cX9_solve 182 = .ok (.invokevirtual 80, 3) := by decide +kernel
theorem dX9_solve_185 : decode cX9_solve 185 = .ok (.aload_n 0, 1) := by decide +kernel
theorem dX9_solve_186 : decode cX9_solve 186 = .ok (.aload_n 0, 1) := by decide +kernel
theorem dX9_solve_187 : decode cX9_solve 187 = .ok (.iload 5, 2) := by decide +kernel
theorem dX9_solve_189 : decode cX9_solve 189 = .ok (.iload 5, 2) := by decide +kernel
theorem dX9_solve_191 : decode cX9_solve 191 = .ok (.iconst 1, 1) := by decide +kernel
theorem dX9_solve_192 : decode cX9_solve 192 = .ok (.iadd, 1) := by decide +kernel
theorem dX9_solve_193 : decode cX9_solve 193 = .ok (.invokevirtual 199, 3) := by decide +kernel
theorem dX9_solve_196 : decode cX9_solve 196 = .ok (.lconst 1, 1) := by decide +kernel
theorem dX9_solve_197 : decode cX9_solve 197 = .ok (.invokevirtual 80, 3) := by decide +kernel
theorem dX9_solve_200 : decode cX9_solve 200 = .ok (.aload_n 0, 1) := by decide +kernel
theorem dX9_solve_201 : decode cX9_solve 201 = .ok (.iload 5, 2) := by decide +kernel
theorem dX9_solve_203 : decode cX9_solve 203 = .ok (.iconst 1, 1) := by decide +kernel
theorem dX9_solve_204 : decode cX9_solve 204 = .ok (.iadd, 1) := by decide +kernel
theorem dX9_solve_205 : decode cX9_solve 205 = .ok (.iload 5, 2) := by decide +kernel
theorem dX9_solve_207 : decode cX9_solve 207 = .ok (.iconst 2, 1) := by decide +kernel
theorem dX9_solve_208 : decode cX9_solve 208 = .ok (.iadd, 1) := by decide +kernel
theorem dX9_solve_209 : decode cX9_solve 209 = .ok (.invokevirtual 211, 3) := by decide +kernel
theorem dX9_solve_212 : decode cX9_solve 212 = .ok (.aload_n 0, 1) := by decide +kernel
theorem dX9_solve_213 : decode cX9_solve 213 = .ok (.getfield 17, 3) := by decide +kernel
theorem dX9_solve_216 : decode cX9_solve 216 = .ok (.bipush 28, 2) := by decide +kernel
theorem dX9_solve_218 : decode cX9_solve 218 = .ok (.iaload, 1) := by decide +kernel
theorem dX9_solve_219 : decode cX9_solve 219 = .ok (.ifCond .ne 5, 3) := by decide +kernel
theorem dX9_solve_222 : decode cX9_solve 222 = .ok (.iconst 0, 1) := by decide +kernel
theorem dX9_solve_223 : decode cX9_solve 223 = .ok (.ireturn, 1) := by decide +kernel
theorem dX9_solve_224 : decode cX9_solve 224 = .ok (.aload_n 0, 1) := by decide +kernel
theorem dX9_solve_225 : decode cX9_solve 225 = .ok (.aload_n 0, 1) := by decide +kernel
theorem dX9_solve_226 : decode cX9_solve 226 = .ok (.iload 5, 2) := by decide +kernel
theorem dX9_solve_228 : decode cX9_solve 228 = .ok (.iload 5, 2) := by decide +kernel
theorem dX9_solve_230 : decode cX9_solve 230 = .ok (.invokevirtual 199, 3) := by decide +kernel
theorem dX9_solve_233 : decode cX9_solve 233 = .ok (.bipush 29, 2) := by decide +kernel
theorem dX9_solve_235 : decode cX9_solve 235 = .ok (.invokevirtual 98, 3) := by decide +kernel
theorem dX9_solve_238 : decode cX9_solve 238 = .ok (.iconst 1, 1) := by decide +kernel
theorem dX9_solve_239 : decode cX9_solve 239 = .ok (.istore 7, 2) := by decide +kernel
theorem dX9_solve_241 : decode cX9_solve 241 = .ok (.iload 5, 2) := by decide +kernel
theorem dX9_solve_243 : decode cX9_solve 243 = .ok (.istore 8, 2) := by decide +kernel
theorem dX9_solve_245 : decode cX9_solve 245 = .ok (.iload 8, 2) := by decide +kernel
theorem dX9_solve_247 : decode cX9_solve 247 = .ok (.ifCond .lt 168, 3) := by decide +kernel
theorem dX9_solve_250 : decode cX9_solve 250 = .ok (.aload_n 0, 1) := by decide +kernel
theorem dX9_solve_251 : decode cX9_solve 251 = .ok (.aload_n 0, 1) := by decide +kernel
theorem dX9_solve_252 : decode cX9_solve 252 = .ok (.iload 8, 2) := by decide +kernel
theorem dX9_solve_254 : decode cX9_solve 254 = .ok (.iload 5, 2) := by decide +kernel
theorem dX9_solve_256 : decode cX9_solve 256 = .ok (.iconst 1, 1) := by decide +kernel
theorem dX9_solve_257 : decode cX9_solve 257 = .ok (.iadd, 1) := by decide +kernel
theorem dX9_solve_258 : decode cX9_solve 258 = .ok (.invokevirtual 199, 3) := by decide +kernel
theorem dX9_solve_261 : decode cX9_solve 261 = .ok (.bipush 29, 2) := by decide +kernel
theorem dX9_solve_263 : decode cX9_solve 263 = .ok (.bipush 10, 2) := by decide +kernel
theorem dX9_solve_265 : decode cX9_solve 265 = .ok (.invokevirtual 104, 3) := by decide +kernel
theorem dX9_solve_268 : decode cX9_solve 268 = .ok (.iload 8, 2) := by decide +kernel
theorem dX9_solve_270 : decode cX9_solve 270 = .ok (.iconst 1, 1) := by decide +kernel
theorem dX9_solve_271 : decode cX9_solve 271 = .ok (.iadd, 1) := by decide +kernel
theorem dX9_solve_272 : decode cX9_solve 272 = .ok (.istore 9, 2) := by decide +kernel
theorem dX9_solve_274 : decode cX9_solve 274 = .ok (.iload 9, 2) := by decide +kernel
theorem dX9_solve_276 : decode cX9_solve 276 = .ok (.iload 5, 2) := by decide +kernel
theorem dX9_solve_278 : decode cX9_solve 278 = .ok (.if_icmp .gt 39, 3) := by decide +kernel
theorem dX9_solve_281 : decode cX9_solve 281 = .ok (.aload_n 0, 1) := by decide +kernel
theorem dX9_solve_282 : decode cX9_solve 282 = .ok (.aload_n 0, 1) := by decide +kernel
theorem dX9_solve_283 : decode cX9_solve 283 = .ok (.iload 8, 2) := by decide +kernel
theorem dX9_solve_285 : decode cX9_solve 285 = .ok (.iload 9, 2) := by decide +kernel
theorem dX9_solve_287 : decode cX9_solve 287 = .ok (.invokevirtual 199, 3) := by decide +kernel
theorem dX9_solve_290 : decode cX9_solve 290 = .ok (.bipush 31, 2) := by decide +kernel
theorem dX9_solve_292 : decode cX9_solve 292 = .ok (.iload 9, 2) := by decide +kernel
theorem dX9_solve_294 : decode cX9_solve 294 = .ok (.iadd, 1) := by decide +kernel
theorem dX9_solve_295 : decode cX9_solve 295 = .ok (.bipush 11, 2) := by decide +kernel
theorem dX9_solve_297 : decode cX9_solve 297 = .ok (.invokevirtual 104, 3) := by decide +kernel
theorem dX9_solve_300 : decode cX9_solve 300 = .ok (.aload_n 0, 1) := by decide +kernel
theorem dX9_solve_301 : decode cX9_solve 301 = .ok (.bipush 10, 2) := by decide +kernel
theorem dX9_solve_303 : decode cX9_solve 303 = .ok (.bipush 11, 2) := by decide +kernel
theorem dX9_solve_305 : decode cX9_solve 305 = .ok (.iconst 1, 1) := by decide +kernel
theorem dX9_solve_306 : decode cX9_solve 306 = .ok (.bipush 10, 2) := by decide +kernel
theorem dX9_solve_308 : decode cX9_solve 308 = .ok (.invokevirtual 108, 3) := by decide +kernel
theorem dX9_solve_311 : decode cX9_solve 311 = .ok (.iinc 9 1, 3) := by decide +kernel
theorem dX9_solve_314 : decode cX9_solve 314 = .ok (.goto (-40), 3) := by decide +kernel
theorem dX9_solve_317 : decode cX9_solve 317 = .ok (.aload_n 0, 1) := by decide +kernel
theorem dX9_solve_318 : decode cX9_solve 318 = .ok (.getfield 17, 3) := by decide +kernel
theorem dX9_solve_321 : decode cX9_solve 321 = .ok (.bipush 10, 2) := by decide +kernel
theorem dX9_solve_323 : decode cX9_solve 323 = .ok (.iaload, 1) := by decide +kernel
theorem dX9_solve_324 : decode cX9_solve 324 = .ok (.ifCond .ne 16, 3) := by decide +kernel
theorem dX9_solve_327 : decode cX9_solve 327 = .ok (.aload_n 0, 1) := by decide +kernel
theorem dX9_solve_328 : decode cX9_solve 328 = .ok (.bipush 31, 2) := by decide +kernel
theorem dX9_solve_330 : decode cX9_solve 330 = .ok (.iload 8, 2) := by decide +kernel
theorem dX9_solve_332 : decode cX9_solve 332 = .ok (.iadd, 1) := by decide +kernel
theorem dX9_solve_333 : decode cX9_solve 333 = .ok (.lconst 0, 1) := by decide +kernel
theorem dX9_solve_334 : decode cX9_solve 334 = .ok (.invokevirtual 80, 3) := by decide +kernel
theorem dX9_solve_337 : decode cX9_solve 337 = .ok (.goto 32, 3) := by decide +kernel
theorem dX9_solve_340 : decode cX9_solve 340 = .ok (.aload_n 0, 1) := by decide +kernel
theorem dX9_solve_341 : decode cX9_solve 341 = .ok (.bipush 10, 2) := by decide +kernel
theorem dX9_solve_343 : decode cX9_solve 343 = .ok (.aload_n 0, 1) := by decide +kernel
theorem dX9_solve_344 : decode cX9_solve 344 = .ok (.iload 8, 2) := by decide +kernel
theorem dX9_solve_346 : decode cX9_solve 346 = .ok (.iload 8, 2) := by decide +kernel
theorem dX9_solve_348 : decode cX9_solve 348 = .ok (.invokevirtual 199, 3) := by decide +kernel
theorem dX9_solve_351 : decode cX9_solve 351 = .ok (.bipush 11, 2) := by decide +kernel
theorem dX9_solve_353 : decode cX9_solve 353 = .ok (.bipush 12, 2) := by decide +kernel
theorem dX9_solve_355 : decode cX9_solve 355 = .ok (.invokevirtual 112, 3) := by decide +kernel
theorem dX9_solve_358 : decode cX9_solve 358 = .ok (.aload_n 0, 1) := by decide +kernel
theorem dX9_solve_359 : decode cX9_solve 359 = .ok (.bipush 11, 2) := by decide +kernel
theorem dX9_solve_361 : decode cX9_solve 361 = .ok (.bipush 31, 2) := by decide +kernel
theorem dX9_solve_363 : decode cX9_solve 363 = .ok (.iload 8, 2) := by decide +kernel
theorem dX9_solve_365 : decode cX9_solve 365 = .ok (.iadd, 1) := by decide +kernel
theorem dX9_solve_366 : decode cX9_solve 366 = .ok (.invokevirtual 98, 3) := by decide +kernel
theorem dX9_solve_369 : decode cX9_solve 369 = .ok (.iload 7, 2) := by decide +kernel
theorem dX9_solve_371 : decode cX9_solve 371 = .ok (.ifCond .eq 35, 3) := by decide +kernel
theorem dX9_solve_374 : decode cX9_solve 374 = .ok (.iload 8, 2) := by decide +kernel
theorem dX9_solve_376 : decode cX9_solve 376 = .ok (.iload 5, 2) := by decide +kernel
theorem dX9_solve_378 : decode cX9_solve 378 = .ok (.if_icmp .eq 24, 3) := by decide +kernel
theorem dX9_solve_381 : decode cX9_solve 381 = .ok (.aload_n 0, 1) := by decide +kernel
theorem dX9_solve_382 : decode cX9_solve 382 = .ok (.getfield 17, 3) := by decide +kernel
theorem dX9_solve_385 : decode cX9_solve 385 = .ok (.bipush 31, 2) := by decide +kernel
theorem dX9_solve_387 : decode cX9_solve 387 = .ok (.iload 8, 2) := by decide +kernel
theorem dX9_solve_389 : decode cX9_solve 389 = .ok (.iadd, 1) := by decide +kernel
theorem dX9_solve_390 : decode cX9_solve 390 = .ok (.iaload, 1) := by decide +kernel
theorem dX9_solve_391 : decode cX9_solve 391 = .ok (.aload_n 0, 1) := by decide +kernel
theorem dX9_solve_392 : decode cX9_solve 392 = .ok (.getfield 17, 3) := by decide +kernel
theorem dX9_solve_395 : decode cX9_solve 395 = .ok (.bipush 29, 2) := by decide +kernel
theorem dX9_solve_397 : decode cX9_solve 397 = .ok (.iaload, 1) := by decide +kernel
theorem dX9_solve_398 : decode cX9_solve 398 = .ok (.imul, 1) := by decide +kernel
theorem dX9_solve_399 : decode cX9_solve 399 = .ok (.ifCond .le 7, 3) := by decide +kernel
theorem dX9_solve_402 : decode cX9_solve 402 = .ok (.iconst 1, 1) := by decide +kernel
theorem dX9_solve_403 : decode cX9_solve 403 = .ok (.goto 4, 3) := by decide +kernel
theorem dX9_solve_406 : decode cX9_solve 406 = .ok (.iconst 0, 1) := by decide +kernel
theorem dX9_solve_407 : decode cX9_solve 407 = .ok (.istore 7, 2) := by decide +kernel
theorem dX9_solve_409 : decode cX9_solve 409 = .ok (.iinc 8 (-1), 3) := by decide +kernel
theorem dX9_solve_412 : decode cX9_solve 412 = .ok (.goto (-167), 3) := by decide +kernel
theorem dX9_solve_415 : decode cX9_solve 415 = .ok (.iconst 0, 1) := by decide +kernel
theorem dX9_solve_416 : decode cX9_solve 416 = .ok (.istore 8, 2) := by decide +kernel
theorem dX9_solve_418 : decode cX9_solve 418 = .ok (.iload 8, 2) := by decide +kernel
theorem dX9_solve_420 : decode cX9_solve 420 = .ok (.bipush 6, 2) := by decide +kernel
theorem dX9_solve_422 : decode cX9_solve 422 = .ok (.if_icmp .ge 19, 3) := by decide +kernel
theorem dX9_solve_425 : decode cX9_solve 425 = .ok (.aload_n 0, 1) := by decide +kernel
theorem dX9_solve_426 : decode cX9_solve 426 = .ok (.iload 4, 2) := by decide +kernel
theorem dX9_solve_428 : decode cX9_solve 428 = .ok (.iload 8, 2) := by decide +kernel
theorem dX9_solve_430 : decode cX9_solve 430 = .ok (.iadd, 1) := by decide +kernel
theorem dX9_solve_431 : decode cX9_solve 431 = .ok (.lconst 0, 1) := by decide +kernel
theorem dX9_solve_432 : decode cX9_solve 432 = .ok (.invokevirtual 80, 3) := by decide +kernel
theorem dX9_solve_435 : decode cX9_solve 435 = .ok (.iinc 8 1, 3) := by decide +kernel
theorem dX9_solve_438 : decode cX9_solve 438 = .ok (.goto (-20), 3) := by decide +kernel
theorem dX9_solve_441 : decode cX9_solve 441 = .ok (.iconst 0, 1) := by decide +kernel
theorem dX9_solve_442 : decode cX9_solve 442 = .ok (.istore 8, 2) := by decide +kernel
theorem dX9_solve_444 : decode cX9_solve 444 = .ok (.iload 8, 2) := by decide +kernel
theorem dX9_solve_446 : decode cX9_solve 446 = .ok (.iload 5, 2) := by decide +kernel
theorem dX9_solve_448 : decode cX9_solve 448 = .ok (.if_icmp .ge 61, 3) := by decide +kernel
theorem dX9_solve_451 : decode cX9_solve 451 = .ok (.aload_n 0, 1) := by decide +kernel
theorem dX9_solve_452 : decode cX9_solve 452 = .ok (.bipush 31, 2) := by decide +kernel
theorem dX9_solve_454 : decode cX9_solve 454 = .ok (.iload 8, 2) := by decide +kernel
theorem dX9_solve_456 : decode cX9_solve 456 = .ok (.iadd, 1) := by decide +kernel
theorem dX9_solve_457 : decode cX9_solve 457 = .ok (.iload 4, 2) := by decide +kernel
theorem dX9_solve_459 : decode cX9_solve 459 = .ok (.aload_n 0, 1) := by decide +kernel
theorem dX9_solve_460 : decode cX9_solve 460 = .ok (.getfield 71, 3) := by decide +kernel
theorem dX9_solve_463 : decode cX9_solve 463 = .ok (.iload 8, 2) := by decide +kernel
theorem dX9_solve_465 : decode cX9_solve 465 = .ok (.iaload, 1) := by decide +kernel
theorem dX9_solve_466 : decode cX9_solve 466 = .ok (.iadd, 1) := by decide +kernel
theorem dX9_solve_467 : decode cX9_solve 467 = .ok (.invokevirtual 98, 3) := by decide +kernel
theorem dX9_solve_470 : decode cX9_solve 470 = .ok (.aload_n 0, 1) := by decide +kernel
theorem dX9_solve_471 : decode cX9_solve 471 = .ok (.getfield 17, 3) := by decide +kernel
theorem dX9_solve_474 : decode cX9_solve 474 = .ok (.iload 4, 2) := by decide +kernel
theorem dX9_solve_476 : decode cX9_solve 476 = .ok (.aload_n 0, 1) := by decide +kernel
theorem dX9_solve_477 : decode cX9_solve 477 = .ok (.getfield 71, 3) := by decide +kernel
theorem dX9_solve_480 : decode cX9_solve 480 = .ok (.iload 8, 2) := by decide +kernel
theorem dX9_solve_482 : decode cX9_solve 482 = .ok (.iaload, 1) := by decide +kernel
theorem dX9_solve_483 : decode cX9_solve 483 = .ok (.iadd, 1) := by decide +kernel
theorem dX9_solve_484 : decode cX9_solve 484 = .ok (.aload_n 0, 1) := by decide +kernel
theorem dX9_solve_485 : decode cX9_solve 485 = .ok (.getfield 17, 3) := by decide +kernel
theorem dX9_solve_488 : decode cX9_solve 488 = .ok (.bipush 31, 2) := by decide +kernel
theorem dX9_solve_490 : decode cX9_solve 490 = .ok (.iload 8, 2) := by decide +kernel
theorem dX9_solve_492 : decode cX9_solve 492 = .ok (.iadd, 1) := by decide +kernel
theorem dX9_solve_493 : decode cX9_solve 493 = .ok (.iaload, 1) := by decide +kernel
theorem dX9_solve_494 : decode cX9_solve 494 = .ok (.ifCond .ne 7, 3) := by decide +kernel
theorem dX9_solve_497 : decode cX9_solve 497 = .ok (.iconst 0, 1) := by decide +kernel
theorem dX9_solve_498 : decode cX9_solve 498 = .ok (.goto 4, 3) := by decide +kernel
theorem dX9_solve_501 : decode cX9_solve 501 = .ok (.iconst 1, 1) := by decide +kernel
theorem dX9_solve_502 : decode cX9_solve 502 = .ok (.iastore, 1) := by decide +kernel
theorem dX9_solve_503 : decode cX9_solve 503 = .ok (.iinc 8 1, 3) := by decide +kernel
theorem dX9_solve_506 : decode cX9_solve 506 = .ok (.goto (-62), 3) := by decide +kernel
theorem dX9_solve_509 : decode cX9_solve 509 = .ok (.iload 7, 2) := by decide +kernel
theorem dX9_solve_511 : decode cX9_solve 511 = .ok (.ireturn, 1) := by decide +kernel
theorem dX9_bits_0 : decode cX9_bits 0 = .ok (.iload_n 1, 1) := by decide +kernel
theorem dX9_bits_1 : decode cX9_bits 1 = .ok (.aload_n 0, 1) := by decide +kernel
theorem dX9_bits_2 : decode cX9_bits 2 = .ok (.getfield 71, 3) := by decide +kernel
theorem dX9_bits_5 : decode cX9_bits 5 = .ok (.invokestatic 205, 3) := by decide +kernel
theorem dX9_bits_8 : decode cX9_bits 8 = .ok (.ireturn, 1) := by decide +kernel
theorem dX9_isEntry_0 : decode cX9_isEntry 0 = .ok (.sipush 330, 3) := by decide +kernel
theorem dX9_isEntry_3 : decode cX9_isEntry 3 = .ok (.bipush 14, 2) := by decide +kernel
theorem dX9_isEntry_5 : decode cX9_isEntry 5 = .ok (.aload_n 0, 1) := by decide +kernel
theorem dX9_isEntry_6 : decode cX9_isEntry 6 = .ok (.getfield 136, 3) := by decide +kernel
theorem dX9_isEntry_9 : decode cX9_isEntry 9 = .ok (.imul, 1) := by decide +kernel
theorem dX9_isEntry_10 : decode cX9_isEntry 10 = .ok (.iadd, 1) := by decide +kernel
theorem dX9_isEntry_11 : decode cX9_isEntry 11 = .ok (.istore_n 3, 1) := by decide +kernel
theorem dX9_isEntry_12 : decode cX9_isEntry 12 = .ok (.aload_n 0, 1) := by decide +kernel
theorem dX9_isEntry_13 : decode cX9_isEntry 13 = .ok (.iconst 1, 1) := by decide +kernel
theorem dX9_isEntry_14 : decode cX9_isEntry 14 = .ok (.iload_n 2, 1) := by decide +kernel
theorem dX9_isEntry_15 : decode cX9_isEntry 15 = .ok (.iload_n 1, 1) := by decide +kernel
theorem dX9_isEntry_16 : decode cX9_isEntry 16 = .ok (.iload_n 3, 1) := by decide +kernel
theorem dX9_isEntry_17 : decode cX9_isEntry 17 = .ok (.bipush 6, 2) := by decide +kernel
theorem dX9_isEntry_19 : decode cX9_isEntry 19 = .ok (.iadd, 1) := by decide +kernel
theorem dX9_isEntry_20 : decode cX9_isEntry 20 = .ok (.invokevirtual 214, 3) := by decide +kernel
theorem dX9_isEntry_23 : decode cX9_isEntry 23 = .ok (.ifCond .ne 5, 3) := by decide +kernel
theorem dX9_isEntry_26 : decode cX9_isEntry 26 = .ok (.iconst 0, 1) := by decide +kernel
theorem dX9_isEntry_27 : decode cX9_isEntry 27 = .ok (.ireturn, 1) := by decide +kernel
theorem dX9_isEntry_28 : decode cX9_isEntry 28 = .ok (.aload_n 0, 1) := by decide +kernel
theorem dX9_isEntry_29 : decode cX9_isEntry 29 = .ok (.bipush 29, 2) := by decide +kernel
theorem dX9_isEntry_31 : decode cX9_isEntry 31 = .ok (.iload_n 3, 1) := by decide +kernel
theorem dX9_isEntry_32 : decode cX9_isEntry 32 = .ok (.bipush 13, 2) := by decide +kernel
theorem dX9_isEntry_34 : decode cX9_isEntry 34 = .ok (.iadd, 1) := by decide +kernel
theorem dX9_isEntry_35 : decode cX9_isEntry 35 = .ok (.invokevirtual 98, 3) := by decide +kernel
theorem dX9_isEntry_38 : decode cX9_isEntry 38 = .ok (.aload_n 0, 1) := by decide +kernel
theorem dX9_isEntry_39 : decode cX9_isEntry 39 = .ok (.getfield 17, 3) := by decide +kernel
theorem dX9_isEntry_42 : decode cX9_isEntry 42 = .ok (.iload_n 3, 1) := by decide +kernel
theorem dX9_isEntry_43 : decode cX9_isEntry 43 = .ok (.bipush 13, 2) := by decide +kernel
theorem dX9_isEntry_45 : decode cX9_isEntry 45 = .ok (.iadd, 1) := by decide +kernel
theorem dX9_isEntry_46 : decode cX9_isEntry 46 = .ok (.iconst 1, 1) := by decide +kernel
theorem dX9_isEntry_47 : decode cX9_isEntry 47 = .ok (.iastore, 1) := by decide +kernel
theorem dX9_isEntry_48 : decode cX9_isEntry 48 = .ok (.aload_n 0, 1) := by decide +kernel
theorem dX9_isEntry_49 : decode cX9_isEntry 49 = .ok (.iconst 0, 1) := by decide +kernel
theorem dX9_isEntry_50 : decode cX9_isEntry 50 = .ok (.iload_n 1, 1) := by decide +kernel
theorem dX9_isEntry_51 : decode cX9_isEntry 51 = .ok (.iload_n 2, 1) := by decide +kernel
theorem dX9_isEntry_52 : decode cX9_isEntry 52 = .ok (.iload_n 3, 1) := by decide +kernel
theorem dX9_isEntry_53 : decode cX9_isEntry 53 = .ok (.invokevirtual 214, 3) := by decide +kernel
theorem dX9_isEntry_56 : decode cX9_isEntry 56 = .ok (.ifCond .ne 5, 3) := by decide +kernel
theorem dX9_isEntry_59 : decode cX9_isEntry 59 = .ok (.iconst 0, 1) := by decide +kernel
theorem dX9_isEntry_60 : decode cX9_isEntry 60 = .ok (.ireturn, 1) := by decide +kernel
theorem dX9_isEntry_61 : decode cX9_isEntry 61 = .ok (.aload_n 0, 1) := by decide +kernel
theorem dX9_isEntry_62 : decode cX9_isEntry 62 = .ok (.bipush 29, 2) := by decide +kernel
theorem dX9_isEntry_64 : decode cX9_isEntry 64 = .ok (.iload_n 3, 1) := by decide +kernel
theorem dX9_isEntry_65 : decode cX9_isEntry 65 = .ok (.bipush 12, 2) := by decide +kernel
theorem dX9_isEntry_67 : decode cX9_isEntry 67 = .ok (.iadd, 1) := by decide +kernel
theorem dX9_isEntry_68 : decode cX9_isEntry 68 = .ok (.invokevirtual 98, 3) := by decide +kernel
theorem dX9_isEntry_71 : decode cX9_isEntry 71 = .ok (.aload_n 0, 1) := by decide +kernel
theorem dX9_isEntry_72 : decode cX9_isEntry 72 = .ok (.getfield 17, 3) := by decide +kernel
theorem dX9_isEntry_75 : decode cX9_isEntry 75 = .ok (.iload_n 3, 1) := by decide +kernel
theorem dX9_isEntry_76 : decode cX9_isEntry 76 = .ok (.bipush 12, 2) := by decide +kernel
theorem dX9_isEntry_78 : decode cX9_isEntry 78 = .ok (.iadd, 1) := by decide +kernel
theorem dX9_isEntry_79 : decode cX9_isEntry 79 = .ok (.iconst 1, 1) := by decide +kernel
theorem dX9_isEntry_80 : decode cX9_isEntry 80 = .ok (.iastore, 1) := by decide +kernel
theorem dX9_isEntry_81 : decode cX9_isEntry 81 = .ok (.aload_n 0, 1) := by decide +kernel
theorem dX9_isEntry_82 : decode cX9_isEntry 82 = .ok (.iload_n 3, 1) := by decide +kernel
theorem dX9_isEntry_83 : decode cX9_isEntry 83 = .ok (.iconst 0, 1) := by decide +kernel
theorem dX9_isEntry_84 : decode cX9_isEntry 84 = .ok (.invokevirtual 196, 3) := by decide +kernel
theorem dX9_isEntry_87 : decode cX9_isEntry 87 = .ok (.iload_n 1, 1) := by decide +kernel
theorem dX9_isEntry_88 : decode cX9_isEntry 88 = .ok (.iand, 1) := by decide +kernel
theorem dX9_isEntry_89 : decode cX9_isEntry 89 = .ok (.iload_n 1, 1) := by decide +kernel
theorem dX9_isEntry_90 : decode cX9_isEntry 90 = .ok (.if_icmp .ne 19, 3) := by decide +kernel
theorem dX9_isEntry_93 : decode cX9_isEntry 93 = .ok (.aload_n 0, 1) := by decide +kernel
theorem dX9_isEntry_94 : decode cX9_isEntry 94 = .ok (.iload_n 3, 1) := by decide +kernel
theorem dX9_isEntry_95 : decode cX9_isEntry 95 = .ok (.iconst 1, 1) := by decide +kernel
theorem dX9_isEntry_96 : decode cX9_isEntry 96 = .ok (.invokevirtual 196, 3) := by decide +kernel
theorem dX9_isEntry_99 : decode cX9_isEntry 99 = .ok (.iload_n 2, 1) := by decide +kernel
theorem dX9_isEntry_100 : decode cX9_isEntry 100 = .ok (.iand, 1) := by decide +kernel
theorem dX9_isEntry_101 : decode cX9_isEntry 101 = .ok (.iload_n 2, 1) := by decide +kernel
theorem dX9_isEntry_102 : decode cX9_isEntry 102 = .ok (.if_icmp .ne 7, 3) := by decide +kernel
theorem dX9_isEntry_105 : decode cX9_isEntry 105 = .ok (.iconst 1, 1) := by decide +kernel
theorem dX9_isEntry_106 : decode cX9_isEntry 106 = .ok (.goto 4, 3) := by decide +kernel
theorem dX9_isEntry_109 : decode cX9_isEntry 109 = .ok (.iconst 0, 1) := by decide +kernel
theorem dX9_isEntry_110 : decode cX9_isEntry 110 = .ok (.ireturn, 1) := by decide +kernel
theorem dX9_list_0 : decode cX9_list 0 = .ok (.aload_n 0, 1) := by decide +kernel
theorem dX9_list_1 : decode cX9_list 1 = .ok (.aload_n 0, 1) := by decide +kernel
theorem dX9_list_2 : decode cX9_list 2 = .ok (.getfield 120, 3) := by decide +kernel
theorem dX9_list_5 : decode cX9_list 5 = .ok (.ifCond .ne 7, 3) := by decide +kernel
theorem dX9_list_8 : decode cX9_list 8 = .ok (.iconst 1, 1) := by decide +kernel
theorem dX9_list_9 : decode cX9_list 9 = .ok (.goto 4, 3) := by decide +kernel
theorem dX9_list_12 : decode cX9_list 12 = .ok (.iconst 0, 1) := by decide +kernel
theorem dX9_list_13 : decode cX9_list 13 = .ok (.putfield 84, 3) := by decide +kernel
theorem dX9_list_16 : decode cX9_list 16 = .ok (.aload_n 0, 1) := by decide +kernel
theorem dX9_list_17 : decode cX9_list 17 = .ok (.getfield 84, 3) := by decide +kernel
theorem dX9_list_20 : decode cX9_list 20 = .ok (.ifCond .le 5, 3) := by decide +kernel
theorem dX9_list_23 : decode cX9_list 23 = .ok (.iconst 0, 1) := by decide +kernel
theorem dX9_list_24 : decode cX9_list 24 = .ok (.ireturn, 1) := by decide +kernel
theorem dX9_list_25 : decode cX9_list 25 = .ok (.aload_n 0, 1) := by decide +kernel
theorem dX9_list_26 : decode cX9_list 26 = .ok (.iconst 0, 1) := by decide +kernel
theorem dX9_list_27 : decode cX9_list 27 = .ok (.putfield 136, 3) := by decide +kernel
