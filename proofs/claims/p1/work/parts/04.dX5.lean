theorem dX5_init_0 : decode cX5_init 0 = .ok (.aload_n 0, 1) := by decide +kernel
theorem dX5_init_1 : decode cX5_init 1 = .ok (.invokespecial 3, 3) := by decide +kernel
theorem dX5_init_4 : decode cX5_init 4 = .ok (.aload_n 0, 1) := by decide +kernel
theorem dX5_init_5 : decode cX5_init 5 = .ok (.iconst 0, 1) := by decide +kernel
theorem dX5_init_6 : decode cX5_init 6 = .ok (.putfield 9, 3) := by decide +kernel
theorem dX5_init_9 : decode cX5_init 9 = .ok (.aload_n 0, 1) := by decide +kernel
theorem dX5_init_10 : decode cX5_init 10 = .ok (.iconst 0, 1) := by decide +kernel
theorem dX5_init_11 : decode cX5_init 11 = .ok (.putfield 15, 3) := by decide +kernel
theorem dX5_init_14 : decode cX5_init 14 = .ok (.aload_n 0, 1) := by decide +kernel
theorem dX5_init_15 : decode cX5_init 15 = .ok (.iconst 0, 1) := by decide +kernel
theorem dX5_init_16 : decode cX5_init 16 = .ok (.putfield 18, 3) := by decide +kernel
theorem dX5_init_19 : decode cX5_init 19 = .ok (.aload_n 0, 1) := by decide +kernel
theorem dX5_init_20 : decode cX5_init 20 = .ok (.bipush 6, 2) := by decide +kernel
theorem dX5_init_22 : decode cX5_init 22 = .ok (.newarray .int, 2) := by decide +kernel
theorem dX5_init_24 : decode cX5_init 24 = .ok (.putfield 21, 3) := by decide +kernel
theorem dX5_init_27 : decode cX5_init 27 = .ok (.aload_n 0, 1) := by decide +kernel
theorem dX5_init_28 : decode cX5_init 28 = .ok (.bipush 6, 2) := by decide +kernel
theorem dX5_init_30 : decode cX5_init 30 = .ok (.newarray .int, 2) := by decide +kernel
theorem dX5_init_32 : decode cX5_init 32 = .ok (.putfield 25, 3) := by decide +kernel
theorem dX5_init_35 : decode cX5_init 35 = .ok (.aload_n 0, 1) := by decide +kernel
theorem dX5_init_36 : decode cX5_init 36 = .ok (.bipush 42, 2) := by decide +kernel
theorem dX5_init_38 : decode cX5_init 38 = .ok (.invokestatic 28, 3) := by decide +kernel
theorem dX5_init_41 : decode cX5_init 41 = .ok (.putfield 32, 3) := by decide +kernel
theorem dX5_init_44 : decode cX5_init 44 = .ok (.aload_n 0, 1) := by decide +kernel
theorem dX5_init_45 : decode cX5_init 45 = .ok (.new 36, 3) := by decide +kernel
theorem dX5_init_48 : decode cX5_init 48 = .ok (.dup, 1) := by decide +kernel
theorem dX5_init_49 : decode cX5_init 49 = .ok (.invokespecial 38, 3) := by decide +kernel
theorem dX5_init_52 : decode cX5_init 52 = .ok (.putfield 39, 3) := by decide +kernel
theorem dX5_init_55 : decode cX5_init 55 = .ok (.aload_n 0, 1) := by decide +kernel
theorem dX5_init_56 : decode cX5_init 56 = .ok (.new 36, 3) := by decide +kernel
theorem dX5_init_59 : decode cX5_init 59 = .ok (.dup, 1) := by decide +kernel
theorem dX5_init_60 : decode cX5_init 60 = .ok (.invokespecial 38, 3) := by decide +kernel
theorem dX5_init_63 : decode cX5_init 63 = .ok (.putfield 43, 3) := by decide +kernel
theorem dX5_init_66 : decode cX5_init 66 = .ok (.aload_n 0, 1) := by decide +kernel
theorem dX5_init_67 : decode cX5_init 67 = .ok (.new 36, 3) := by decide +kernel
theorem dX5_init_70 : decode cX5_init 70 = .ok (.dup, 1) := by decide +kernel
theorem dX5_init_71 : decode cX5_init 71 = .ok (.invokespecial 38, 3) := by decide +kernel
theorem dX5_init_74 : decode cX5_init 74 = .ok (.putfield 46, 3) := by decide +kernel
theorem dX5_init_77 : decode cX5_init 77 = .ok (.aload_n 0, 1) := by decide +kernel
theorem dX5_init_78 : decode cX5_init 78 = .ok (.new 49, 3) := by decide +kernel
theorem dX5_init_81 : decode cX5_init 81 = .ok (.dup, 1) := by decide +kernel
theorem dX5_init_82 : decode cX5_init 82 = .ok (.invokespecial 51, 3) := by decide +kernel
theorem dX5_init_85 : decode cX5_init 85 = .ok (.putfield 52, 3) := by decide +kernel
theorem dX5_init_88 : decode cX5_init 88 = .ok (.return_, 1) := by decide +kernel
theorem dX5_start_0 : decode cX5_start 0 = .ok (.aload_n 0, 1) := by decide +kernel
theorem dX5_start_1 : decode cX5_start 1 = .ok (.aload_n 1, 1) := by decide +kernel
theorem dX5_start_2 : decode cX5_start 2 = .ok (.getfield 56, 3) := by decide +kernel
theorem dX5_start_5 : decode cX5_start 5 = .ok (.putfield 9, 3) := by decide +kernel
theorem dX5_start_8 : decode cX5_start 8 = .ok (.aload_n 0, 1) := by decide +kernel
theorem dX5_start_9 : decode cX5_start 9 = .ok (.aload_n 1, 1) := by decide +kernel
theorem dX5_start_10 : decode cX5_start 10 = .ok (.getfield 61, 3) := by decide +kernel
theorem dX5_start_13 : decode cX5_start 13 = .ok (.putfield 15, 3) := by decide +kernel
theorem dX5_start_16 : decode cX5_start 16 = .ok (.aload_n 0, 1) := by decide +kernel
theorem dX5_start_17 : decode cX5_start 17 = .ok (.iload_n 2, 1) := by decide +kernel
theorem dX5_start_18 : decode cX5_start 18 = .ok (.putfield 18, 3) := by decide +kernel
theorem dX5_start_21 : decode cX5_start 21 = .ok (.aload_n 0, 1) := by decide +kernel
theorem dX5_start_22 : decode cX5_start 22 = .ok (.getfield 39, 3) := by decide +kernel
theorem dX5_start_25 : decode cX5_start 25 = .ok (.lconst 1, 1) := by decide +kernel
theorem dX5_start_26 : decode cX5_start 26 = .ok (.invokevirtual 64, 3) := by decide +kernel
theorem dX5_start_29 : decode cX5_start 29 = .ok (.iconst 0, 1) := by decide +kernel
theorem dX5_start_30 : decode cX5_start 30 = .ok (.istore 4, 2) := by decide +kernel
theorem dX5_start_32 : decode cX5_start 32 = .ok (.iload 4, 2) := by decide +kernel
theorem dX5_start_34 : decode cX5_start 34 = .ok (.aload_n 0, 1) := by decide +kernel
theorem dX5_start_35 : decode cX5_start 35 = .ok (.getfield 9, 3) := by decide +kernel
theorem dX5_start_38 : decode cX5_start 38 = .ok (.if_icmp .ge 80, 3) := by decide +kernel
theorem dX5_start_41 : decode cX5_start 41 = .ok (.aload_n 0, 1) := by decide +kernel
theorem dX5_start_42 : decode cX5_start 42 = .ok (.getfield 21, 3) := by decide +kernel
theorem dX5_start_45 : decode cX5_start 45 = .ok (.iload 4, 2) := by decide +kernel
theorem dX5_start_47 : decode cX5_start 47 = .ok (.iload_n 2, 1) := by decide +kernel
theorem dX5_start_48 : decode cX5_start 48 = .ok (.iload 4, 2) := by decide +kernel
theorem dX5_start_50 : decode cX5_start 50 = .ok (.iadd, 1) := by decide +kernel
theorem dX5_start_51 : decode cX5_start 51 = .ok (.iastore, 1) := by decide +kernel
theorem dX5_start_52 : decode cX5_start 52 = .ok (.iconst 0, 1) := by decide +kernel
theorem dX5_start_53 : decode cX5_start 53 = .ok (.istore 5, 2) := by decide +kernel
theorem dX5_start_55 : decode cX5_start 55 = .ok (.iload 5, 2) := by decide +kernel
theorem dX5_start_57 : decode cX5_start 57 = .ok (.aload_n 0, 1) := by decide +kernel
theorem dX5_start_58 : decode cX5_start 58 = .ok (.getfield 15, 3) := by decide +kernel
theorem dX5_start_61 : decode cX5_start 61 = .ok (.if_icmp .ge 34, 3) := by decide +kernel
theorem dX5_start_64 : decode cX5_start 64 = .ok (.aload_n 0, 1) := by decide +kernel
theorem dX5_start_65 : decode cX5_start 65 = .ok (.getfield 32, 3) := by decide +kernel
theorem dX5_start_68 : decode cX5_start 68 = .ok (.iload 4, 2) := by decide +kernel
theorem dX5_start_70 : decode cX5_start 70 = .ok (.bipush 7, 2) := by decide +kernel
theorem dX5_start_72 : decode cX5_start 72 = .ok (.imul, 1) := by decide +kernel
theorem dX5_start_73 : decode cX5_start 73 = .ok (.iload 5, 2) := by decide +kernel
theorem dX5_start_75 : decode cX5_start 75 = .ok (.iadd, 1) := by decide +kernel
theorem dX5_start_76 : decode cX5_start 76 = .ok (.aaload, 1) := by decide +kernel
theorem dX5_start_77 : decode cX5_start 77 = .ok (.aload_n 1, 1) := by decide +kernel
theorem dX5_start_78 : decode cX5_start 78 = .ok (.iload 4, 2) := by decide +kernel
theorem dX5_start_80 : decode cX5_start 80 = .ok (.iload 5, 2) := by decide +kernel
theorem dX5_start_82 : decode cX5_start 82 = .ok (.invokevirtual 68, 3) := by decide +kernel
theorem dX5_start_85 : decode cX5_start 85 = .ok (.i2l, 1) := by decide +kernel
theorem dX5_start_86 : decode cX5_start 86 = .ok (.invokevirtual 64, 3) := by decide +kernel
theorem dX5_start_89 : decode cX5_start 89 = .ok (.iinc 5 1, 3) := by decide +kernel
theorem dX5_start_92 : decode cX5_start 92 = .ok (.goto (-37), 3) := by decide +kernel
theorem dX5_start_95 : decode cX5_start 95 = .ok (.aload_n 0, 1) := by decide +kernel
theorem dX5_start_96 : decode cX5_start 96 = .ok (.getfield 32, 3) := by decide +kernel
theorem dX5_start_99 : decode cX5_start 99 = .ok (.iload 4, 2) := by decide +kernel
theorem dX5_start_101 : decode cX5_start 101 = .ok (.bipush 7, 2) := by decide +kernel
theorem dX5_start_103 : decode cX5_start 103 = .ok (.imul, 1) := by decide +kernel
theorem dX5_start_104 : decode cX5_start 104 = .ok (.bipush 6, 2) := by decide +kernel
theorem dX5_start_106 : decode cX5_start 106 = .ok (.iadd, 1) := by decide +kernel
theorem dX5_start_107 : decode cX5_start 107 = .ok (.aaload, 1) := by decide +kernel
theorem dX5_start_108 : decode cX5_start 108 = .ok (.lconst 1, 1) := by decide +kernel
theorem dX5_start_109 : decode cX5_start 109 = .ok (.invokevirtual 64, 3) := by decide +kernel
theorem dX5_start_112 : decode cX5_start 112 = .ok (.iinc 4 1, 3) := by decide +kernel
theorem dX5_start_115 : decode cX5_start 115 = .ok (.goto (-83), 3) := by decide +kernel
theorem dX5_start_118 : decode cX5_start 118 = .ok (.iconst 0, 1) := by decide +kernel
theorem dX5_start_119 : decode cX5_start 119 = .ok (.istore 4, 2) := by decide +kernel
theorem dX5_start_121 : decode cX5_start 121 = .ok (.iload 4, 2) := by decide +kernel
theorem dX5_start_123 : decode cX5_start 123 = .ok (.aload_n 0, 1) := by decide +kernel
theorem dX5_start_124 : decode cX5_start 124 = .ok (.getfield 15, 3) := by decide +kernel
theorem dX5_start_127 : decode cX5_start 127 = .ok (.if_icmp .ge 20, 3) := by decide +kernel
theorem dX5_start_130 : decode cX5_start 130 = .ok (.aload_n 0, 1) := by decide +kernel
theorem dX5_start_131 : decode cX5_start 131 = .ok (.getfield 25, 3) := by decide +kernel
theorem dX5_start_134 : decode cX5_start 134 = .ok (.iload 4, 2) := by decide +kernel
theorem dX5_start_136 : decode cX5_start 136 = .ok (.iload_n 3, 1) := by decide +kernel
theorem dX5_start_137 : decode cX5_start 137 = .ok (.iload 4, 2) := by decide +kernel
theorem dX5_start_139 : decode cX5_start 139 = .ok (.iadd, 1) := by decide +kernel
theorem dX5_start_140 : decode cX5_start 140 = .ok (.iastore, 1) := by decide +kernel
theorem dX5_start_141 : decode cX5_start 141 = .ok (.iinc 4 1, 3) := by decide +kernel
theorem dX5_start_144 : decode cX5_start 144 = .ok (.goto (-23), 3) := by decide +kernel
theorem dX5_start_147 : decode cX5_start 147 = .ok (.return_, 1) := by decide +kernel
theorem dX5_enter_0 : decode cX5_enter 0 = .ok (.aload_n 0, 1) := by decide +kernel
theorem dX5_enter_1 : decode cX5_enter 1 = .ok (.getfield 25, 3) := by decide +kernel
theorem dX5_enter_4 : decode cX5_enter 4 = .ok (.aload_n 0, 1) := by decide +kernel
theorem dX5_enter_5 : decode cX5_enter 5 = .ok (.getfield 15, 3) := by decide +kernel
theorem dX5_enter_8 : decode cX5_enter 8 = .ok (.iload_n 1, 1) := by decide +kernel
theorem dX5_enter_9 : decode cX5_enter 9 = .ok (.invokestatic 72, 3) := by decide +kernel
theorem dX5_enter_12 : decode cX5_enter 12 = .ok (.istore_n 2, 1) := by decide +kernel
theorem dX5_enter_13 : decode cX5_enter 13 = .ok (.iload_n 2, 1) := by decide +kernel
theorem dX5_enter_14 : decode cX5_enter 14 = .ok (.ifCond .ge 7, 3) := by decide +kernel
theorem dX5_enter_17 : decode cX5_enter 17 = .ok (.iconst (-1), 1) := by decide +kernel
theorem dX5_enter_18 : decode cX5_enter 18 = .ok (.goto 8, 3) := by decide +kernel
theorem dX5_enter_21 : decode cX5_enter 21 = .ok (.aload_n 0, 1) := by decide +kernel
theorem dX5_enter_22 : decode cX5_enter 22 = .ok (.iload_n 2, 1) := by decide +kernel
theorem dX5_enter_23 : decode cX5_enter 23 = .ok (.invokevirtual 76, 3) := by decide +kernel
theorem dX5_enter_26 : decode cX5_enter 26 = .ok (.istore_n 3, 1) := by decide +kernel
theorem dX5_enter_27 : decode cX5_enter 27 = .ok (.iload_n 3, 1) := by decide +kernel
theorem dX5_enter_28 : decode cX5_enter 28 = .ok (.ifCond .ge 5, 3) := by decide +kernel
theorem dX5_enter_31 : decode cX5_enter 31 = .ok (.iload_n 1, 1) := by decide +kernel
theorem dX5_enter_32 : decode cX5_enter 32 = .ok (.ireturn, 1) := by decide +kernel
theorem dX5_enter_33 : decode cX5_enter 33 = .ok (.aload_n 0, 1) := by decide +kernel
theorem dX5_enter_34 : decode cX5_enter 34 = .ok (.iload_n 3, 1) := by decide +kernel
theorem dX5_enter_35 : decode cX5_enter 35 = .ok (.iload_n 2, 1) := by decide +kernel
theorem dX5_enter_36 : decode cX5_enter 36 = .ok (.invokevirtual 80, 3) := by decide +kernel
theorem dX5_enter_39 : decode cX5_enter 39 = .ok (.aload_n 0, 1) := by decide +kernel
theorem dX5_enter_40 : decode cX5_enter 40 = .ok (.getfield 21, 3) := by decide +kernel
theorem dX5_enter_43 : decode cX5_enter 43 = .ok (.iload_n 3, 1) := by decide +kernel
theorem dX5_enter_44 : decode cX5_enter 44 = .ok (.iaload, 1) := by decide +kernel
theorem dX5_enter_45 : decode cX5_enter 45 = .ok (.istore 4, 2) := by decide +kernel
theorem dX5_enter_47 : decode cX5_enter 47 = .ok (.aload_n 0, 1) := by decide +kernel
theorem dX5_enter_48 : decode cX5_enter 48 = .ok (.getfield 21, 3) := by decide +kernel
theorem dX5_enter_51 : decode cX5_enter 51 = .ok (.iload_n 3, 1) := by decide +kernel
theorem dX5_enter_52 : decode cX5_enter 52 = .ok (.iload_n 1, 1) := by decide +kernel
theorem dX5_enter_53 : decode cX5_enter 53 = .ok (.iastore, 1) := by decide +kernel
theorem dX5_enter_54 : decode cX5_enter 54 = .ok (.aload_n 0, 1) := by decide +kernel
theorem dX5_enter_55 : decode cX5_enter 55 = .ok (.getfield 25, 3) := by decide +kernel
theorem dX5_enter_58 : decode cX5_enter 58 = .ok (.iload_n 2, 1) := by decide +kernel
theorem dX5_enter_59 : decode cX5_enter 59 = .ok (.iload 4, 2) := by decide +kernel
theorem dX5_enter_61 : decode cX5_enter 61 = .ok (.iastore, 1) := by decide +kernel
theorem dX5_enter_62 : decode cX5_enter 62 = .ok (.iload 4, 2) := by decide +kernel
theorem dX5_enter_64 : decode cX5_enter 64 = .ok (.ireturn, 1) := by decide +kernel
theorem dX5_read_0 : decode cX5_read 0 = .ok (.iconst 0, 1) := by decide +kernel
theorem dX5_read_1 : decode cX5_read 1 = .ok (.istore 4, 2) := by decide +kernel
theorem dX5_read_3 : decode cX5_read 3 = .ok (.iload 4, 2) := by decide +kernel
theorem dX5_read_5 : decode cX5_read 5 = .ok (.iload_n 2, 1) := by decide +kernel
theorem dX5_read_6 : decode cX5_read 6 = .ok (.if_icmp .ge 61, 3) := by decide +kernel
theorem dX5_read_9 : decode cX5_read 9 = .ok (.iload 4, 2) := by decide +kernel
theorem dX5_read_11 : decode cX5_read 11 = .ok (.bipush 6, 2) := by decide +kernel
theorem dX5_read_13 : decode cX5_read 13 = .ok (.if_icmp .ge 54, 3) := by decide +kernel
theorem dX5_read_16 : decode cX5_read 16 = .ok (.aload_n 0, 1) := by decide +kernel
theorem dX5_read_17 : decode cX5_read 17 = .ok (.getfield 21, 3) := by decide +kernel
theorem dX5_read_20 : decode cX5_read 20 = .ok (.aload_n 0, 1) := by decide +kernel
theorem dX5_read_21 : decode cX5_read 21 = .ok (.getfield 9, 3) := by decide +kernel
theorem dX5_read_24 : decode cX5_read 24 = .ok (.iload_n 1, 1) := by decide +kernel
theorem dX5_read_25 : decode cX5_read 25 = .ok (.iload 4, 2) := by decide +kernel
theorem dX5_read_27 : decode cX5_read 27 = .ok (.iadd, 1) := by decide +kernel
theorem dX5_read_28 : decode cX5_read 28 = .ok (.invokestatic 72, 3) := by decide +kernel
theorem dX5_read_31 : decode cX5_read 31 = .ok (.istore 5, 2) := by decide +kernel
theorem dX5_read_33 : decode cX5_read 33 = .ok (.iload 5, 2) := by decide +kernel
theorem dX5_read_35 : decode cX5_read 35 = .ok (.ifCond .lt 26, 3) := by decide +kernel
theorem dX5_read_38 : decode cX5_read 38 = .ok (.aload_n 3, 1) := by decide +kernel
theorem dX5_read_39 : decode cX5_read 39 = .ok (.getfield 84, 3) := by decide +kernel
theorem dX5_read_42 : decode cX5_read 42 = .ok (.iload 4, 2) := by decide +kernel
theorem dX5_read_44 : decode cX5_read 44 = .ok (.aaload, 1) := by decide +kernel
theorem dX5_read_45 : decode cX5_read 45 = .ok (.aload_n 0, 1) := by decide +kernel
theorem dX5_read_46 : decode cX5_read 46 = .ok (.getfield 32, 3) := by decide +kernel
theorem dX5_read_49 : decode cX5_read 49 = .ok (.iload 5, 2) := by decide +kernel
theorem dX5_read_51 : decode cX5_read 51 = .ok (.bipush 7, 2) := by decide +kernel
theorem dX5_read_53 : decode cX5_read 53 = .ok (.imul, 1) := by decide +kernel
theorem dX5_read_54 : decode cX5_read 54 = .ok (.bipush 6, 2) := by decide +kernel
theorem dX5_read_56 : decode cX5_read 56 = .ok (.iadd, 1) := by decide +kernel
theorem dX5_read_57 : decode cX5_read 57 = .ok (.aaload, 1) := by decide +kernel
theorem dX5_read_58 : decode cX5_read 58 = .ok (.invokevirtual 89, 3) := by decide +kernel
theorem dX5_read_61 : decode cX5_read 61 = .ok (.iinc 4 1, 3) := by decide +kernel
theorem dX5_read_64 : decode cX5_read 64 = .ok (.goto (-61), 3) := by decide +kernel
theorem dX5_read_67 : decode cX5_read 67 = .ok (.return_, 1) := by decide +kernel
theorem dX5_find_0 : decode cX5_find 0 = .ok (.iconst 0, 1) := by decide +kernel
theorem dX5_find_1 : decode cX5_find 1 = .ok (.istore_n 3, 1) := by decide +kernel
theorem dX5_find_2 : decode cX5_find 2 = .ok (.iload_n 3, 1) := by decide +kernel
theorem dX5_find_3 : decode cX5_find 3 = .ok (.iload_n 1, 1) := by decide +kernel
theorem dX5_find_4 : decode cX5_find 4 = .ok (.if_icmp .ge 24, 3) := by decide +kernel
theorem dX5_find_7 : decode cX5_find 7 = .ok (.iload_n 3, 1) := by decide +kernel
theorem dX5_find_8 : decode cX5_find 8 = .ok (.aload_n 0, 1) := by decide +kernel
theorem dX5_find_9 : decode cX5_find 9 = .ok (.arraylength, 1) := by decide +kernel
theorem dX5_find_10 : decode cX5_find 10 = .ok (.if_icmp .ge 18, 3) := by decide +kernel
theorem dX5_find_13 : decode cX5_find 13 = .ok (.aload_n 0, 1) := by decide +kernel
theorem dX5_find_14 : decode cX5_find 14 = .ok (.iload_n 3, 1) := by decide +kernel
theorem dX5_find_15 : decode cX5_find 15 = .ok (.iaload, 1) := by decide +kernel
theorem dX5_find_16 : decode cX5_find 16 = .ok (.iload_n 2, 1) := by decide +kernel
theorem dX5_find_17 : decode cX5_find 17 = .ok (.if_icmp .ne 5, 3) := by decide +kernel
theorem dX5_find_20 : decode cX5_find 20 = .ok (.iload_n 3, 1) := by decide +kernel
theorem dX5_find_21 : decode cX5_find 21 = .ok (.ireturn, 1) := by decide +kernel
theorem dX5_find_22 : decode cX5_find 22 = .ok (.iinc 3 1, 3) := by decide +kernel
theorem dX5_find_25 : decode cX5_find 25 = .ok (.goto (-23), 3) := by decide +kernel
theorem dX5_find_28 : decode cX5_find 28 = .ok (.iconst (-1), 1) := by decide +kernel
theorem dX5_find_29 : decode cX5_find 29 = .ok (.ireturn, 1) := by decide +kernel
theorem dX5_leavingRow_0 : decode cX5_leavingRow 0 = .ok (.iconst (-1), 1) := by decide +kernel
theorem dX5_leavingRow_1 : decode cX5_leavingRow 1 = .ok (.istore_n 2, 1) := by decide +kernel
theorem dX5_leavingRow_2 : decode cX5_leavingRow 2 = .ok (.iconst 0, 1) := by decide +kernel
theorem dX5_leavingRow_3 : decode cX5_leavingRow 3 = .ok (.istore_n 3, 1) := by decide +kernel
theorem dX5_leavingRow_4 : decode cX5_leavingRow 4 = .ok (.iload_n 3, 1) := by decide +kernel
theorem dX5_leavingRow_5 : decode cX5_leavingRow 5 = .ok (.aload_n 0, 1) := by decide +kernel
theorem dX5_leavingRow_6 : decode cX5_leavingRow 6 = .ok (.getfield 9, 3) := by decide +kernel
theorem dX5_leavingRow_9 : decode cX5_leavingRow 9 = .ok (.if_icmp .ge 42, 3) := by decide +kernel
theorem dX5_leavingRow_12 : decode cX5_leavingRow 12 = .ok (.aload_n 0, 1) := by decide +kernel
theorem dX5_leavingRow_13 : decode cX5_leavingRow 13 = .ok (.getfield 32, 3) := by decide +kernel
theorem dX5_leavingRow_16 : decode cX5_leavingRow 16 = .ok (.iload_n 3, 1) := by decide +kernel
theorem dX5_leavingRow_17 : decode cX5_leavingRow 17 = .ok (.bipush 7, 2) := by decide +kernel
theorem dX5_leavingRow_19 : decode cX5_leavingRow 19 = .ok (.imul, 1) := by decide +kernel
theorem dX5_leavingRow_20 : decode cX5_leavingRow 20 = .ok (.iload_n 1, 1) := by decide +kernel
theorem dX5_leavingRow_21 : decode cX5_leavingRow 21 = .ok (.iadd, 1) := by decide +kernel
theorem dX5_leavingRow_22 : decode cX5_leavingRow 22 = .ok (.aaload, 1) := by decide +kernel
theorem dX5_leavingRow_23 : decode cX5_leavingRow 23 = .ok (.getfield 93, 3) := by decide +kernel
theorem dX5_leavingRow_26 : decode cX5_leavingRow 26 = .ok (.ifCond .le 19, 3) := by decide +kernel
theorem dX5_leavingRow_29 : decode cX5_leavingRow 29 = .ok (.iload_n 2, 1) := by decide +kernel
theorem dX5_leavingRow_30 : decode cX5_leavingRow 30 = .ok (.ifCond .lt 13, 3) := by decide +kernel
theorem dX5_leavingRow_33 : decode cX5_leavingRow 33 = .ok (.aload_n 0, 1) := by decide +kernel
theorem dX5_leavingRow_34 : decode cX5_leavingRow 34 = .ok (.iload_n 3, 1) := by decide +kernel
theorem dX5_leavingRow_35 : decode cX5_leavingRow 35 = .ok (.iload_n 2, 1) := by decide +kernel
theorem dX5_leavingRow_36 : decode cX5_leavingRow 36 = .ok (.iload_n 1, 1) := by decide +kernel
theorem dX5_leavingRow_37 : decode cX5_leavingRow 37 = .ok (.invokevirtual 96, 3) := by decide +kernel
theorem dX5_leavingRow_40 : decode cX5_leavingRow 40 = .ok (.ifCond .eq 5, 3) := by decide +kernel
theorem dX5_leavingRow_43 : decode cX5_leavingRow 43 = .ok (.iload_n 3, 1) := by decide +kernel
theorem dX5_leavingRow_44 : decode cX5_leavingRow 44 = .ok (.istore_n 2, 1) := by decide +kernel
theorem dX5_leavingRow_45 : decode cX5_leavingRow 45 = .ok (.iinc 3 1, 3) := by decide +kernel
theorem dX5_leavingRow_48 : decode cX5_leavingRow 48 = .ok (.goto (-44), 3) := by decide +kernel
theorem dX5_leavingRow_51 : decode cX5_leavingRow 51 = .ok (.iload_n 2, 1) := by decide +kernel
theorem dX5_leavingRow_52 : decode cX5_leavingRow 52 = .ok (.ireturn, 1) := by decide +kernel
theorem dX5_isLess_0 : decode cX5_isLess 0 = .ok (.aload_n 0, 1) := by decide +kernel
theorem dX5_isLess_1 : decode cX5_isLess 1 = .ok (.iload_n 1, 1) := by decide +kernel
theorem dX5_isLess_2 : decode cX5_isLess 2 = .ok (.iload_n 2, 1) := by decide +kernel
theorem dX5_isLess_3 : decode cX5_isLess 3 = .ok (.iload_n 3, 1) := by decide +kernel
theorem dX5_isLess_4 : decode cX5_isLess 4 = .ok (.bipush 6, 2) := by decide +kernel
theorem dX5_isLess_6 : decode cX5_isLess 6 = .ok (.invokevirtual 100, 3) := by decide +kernel
theorem dX5_isLess_9 : decode cX5_isLess 9 = .ok (.istore 4, 2) := by decide +kernel
theorem dX5_isLess_11 : decode cX5_isLess 11 = .ok (.iconst 0, 1) := by decide +kernel
theorem dX5_isLess_12 : decode cX5_isLess 12 = .ok (.istore 5, 2) := by decide +kernel
theorem dX5_isLess_14 : decode cX5_isLess 14 = .ok (.iload 5, 2) := by decide +kernel
theorem dX5_isLess_16 : decode cX5_isLess 16 = .ok (.aload_n 0, 1) := by decide +kernel
theorem dX5_isLess_17 : decode cX5_isLess 17 = .ok (.getfield 9, 3) := by decide +kernel
theorem dX5_isLess_20 : decode cX5_isLess 20 = .ok (.if_icmp .ge 94, 3) := by decide +kernel
theorem dX5_isLess_23 : decode cX5_isLess 23 = .ok (.iload 4, 2) := by decide +kernel
theorem dX5_isLess_25 : decode cX5_isLess 25 = .ok (.ifCond .ne 89, 3) := by decide +kernel
theorem dX5_isLess_28 : decode cX5_isLess 28 = .ok (.aload_n 0, 1) := by decide +kernel
theorem dX5_isLess_29 : decode cX5_isLess 29 = .ok (.getfield 25, 3) := by decide +kernel
theorem dX5_isLess_32 : decode cX5_isLess 32 = .ok (.aload_n 0, 1) := by decide +kernel
theorem dX5_isLess_33 : decode cX5_isLess 33 = .ok (.getfield 15, 3) := by decide +kernel
theorem dX5_isLess_36 : decode cX5_isLess 36 = .ok (.aload_n 0, 1) := by decide +kernel
theorem dX5_isLess_37 : decode cX5_isLess 37 = .ok (.getfield 18, 3) := by decide +kernel
theorem dX5_isLess_40 : decode cX5_isLess 40 = .ok (.iload 5, 2) := by decide +kernel
theorem dX5_isLess_42 : decode cX5_isLess 42 = .ok (.iadd, 1) := by decide +kernel
theorem dX5_isLess_43 : decode cX5_isLess 43 = .ok (.invokestatic 72, 3) := by decide +kernel
theorem dX5_isLess_46 : decode cX5_isLess 46 = .ok (.istore 6, 2) := by decide +kernel
theorem dX5_isLess_48 : decode cX5_isLess 48 = .ok (.iload 6, 2) := by decide +kernel
theorem dX5_isLess_50 : decode cX5_isLess 50 = .ok (.ifCond .lt 17, 3) := by decide +kernel
theorem dX5_isLess_53 : decode cX5_isLess 53 = .ok (.aload_n 0, 1) := by decide +kernel
theorem dX5_isLess_54 : decode cX5_isLess 54 = .ok (.iload_n 1, 1) := by decide +kernel
theorem dX5_isLess_55 : decode cX5_isLess 55 = .ok (.iload_n 2, 1) := by decide +kernel
theorem dX5_isLess_56 : decode cX5_isLess 56 = .ok (.iload_n 3, 1) := by decide +kernel
theorem dX5_isLess_57 : decode cX5_isLess 57 = .ok (.iload 6, 2) := by decide +kernel
theorem dX5_isLess_59 : decode cX5_isLess 59 = .ok (.invokevirtual 100, 3) := by decide +kernel
theorem dX5_isLess_62 : decode cX5_isLess 62 = .ok (.istore 4, 2) := by decide +kernel
theorem dX5_isLess_64 : decode cX5_isLess 64 = .ok (.goto 44, 3) := by decide +kernel
theorem dX5_isLess_67 : decode cX5_isLess 67 = .ok (.aload_n 0, 1) := by decide +kernel
theorem dX5_isLess_68 : decode cX5_isLess 68 = .ok (.getfield 21, 3) := by decide +kernel
theorem dX5_isLess_71 : decode cX5_isLess 71 = .ok (.iload_n 1, 1) := by decide +kernel
theorem dX5_isLess_72 : decode cX5_isLess 72 = .ok (.iaload, 1) := by decide +kernel
theorem dX5_isLess_73 : decode cX5_isLess 73 = .ok (.aload_n 0, 1) := by decide +kernel
theorem dX5_isLess_74 : decode cX5_isLess 74 = .ok (.getfield 18, 3) := by decide +kernel
theorem dX5_isLess_77 : decode cX5_isLess 77 = .ok (.iload 5, 2) := by decide +kernel
theorem dX5_isLess_79 : decode cX5_isLess 79 = .ok (.iadd, 1) := by decide +kernel
theorem dX5_isLess_80 : decode cX5_isLess 80 = .ok (.if_icmp .ne 9, 3) := by decide +kernel
theorem dX5_isLess_83 : decode cX5_isLess 83 = .ok (.iconst 1, 1) := by decide +kernel
theorem dX5_isLess_84 : decode cX5_isLess 84 = .ok (.istore 4, 2) := by decide +kernel
theorem dX5_isLess_86 : decode cX5_isLess 86 = .ok (.goto 22, 3) := by decide +kernel
theorem dX5_isLess_89 : decode cX5_isLess 89 = .ok (.aload_n 0, 1) := by decide +kernel
theorem dX5_isLess_90 : decode cX5_isLess 90 = .ok (.getfield 21, 3) := by decide +kernel
theorem dX5_isLess_93 : decode cX5_isLess 93 = .ok (.iload_n 2, 1) := by decide +kernel
theorem dX5_isLess_94 : decode cX5_isLess 94 = .ok (.iaload, 1) := by decide +kernel
theorem dX5_isLess_95 : decode cX5_isLess 95 = .ok (.aload_n 0, 1) := by decide +kernel
theorem dX5_isLess_96 : decode cX5_isLess 96 = .ok (.getfield 18, 3) := by decide +kernel
theorem dX5_isLess_99 : decode cX5_isLess 99 = .ok (.iload 5, 2) := by decide +kernel
theorem dX5_isLess_101 : decode cX5_isLess 101 = .ok (.iadd, 1) := by decide +kernel
theorem dX5_isLess_102 : decode cX5_isLess 102 = .ok (.if_icmp .ne 6, 3) := by decide +kernel
theorem dX5_isLess_105 : decode cX5_isLess 105 = .ok (.iconst (-1), 1) := by decide +kernel
theorem dX5_isLess_106 : decode cX5_isLess 106 = .ok (.istore 4, 2) := by decide +kernel
theorem dX5_isLess_108 : decode cX5_isLess 108 = .ok (.iinc 5 1, 3) := by decide +kernel
theorem dX5_isLess_111 : decode cX5_isLess 111 = .ok (.goto (-97), 3) := by decide +kernel
theorem dX5_isLess_114 : decode cX5_isLess 114 = .ok (.iload 4, 2) := by decide +kernel
theorem dX5_isLess_116 : decode cX5_isLess 116 = .ok (.ifCond .ge 7, 3) := by decide +kernel
theorem dX5_isLess_119 : decode cX5_isLess 119 = .ok (.iconst 1, 1) := by decide +kernel
theorem dX5_isLess_120 : decode cX5_isLess 120 = .ok (.goto 4, 3) := by decide +kernel
theorem dX5_isLess_123 : decode cX5_isLess 123 = .ok (.iconst 0, 1) := by decide +kernel
theorem dX5_isLess_124 : decode cX5_isLess 124 = .ok (.ireturn, 1) := by decide +kernel
theorem dX5_compareRatios_0 : decode cX5_compareRatios 0 = .ok (.aload_n 0, 1) := by decide +kernel
theorem dX5_compareRatios_1 : decode cX5_compareRatios 1 = .ok (.getfield 43, 3) := by decide +kernel
theorem dX5_compareRatios_4 : decode cX5_compareRatios 4 = .ok (.aload_n 0, 1) := by decide +kernel
theorem dX5_compareRatios_5 : decode cX5_compareRatios 5 = .ok (.getfield 32, 3) := by decide +kernel
theorem dX5_compareRatios_8 : decode cX5_compareRatios 8 = .ok (.iload_n 1, 1) := by decide +kernel
theorem dX5_compareRatios_9 : decode cX5_compareRatios 9 = .ok (.bipush 7, 2) := by decide +kernel
theorem dX5_compareRatios_11 : decode cX5_compareRatios 11 = .ok (.imul, 1) := by decide +kernel
theorem dX5_compareRatios_12 : decode cX5_compareRatios 12 = .ok (.iload 4, 2) := by decide +kernel
theorem dX5_compareRatios_14 : decode cX5_compareRatios 14 = .ok (.iadd, 1) := by decide +kernel
theorem dX5_compareRatios_15 : decode cX5_compareRatios 15 = .ok (.aaload, 1) := by decide +kernel
theorem dX5_compareRatios_16 : decode cX5_compareRatios 16 = .ok (.aload_n 0, 1) := by decide +kernel
theorem dX5_compareRatios_17 : decode cX5_compareRatios 17 = .ok (.getfield 32, 3) := by decide +kernel
theorem dX5_compareRatios_20 : decode cX5_compareRatios 20 = .ok (.iload_n 2, 1) := by decide +kernel
theorem dX5_compareRatios_21 : decode cX5_compareRatios 21 = .ok (.bipush 7, 2) := by decide +kernel
theorem dX5_compareRatios_23 : decode cX5_compareRatios 23 = .ok (.imul, 1) := by decide +kernel
theorem dX5_compareRatios_24 : decode cX5_compareRatios 24 = .ok (.iload_n 3, 1) := by decide +kernel
theorem dX5_compareRatios_25 : decode cX5_compareRatios 25 = .ok (.iadd, 1) := by decide +kernel
theorem dX5_compareRatios_26 : decode cX5_compareRatios 26 = .ok (.aaload, 1) := by decide +kernel
theorem dX5_compareRatios_27 : decode cX5_compareRatios 27 = .ok (.invokevirtual 104, 3) := by decide +kernel
theorem dX5_compareRatios_30 : decode cX5_compareRatios 30 = .ok (.aload_n 0, 1) := by decide +kernel
theorem dX5_compareRatios_31 : decode cX5_compareRatios 31 = .ok (.getfield 46, 3) := by decide +kernel
theorem dX5_compareRatios_34 : decode cX5_compareRatios 34 = .ok (.aload_n 0, 1) := by decide +kernel
theorem dX5_compareRatios_35 : decode cX5_compareRatios 35 = .ok (.getfield 32, 3) := by decide +kernel
theorem dX5_compareRatios_38 : decode cX5_compareRatios 38 = .ok (.iload_n 2, 1) := by decide +kernel
theorem dX5_compareRatios_39 : decode cX5_compareRatios 39 = .ok (.bipush 7, 2) := by decide +kernel
theorem dX5_compareRatios_41 : decode cX5_compareRatios 41 = .ok (.imul, 1) := by decide +kernel
theorem dX5_compareRatios_42 : decode cX5_compareRatios 42 = .ok (.iload 4, 2) := by decide +kernel
theorem dX5_compareRatios_44 : decode cX5_compareRatios 44 = .ok (.iadd, 1) := by decide +kernel
theorem dX5_compareRatios_45 : decode cX5_compareRatios 45 = .ok (.aaload, 1) := by decide +kernel
theorem dX5_compareRatios_46 : decode cX5_compareRatios 46 = .ok (.aload_n 0, 1) := by decide +kernel
theorem dX5_compareRatios_47 : decode cX5_compareRatios 47 = .ok (.getfield 32, 3) := by decide +kernel
theorem dX5_compareRatios_50 : decode cX5_compareRatios 50 = .ok (.iload_n 1, 1) := by decide +kernel
theorem dX5_compareRatios_51 : decode cX5_compareRatios 51 = .ok (.bipush 7, 2) := by decide +kernel
theorem dX5_compareRatios_53 : decode cX5_compareRatios 53 = .ok (.imul, 1) := by decide +kernel
theorem dX5_compareRatios_54 : decode cX5_compareRatios 54 = .ok (.iload_n 3, 1) := by decide +kernel
theorem dX5_compareRatios_55 : decode cX5_compareRatios 55 = .ok (.iadd, 1) := by decide +kernel
theorem dX5_compareRatios_56 : decode cX5_compareRatios 56 = .ok (.aaload, 1) := by decide +kernel
theorem dX5_compareRatios_57 : decode cX5_compareRatios 57 = .ok (.invokevirtual 104, 3) := by decide +kernel
theorem dX5_compareRatios_60 : decode cX5_compareRatios 60 = .ok (.aload_n 0, 1) := by decide +kernel
theorem dX5_compareRatios_61 : decode cX5_compareRatios 61 = .ok (.getfield 43, 3) := by decide +kernel
theorem dX5_compareRatios_64 : decode cX5_compareRatios 64 = .ok (.aload_n 0, 1) := by decide +kernel
theorem dX5_compareRatios_65 : decode cX5_compareRatios 65 = .ok (.getfield 46, 3) := by decide +kernel
theorem dX5_compareRatios_68 : decode cX5_compareRatios 68 = .ok (.invokevirtual 108, 3) := by decide +kernel
theorem dX5_compareRatios_71 : decode cX5_compareRatios 71 = .ok (.ireturn, 1) := by decide +kernel
theorem dX5_pivot_0 : decode cX5_pivot 0 = .ok (.iconst 0, 1) := by decide +kernel
theorem dX5_pivot_1 : decode cX5_pivot 1 = .ok (.istore_n 3, 1) := by decide +kernel
theorem dX5_pivot_2 : decode cX5_pivot 2 = .ok (.iload_n 3, 1) := by decide +kernel
theorem dX5_pivot_3 : decode cX5_pivot 3 = .ok (.aload_n 0, 1) := by decide +kernel
theorem dX5_pivot_4 : decode cX5_pivot 4 = .ok (.getfield 9, 3) := by decide +kernel
theorem dX5_pivot_7 : decode cX5_pivot 7 = .ok (.if_icmp .ge 70, 3) := by decide +kernel
theorem dX5_pivot_10 : decode cX5_pivot 10 = .ok (.iload_n 3, 1) := by decide +kernel
theorem dX5_pivot_11 : decode cX5_pivot 11 = .ok (.iload_n 1, 1) := by decide +kernel
theorem dX5_pivot_12 : decode cX5_pivot 12 = .ok (.if_icmp .eq 59, 3) := by decide +kernel
theorem dX5_pivot_15 : decode cX5_pivot 15 = .ok (.iconst 0, 1) := by decide +kernel
theorem dX5_pivot_16 : decode cX5_pivot 16 = .ok (.istore 4, 2) := by decide +kernel
theorem dX5_pivot_18 : decode cX5_pivot 18 = .ok (.iload 4, 2) := by decide +kernel
theorem dX5_pivot_20 : decode cX5_pivot 20 = .ok (.aload_n 0, 1) := by decide +kernel
theorem dX5_pivot_21 : decode cX5_pivot 21 = .ok (.getfield 15, 3) := by decide +kernel
theorem dX5_pivot_24 : decode cX5_pivot 24 = .ok (.if_icmp .ge 24, 3) := by decide +kernel
theorem dX5_pivot_27 : decode cX5_pivot 27 = .ok (.iload 4, 2) := by decide +kernel
theorem dX5_pivot_29 : decode cX5_pivot 29 = .ok (.iload_n 2, 1) := by decide +kernel
theorem dX5_pivot_30 : decode cX5_pivot 30 = .ok (.if_icmp .eq 12, 3) := by decide +kernel
theorem dX5_pivot_33 : decode cX5_pivot 33 = .ok (.aload_n 0, 1) := by decide +kernel
theorem dX5_pivot_34 : decode cX5_pivot 34 = .ok (.iload_n 3, 1) := by decide +kernel
theorem dX5_pivot_35 : decode cX5_pivot 35 = .ok (.iload 4, 2) := by decide +kernel
theorem dX5_pivot_37 : decode cX5_pivot 37 = .ok (.iload_n 1, 1) := by decide +kernel
theorem dX5_pivot_38 : decode cX5_pivot 38 = .ok (.iload_n 2, 1) := by decide +kernel
theorem dX5_pivot_39 : decode cX5_pivot 39 = .ok (.invokevirtual 112, 3) := by decide +kernel
theorem dX5_pivot_42 : decode cX5_pivot 42 = .ok (.iinc 4 1, 3) := by decide +kernel
theorem dX5_pivot_45 : decode cX5_pivot 45 = .ok (.goto (-27), 3) := by decide +kernel
theorem dX5_pivot_48 : decode cX5_pivot 48 = .ok (.aload_n 0, 1) := by decide +kernel
theorem dX5_pivot_49 : decode cX5_pivot 49 = .ok (.iload_n 3, 1) := by decide +kernel
theorem dX5_pivot_50 : decode cX5_pivot 50 = .ok (.bipush 6, 2) := by decide +kernel
theorem dX5_pivot_52 : decode cX5_pivot 52 = .ok (.iload_n 1, 1) := by decide +kernel
theorem dX5_pivot_53 : decode cX5_pivot 53 = .ok (.iload_n 2, 1) := by decide +kernel
theorem dX5_pivot_54 : decode cX5_pivot 54 = .ok (.invokevirtual 112, 3) := by decide +kernel
theorem dX5_pivot_57 : decode cX5_pivot 57 = .ok (.aload_n 0, 1) := by decide +kernel
theorem dX5_pivot_58 : decode cX5_pivot 58 = .ok (.getfield 32, 3) := by decide +kernel
theorem dX5_pivot_61 : decode cX5_pivot 61 = .ok (.iload_n 3, 1) := by decide +kernel
theorem dX5_pivot_62 : decode cX5_pivot 62 = .ok (.bipush 7, 2) := by decide +kernel
theorem dX5_pivot_64 : decode cX5_pivot 64 = .ok (.imul, 1) := by decide +kernel
theorem dX5_pivot_65 : decode cX5_pivot 65 = .ok (.iload_n 2, 1) := by decide +kernel
theorem dX5_pivot_66 : decode cX5_pivot 66 = .ok (.iadd, 1) := by decide +kernel
theorem dX5_pivot_67 : decode cX5_pivot 67 = .ok (.aaload, 1) := by decide +kernel
theorem dX5_pivot_68 : decode cX5_pivot 68 = .ok (.invokevirtual 116, 3) := by decide +kernel
theorem dX5_pivot_71 : decode cX5_pivot 71 = .ok (.iinc 3 1, 3) := by decide +kernel
theorem dX5_pivot_74 : decode cX5_pivot 74 = .ok (.goto (-72), 3) := by decide +kernel
theorem dX5_pivot_77 : decode cX5_pivot 77 = .ok (.aload_n 0, 1) := by decide +kernel
theorem dX5_pivot_78 : decode cX5_pivot 78 = .ok (.getfield 32, 3) := by decide +kernel
theorem dX5_pivot_81 : decode cX5_pivot 81 = .ok (.iload_n 1, 1) := by decide +kernel
theorem dX5_pivot_82 : decode cX5_pivot 82 = .ok (.bipush 7, 2) := by decide +kernel
theorem dX5_pivot_84 : decode cX5_pivot 84 = .ok (.imul, 1) := by decide +kernel
theorem dX5_pivot_85 : decode cX5_pivot 85 = .ok (.iload_n 2, 1) := by decide +kernel
theorem dX5_pivot_86 : decode cX5_pivot 86 = .ok (.iadd, 1) := by decide +kernel
theorem dX5_pivot_87 : decode cX5_pivot 87 = .ok (.aaload, 1) := by decide +kernel
theorem dX5_pivot_88 : decode cX5_pivot 88 = .ok (.astore_n 3, 1) := by decide +kernel
theorem dX5_pivot_89 : decode cX5_pivot 89 = .ok (.aload_n 0, 1) := by decide +kernel
theorem dX5_pivot_90 : decode cX5_pivot 90 = .ok (.getfield 32, 3) := by decide +kernel
theorem dX5_pivot_93 : decode cX5_pivot 93 = .ok (.iload_n 1, 1) := by decide +kernel
theorem dX5_pivot_94 : decode cX5_pivot 94 = .ok (.bipush 7, 2) := by decide +kernel
theorem dX5_pivot_96 : decode cX5_pivot 96 = .ok (.imul, 1) := by decide +kernel
theorem dX5_pivot_97 : decode cX5_pivot 97 = .ok (.iload_n 2, 1) := by decide +kernel
theorem dX5_pivot_98 : decode cX5_pivot 98 = .ok (.iadd, 1) := by decide +kernel
theorem dX5_pivot_99 : decode cX5_pivot 99 = .ok (.aload_n 0, 1) := by decide +kernel
theorem dX5_pivot_100 : decode cX5_pivot 100 = .ok (.getfield 39, 3) := by decide +kernel
theorem dX5_pivot_103 : decode cX5_pivot 103 = .ok (.aastore, 1) := by decide +kernel
theorem dX5_pivot_104 : decode cX5_pivot 104 = .ok (.aload_n 0, 1) := by decide +kernel
theorem dX5_pivot_105 : decode cX5_pivot 105 = .ok (.aload_n 3, 1) := by decide +kernel
theorem dX5_pivot_106 : decode cX5_pivot 106 = .ok (.putfield 39, 3) := by decide +kernel
theorem dX5_pivot_109 : decode cX5_pivot 109 = .ok (.return_, 1) := by decide +kernel
theorem dX5_clearOut_0 : decode cX5_clearOut 0 = .ok (.aload_n 0, 1) := by decide +kernel
theorem dX5_clearOut_1 : decode cX5_clearOut 1 = .ok (.getfield 43, 3) := by decide +kernel
theorem dX5_clearOut_4 : decode cX5_clearOut 4 = .ok (.aload_n 0, 1) := by decide +kernel
theorem dX5_clearOut_5 : decode cX5_clearOut 5 = .ok (.getfield 32, 3) := by decide +kernel
theorem dX5_clearOut_8 : decode cX5_clearOut 8 = .ok (.iload_n 1, 1) := by decide +kernel
theorem dX5_clearOut_9 : decode cX5_clearOut 9 = .ok (.bipush 7, 2) := by decide +kernel
theorem dX5_clearOut_11 : decode cX5_clearOut 11 = .ok (.imul, 1) := by decide +kernel
theorem dX5_clearOut_12 : decode cX5_clearOut 12 = .ok (.iload_n 2, 1) := by decide +kernel
theorem dX5_clearOut_13 : decode cX5_clearOut 13 = .ok (.iadd, 1) := by decide +kernel
theorem dX5_clearOut_14 : decode cX5_clearOut 14 = .ok (.aaload, 1) := by decide +kernel
theorem dX5_clearOut_15 : decode cX5_clearOut 15 = .ok (.aload_n 0, 1) := by decide +kernel
theorem dX5_clearOut_16 : decode cX5_clearOut 16 = .ok (.getfield 32, 3) := by decide +kernel
theorem dX5_clearOut_19 : decode cX5_clearOut 19 = .ok (.iload_n 3, 1) := by decide +kernel
theorem dX5_clearOut_20 : decode cX5_clearOut 20 = .ok (.bipush 7, 2) := by decide +kernel
theorem dX5_clearOut_22 : decode cX5_clearOut 22 = .ok (.imul, 1) := by decide +kernel
theorem dX5_clearOut_23 : decode cX5_clearOut 23 = .ok (.iload 4, 2) := by decide +kernel
theorem dX5_clearOut_25 : decode cX5_clearOut 25 = .ok (.iadd, 1) := by decide +kernel
theorem dX5_clearOut_26 : decode cX5_clearOut 26 = .ok (.aaload, 1) := by decide +kernel
theorem dX5_clearOut_27 : decode cX5_clearOut 27 = .ok (.invokevirtual 104, 3) := by decide +kernel
theorem dX5_clearOut_30 : decode cX5_clearOut 30 = .ok (.aload_n 0, 1) := by decide +kernel
theorem dX5_clearOut_31 : decode cX5_clearOut 31 = .ok (.getfield 46, 3) := by decide +kernel
theorem dX5_clearOut_34 : decode cX5_clearOut 34 = .ok (.aload_n 0, 1) := by decide +kernel
theorem dX5_clearOut_35 : decode cX5_clearOut 35 = .ok (.getfield 32, 3) := by decide +kernel
theorem dX5_clearOut_38 : decode cX5_clearOut 38 = .ok (.iload_n 1, 1) := by decide +kernel
theorem dX5_clearOut_39 : decode cX5_clearOut 39 = .ok (.bipush 7, 2) := by decide +kernel
theorem dX5_clearOut_41 : decode cX5_clearOut 41 = .ok (.imul, 1) := by decide +kernel
theorem dX5_clearOut_42 : decode cX5_clearOut 42 = .ok (.iload 4, 2) := by decide +kernel
theorem dX5_clearOut_44 : decode cX5_clearOut 44 = .ok (.iadd, 1) := by decide +kernel
theorem dX5_clearOut_45 : decode cX5_clearOut 45 = .ok (.aaload, 1) := by decide +kernel
theorem dX5_clearOut_46 : decode cX5_clearOut 46 = .ok (.aload_n 0, 1) := by decide +kernel
theorem dX5_clearOut_47 : decode cX5_clearOut 47 = .ok (.getfield 32, 3) := by decide +kernel
theorem dX5_clearOut_50 : decode cX5_clearOut 50 = .ok (.iload_n 3, 1) := by decide +kernel
theorem dX5_clearOut_51 : decode cX5_clearOut 51 = .ok (.bipush 7, 2) := by decide +kernel
theorem dX5_clearOut_53 : decode cX5_clearOut 53 = .ok (.imul, 1) := by decide +kernel
theorem dX5_clearOut_54 : decode cX5_clearOut 54 = .ok (.iload_n 2, 1) := by decide +kernel
theorem dX5_clearOut_55 : decode cX5_clearOut 55 = .ok (.iadd, 1) := by decide +kernel
theorem dX5_clearOut_56 : decode cX5_clearOut 56 = .ok (.aaload, 1) := by decide +kernel
theorem dX5_clearOut_57 : decode cX5_clearOut 57 = .ok (.invokevirtual 104, 3) := by decide +kernel
theorem dX5_clearOut_60 : decode cX5_clearOut 60 = .ok (.aload_n 0, 1) := by decide +kernel
theorem dX5_clearOut_61 : decode cX5_clearOut 61 = .ok (.getfield 43, 3) := by decide +kernel
theorem dX5_clearOut_64 : decode cX5_clearOut 64 = .ok (.aload_n 0, 1) := by decide +kernel
theorem dX5_clearOut_65 : decode cX5_clearOut 65 = .ok (.getfield 46, 3) := by decide +kernel
theorem dX5_clearOut_68 : decode cX5_clearOut 68 = .ok (.invokevirtual 119, 3) := by decide +kernel
theorem dX5_clearOut_71 : decode cX5_clearOut 71 = .ok (.aload_n 0, 1) := by decide +kernel
theorem dX5_clearOut_72 : decode cX5_clearOut 72 = .ok (.getfield 52, 3) := by decide +kernel
theorem dX5_clearOut_75 : decode cX5_clearOut 75 = .ok (.aload_n 0, 1) := by decide +kernel
theorem dX5_clearOut_76 : decode cX5_clearOut 76 = .ok (.getfield 43, 3) := by decide +kernel
theorem dX5_clearOut_79 : decode cX5_clearOut 79 = .ok (.aload_n 0, 1) := by decide +kernel
theorem dX5_clearOut_80 : decode cX5_clearOut 80 = .ok (.getfield 39, 3) := by decide +kernel
theorem dX5_clearOut_83 : decode cX5_clearOut 83 = .ok (.aload_n 0, 1) := by decide +kernel
theorem dX5_clearOut_84 : decode cX5_clearOut 84 = .ok (.getfield 32, 3) := by decide +kernel
theorem dX5_clearOut_87 : decode cX5_clearOut 87 = .ok (.iload_n 1, 1) := by decide +kernel
theorem dX5_clearOut_88 : decode cX5_clearOut 88 = .ok (.bipush 7, 2) := by decide +kernel
theorem dX5_clearOut_90 : decode cX5_clearOut 90 = .ok (.imul, 1) := by decide +kernel
theorem dX5_clearOut_91 : decode cX5_clearOut 91 = .ok (.iload_n 2, 1) := by decide +kernel
theorem dX5_clearOut_92 : decode cX5_clearOut 92 = .ok (.iadd, 1) := by decide +kernel
theorem dX5_clearOut_93 : decode cX5_clearOut 93 = .ok (.aaload, 1) := by decide +kernel
theorem dX5_clearOut_94 : decode cX5_clearOut 94 = .ok (.invokevirtual 122, 3) := by decide +kernel
theorem dX5_clearOut_97 : decode cX5_clearOut 97 = .ok (.return_, 1) := by decide +kernel
