theorem dX9_list_30 : decode cX9_list 30 = .ok (.aload_n 0, 1) := by decide +kernel
theorem dX9_list_31 : decode cX9_list 31 = .ok (.iconst 1, 1) := by decide +kernel
theorem dX9_list_32 : decode cX9_list 32 = .ok (.putfield 132, 3) := by decide +kernel
theorem dX9_list_35 : decode cX9_list 35 = .ok (.iconst 1, 1) := by decide +kernel
theorem dX9_list_36 : decode cX9_list 36 = .ok (.istore_n 1, 1) := by decide +kernel
theorem dX9_list_37 : decode cX9_list 37 = .ok (.iload_n 1, 1) := by decide +kernel
theorem dX9_list_38 : decode cX9_list 38 = .ok (.aload_n 0, 1) := by decide +kernel
theorem dX9_list_39 : decode cX9_list 39 = .ok (.getfield 120, 3) := by decide +kernel
theorem dX9_list_42 : decode cX9_list 42 = .ok (.if_icmp .gt 128, 3) := by decide +kernel
theorem dX9_list_45 : decode cX9_list 45 = .ok (.iload_n 1, 1) := by decide +kernel
theorem dX9_list_46 : decode cX9_list 46 = .ok (.aload_n 0, 1) := by decide +kernel
theorem dX9_list_47 : decode cX9_list 47 = .ok (.getfield 123, 3) := by decide +kernel
theorem dX9_list_50 : decode cX9_list 50 = .ok (.if_icmp .gt 120, 3) := by decide +kernel
theorem dX9_list_53 : decode cX9_list 53 = .ok (.iconst 1, 1) := by decide +kernel
theorem dX9_list_54 : decode cX9_list 54 = .ok (.istore_n 2, 1) := by decide +kernel
theorem dX9_list_55 : decode cX9_list 55 = .ok (.iload_n 2, 1) := by decide +kernel
theorem dX9_list_56 : decode cX9_list 56 = .ok (.iconst 1, 1) := by decide +kernel
theorem dX9_list_57 : decode cX9_list 57 = .ok (.aload_n 0, 1) := by decide +kernel
theorem dX9_list_58 : decode cX9_list 58 = .ok (.getfield 120, 3) := by decide +kernel
theorem dX9_list_61 : decode cX9_list 61 = .ok (.ishl, 1) := by decide +kernel
theorem dX9_list_62 : decode cX9_list 62 = .ok (.if_icmp .ge 102, 3) := by decide +kernel
theorem dX9_list_65 : decode cX9_list 65 = .ok (.aload_n 0, 1) := by decide +kernel
theorem dX9_list_66 : decode cX9_list 66 = .ok (.iload_n 2, 1) := by decide +kernel
theorem dX9_list_67 : decode cX9_list 67 = .ok (.invokevirtual 217, 3) := by decide +kernel
theorem dX9_list_70 : decode cX9_list 70 = .ok (.iload_n 1, 1) := by decide +kernel
theorem dX9_list_71 : decode cX9_list 71 = .ok (.if_icmp .eq 6, 3) := by decide +kernel
theorem dX9_list_74 : decode cX9_list 74 = .ok (.goto 84, 3) := by decide +kernel
theorem dX9_list_77 : decode cX9_list 77 = .ok (.iconst 1, 1) := by decide +kernel
theorem dX9_list_78 : decode cX9_list 78 = .ok (.istore_n 3, 1) := by decide +kernel
theorem dX9_list_79 : decode cX9_list 79 = .ok (.iload_n 3, 1) := by decide +kernel
theorem dX9_list_80 : decode cX9_list 80 = .ok (.iconst 1, 1) := by decide +kernel
theorem dX9_list_81 : decode cX9_list 81 = .ok (.aload_n 0, 1) := by decide +kernel
theorem dX9_list_82 : decode cX9_list 82 = .ok (.getfield 123, 3) := by decide +kernel
theorem dX9_list_85 : decode cX9_list 85 = .ok (.ishl, 1) := by decide +kernel
theorem dX9_list_86 : decode cX9_list 86 = .ok (.if_icmp .ge 72, 3) := by decide +kernel
theorem dX9_list_89 : decode cX9_list 89 = .ok (.aload_n 0, 1) := by decide +kernel
theorem dX9_list_90 : decode cX9_list 90 = .ok (.getfield 136, 3) := by decide +kernel
theorem dX9_list_93 : decode cX9_list 93 = .ok (.bipush 100, 2) := by decide +kernel
theorem dX9_list_95 : decode cX9_list 95 = .ok (.if_icmp .ge 63, 3) := by decide +kernel
theorem dX9_list_98 : decode cX9_list 98 = .ok (.aload_n 0, 1) := by decide +kernel
theorem dX9_list_99 : decode cX9_list 99 = .ok (.iload_n 3, 1) := by decide +kernel
theorem dX9_list_100 : decode cX9_list 100 = .ok (.invokevirtual 217, 3) := by decide +kernel
theorem dX9_list_103 : decode cX9_list 103 = .ok (.iload_n 1, 1) := by decide +kernel
theorem dX9_list_104 : decode cX9_list 104 = .ok (.if_icmp .ne 48, 3) := by decide +kernel
theorem dX9_list_107 : decode cX9_list 107 = .ok (.aload_n 0, 1) := by decide +kernel
theorem dX9_list_108 : decode cX9_list 108 = .ok (.iload_n 2, 1) := by decide +kernel
theorem dX9_list_109 : decode cX9_list 109 = .ok (.iload_n 3, 1) := by decide +kernel
theorem dX9_list_110 : decode cX9_list 110 = .ok (.invokevirtual 220, 3) := by decide +kernel
theorem dX9_list_113 : decode cX9_list 113 = .ok (.ifCond .eq 39, 3) := by decide +kernel
theorem dX9_list_116 : decode cX9_list 116 = .ok (.aload_n 0, 1) := by decide +kernel
theorem dX9_list_117 : decode cX9_list 117 = .ok (.getfield 45, 3) := by decide +kernel
theorem dX9_list_120 : decode cX9_list 120 = .ok (.iconst 2, 1) := by decide +kernel
theorem dX9_list_121 : decode cX9_list 121 = .ok (.aload_n 0, 1) := by decide +kernel
theorem dX9_list_122 : decode cX9_list 122 = .ok (.getfield 136, 3) := by decide +kernel
theorem dX9_list_125 : decode cX9_list 125 = .ok (.imul, 1) := by decide +kernel
theorem dX9_list_126 : decode cX9_list 126 = .ok (.iload_n 2, 1) := by decide +kernel
theorem dX9_list_127 : decode cX9_list 127 = .ok (.iastore, 1) := by decide +kernel
theorem dX9_list_128 : decode cX9_list 128 = .ok (.aload_n 0, 1) := by decide +kernel
theorem dX9_list_129 : decode cX9_list 129 = .ok (.getfield 45, 3) := by decide +kernel
theorem dX9_list_132 : decode cX9_list 132 = .ok (.iconst 2, 1) := by decide +kernel
theorem dX9_list_133 : decode cX9_list 133 = .ok (.aload_n 0, 1) := by decide +kernel
theorem dX9_list_134 : decode cX9_list 134 = .ok (.getfield 136, 3) := by decide +kernel
theorem dX9_list_137 : decode cX9_list 137 = .ok (.imul, 1) := by decide +kernel
theorem dX9_list_138 : decode cX9_list 138 = .ok (.iconst 1, 1) := by decide +kernel
theorem dX9_list_139 : decode cX9_list 139 = .ok (.iadd, 1) := by decide +kernel
theorem dX9_list_140 : decode cX9_list 140 = .ok (.iload_n 3, 1) := by decide +kernel
theorem dX9_list_141 : decode cX9_list 141 = .ok (.iastore, 1) := by decide +kernel
theorem dX9_list_142 : decode cX9_list 142 = .ok (.aload_n 0, 1) := by decide +kernel
theorem dX9_list_143 : decode cX9_list 143 = .ok (.dup, 1) := by decide +kernel
theorem dX9_list_144 : decode cX9_list 144 = .ok (.getfield 136, 3) := by decide +kernel
theorem dX9_list_147 : decode cX9_list 147 = .ok (.iconst 1, 1) := by decide +kernel
theorem dX9_list_148 : decode cX9_list 148 = .ok (.iadd, 1) := by decide +kernel
theorem dX9_list_149 : decode cX9_list 149 = .ok (.putfield 136, 3) := by decide +kernel
theorem dX9_list_152 : decode cX9_list 152 = .ok (.iinc 3 1, 3) := by decide +kernel
theorem dX9_list_155 : decode cX9_list 155 = .ok (.goto (-76), 3) := by decide +kernel
theorem dX9_list_158 : decode cX9_list 158 = .ok (.iinc 2 1, 3) := by decide +kernel
theorem dX9_list_161 : decode cX9_list 161 = .ok (.goto (-106), 3) := by decide +kernel
theorem dX9_list_164 : decode cX9_list 164 = .ok (.iinc 1 1, 3) := by decide +kernel
theorem dX9_list_167 : decode cX9_list 167 = .ok (.goto (-130), 3) := by decide +kernel
theorem dX9_list_170 : decode cX9_list 170 = .ok (.aload_n 0, 1) := by decide +kernel
theorem dX9_list_171 : decode cX9_list 171 = .ok (.getfield 136, 3) := by decide +kernel
theorem dX9_list_174 : decode cX9_list 174 = .ok (.ireturn, 1) := by decide +kernel
theorem dX9_determinant_0 : decode cX9_determinant 0 = .ok (.iload_n 2, 1) := by decide +kernel
theorem dX9_determinant_1 : decode cX9_determinant 1 = .ok (.aload_n 0, 1) := by decide +kernel
theorem dX9_determinant_2 : decode cX9_determinant 2 = .ok (.getfield 71, 3) := by decide +kernel
theorem dX9_determinant_5 : decode cX9_determinant 5 = .ok (.invokestatic 205, 3) := by decide +kernel
theorem dX9_determinant_8 : decode cX9_determinant 8 = .ok (.istore 4, 2) := by decide +kernel
theorem dX9_determinant_10 : decode cX9_determinant 10 = .ok (.iload_n 3, 1) := by decide +kernel
theorem dX9_determinant_11 : decode cX9_determinant 11 = .ok (.aload_n 0, 1) := by decide +kernel
theorem dX9_determinant_12 : decode cX9_determinant 12 = .ok (.getfield 74, 3) := by decide +kernel
theorem dX9_determinant_15 : decode cX9_determinant 15 = .ok (.invokestatic 205, 3) := by decide +kernel
theorem dX9_determinant_18 : decode cX9_determinant 18 = .ok (.istore 5, 2) := by decide +kernel
theorem dX9_determinant_20 : decode cX9_determinant 20 = .ok (.iconst 0, 1) := by decide +kernel
theorem dX9_determinant_21 : decode cX9_determinant 21 = .ok (.istore 6, 2) := by decide +kernel
theorem dX9_determinant_23 : decode cX9_determinant 23 = .ok (.iload 6, 2) := by decide +kernel
theorem dX9_determinant_25 : decode cX9_determinant 25 = .ok (.iload 4, 2) := by decide +kernel
theorem dX9_determinant_27 : decode cX9_determinant 27 = .ok (.if_icmp .ge 56, 3) := by decide +kernel
theorem dX9_determinant_30 : decode cX9_determinant 30 = .ok (.iconst 0, 1) := by decide +kernel
theorem dX9_determinant_31 : decode cX9_determinant 31 = .ok (.istore 7, 2) := by decide +kernel
theorem dX9_determinant_33 : decode cX9_determinant 33 = .ok (.iload 7, 2) := by decide +kernel
theorem dX9_determinant_35 : decode cX9_determinant 35 = .ok (.iload 4, 2) := by decide +kernel
theorem dX9_determinant_37 : decode cX9_determinant 37 = .ok (.if_icmp .ge 40, 3) := by decide +kernel
theorem dX9_determinant_40 : decode cX9_determinant 40 = .ok (.aload_n 0, 1) := by decide +kernel
theorem dX9_determinant_41 : decode cX9_determinant 41 = .ok (.aload_n 0, 1) := by decide +kernel
theorem dX9_determinant_42 : decode cX9_determinant 42 = .ok (.iload 6, 2) := by decide +kernel
theorem dX9_determinant_44 : decode cX9_determinant 44 = .ok (.iload 7, 2) := by decide +kernel
theorem dX9_determinant_46 : decode cX9_determinant 46 = .ok (.invokevirtual 199, 3) := by decide +kernel
theorem dX9_determinant_49 : decode cX9_determinant 49 = .ok (.aload_n 0, 1) := by decide +kernel
theorem dX9_determinant_50 : decode cX9_determinant 50 = .ok (.iload_n 1, 1) := by decide +kernel
theorem dX9_determinant_51 : decode cX9_determinant 51 = .ok (.aload_n 0, 1) := by decide +kernel
theorem dX9_determinant_52 : decode cX9_determinant 52 = .ok (.getfield 71, 3) := by decide +kernel
theorem dX9_determinant_55 : decode cX9_determinant 55 = .ok (.iload 6, 2) := by decide +kernel
theorem dX9_determinant_57 : decode cX9_determinant 57 = .ok (.iaload, 1) := by decide +kernel
theorem dX9_determinant_58 : decode cX9_determinant 58 = .ok (.aload_n 0, 1) := by decide +kernel
theorem dX9_determinant_59 : decode cX9_determinant 59 = .ok (.getfield 74, 3) := by decide +kernel
theorem dX9_determinant_62 : decode cX9_determinant 62 = .ok (.iload 7, 2) := by decide +kernel
theorem dX9_determinant_64 : decode cX9_determinant 64 = .ok (.iaload, 1) := by decide +kernel
theorem dX9_determinant_65 : decode cX9_determinant 65 = .ok (.invokevirtual 155, 3) := by decide +kernel
theorem dX9_determinant_68 : decode cX9_determinant 68 = .ok (.invokevirtual 80, 3) := by decide +kernel
theorem dX9_determinant_71 : decode cX9_determinant 71 = .ok (.iinc 7 1, 3) := by decide +kernel
theorem dX9_determinant_74 : decode cX9_determinant 74 = .ok (.goto (-41), 3) := by decide +kernel
theorem dX9_determinant_77 : decode cX9_determinant 77 = .ok (.iinc 6 1, 3) := by decide +kernel
theorem dX9_determinant_80 : decode cX9_determinant 80 = .ok (.goto (-57), 3) := by decide +kernel
theorem dX9_determinant_83 : decode cX9_determinant 83 = .ok (.aload_n 0, 1) := by decide +kernel
theorem dX9_determinant_84 : decode cX9_determinant 84 = .ok (.iload 4, 2) := by decide +kernel
theorem dX9_determinant_86 : decode cX9_determinant 86 = .ok (.iload 4, 2) := by decide +kernel
theorem dX9_determinant_88 : decode cX9_determinant 88 = .ok (.invokevirtual 211, 3) := by decide +kernel
theorem dX9_determinant_91 : decode cX9_determinant 91 = .ok (.aload_n 0, 1) := by decide +kernel
theorem dX9_determinant_92 : decode cX9_determinant 92 = .ok (.getfield 17, 3) := by decide +kernel
theorem dX9_determinant_95 : decode cX9_determinant 95 = .ok (.bipush 28, 2) := by decide +kernel
theorem dX9_determinant_97 : decode cX9_determinant 97 = .ok (.iaload, 1) := by decide +kernel
theorem dX9_determinant_98 : decode cX9_determinant 98 = .ok (.ireturn, 1) := by decide +kernel
theorem dX9_index_0 : decode cX9_index 0 = .ok (.aload_n 0, 1) := by decide +kernel
theorem dX9_index_1 : decode cX9_index 1 = .ok (.aload_n 0, 1) := by decide +kernel
theorem dX9_index_2 : decode cX9_index 2 = .ok (.getfield 132, 3) := by decide +kernel
theorem dX9_index_5 : decode cX9_index 5 = .ok (.ifCond .eq 17, 3) := by decide +kernel
theorem dX9_index_8 : decode cX9_index 8 = .ok (.iload_n 1, 1) := by decide +kernel
theorem dX9_index_9 : decode cX9_index 9 = .ok (.iconst 0, 1) := by decide +kernel
theorem dX9_index_10 : decode cX9_index 10 = .ok (.aload_n 0, 1) := by decide +kernel
theorem dX9_index_11 : decode cX9_index 11 = .ok (.getfield 136, 3) := by decide +kernel
theorem dX9_index_14 : decode cX9_index 14 = .ok (.iconst 1, 1) := by decide +kernel
theorem dX9_index_15 : decode cX9_index 15 = .ok (.isub, 1) := by decide +kernel
theorem dX9_index_16 : decode cX9_index 16 = .ok (.invokestatic 116, 3) := by decide +kernel
theorem dX9_index_19 : decode cX9_index 19 = .ok (.ifCond .ne 7, 3) := by decide +kernel
theorem dX9_index_22 : decode cX9_index 22 = .ok (.iconst 1, 1) := by decide +kernel
theorem dX9_index_23 : decode cX9_index 23 = .ok (.goto 4, 3) := by decide +kernel
theorem dX9_index_26 : decode cX9_index 26 = .ok (.iconst 0, 1) := by decide +kernel
theorem dX9_index_27 : decode cX9_index 27 = .ok (.putfield 84, 3) := by decide +kernel
theorem dX9_index_30 : decode cX9_index 30 = .ok (.aload_n 0, 1) := by decide +kernel
theorem dX9_index_31 : decode cX9_index 31 = .ok (.getfield 84, 3) := by decide +kernel
theorem dX9_index_34 : decode cX9_index 34 = .ok (.ifCond .le 5, 3) := by decide +kernel
theorem dX9_index_37 : decode cX9_index 37 = .ok (.iconst 0, 1) := by decide +kernel
theorem dX9_index_38 : decode cX9_index 38 = .ok (.ireturn, 1) := by decide +kernel
theorem dX9_index_39 : decode cX9_index 39 = .ok (.aload_n 0, 1) := by decide +kernel
theorem dX9_index_40 : decode cX9_index 40 = .ok (.getfield 45, 3) := by decide +kernel
theorem dX9_index_43 : decode cX9_index 43 = .ok (.iconst 2, 1) := by decide +kernel
theorem dX9_index_44 : decode cX9_index 44 = .ok (.iload_n 1, 1) := by decide +kernel
theorem dX9_index_45 : decode cX9_index 45 = .ok (.imul, 1) := by decide +kernel
theorem dX9_index_46 : decode cX9_index 46 = .ok (.iaload, 1) := by decide +kernel
theorem dX9_index_47 : decode cX9_index 47 = .ok (.istore_n 2, 1) := by decide +kernel
theorem dX9_index_48 : decode cX9_index 48 = .ok (.aload_n 0, 1) := by decide +kernel
theorem dX9_index_49 : decode cX9_index 49 = .ok (.getfield 45, 3) := by decide +kernel
theorem dX9_index_52 : decode cX9_index 52 = .ok (.iconst 2, 1) := by decide +kernel
theorem dX9_index_53 : decode cX9_index 53 = .ok (.iload_n 1, 1) := by decide +kernel
theorem dX9_index_54 : decode cX9_index 54 = .ok (.imul, 1) := by decide +kernel
theorem dX9_index_55 : decode cX9_index 55 = .ok (.iconst 1, 1) := by decide +kernel
theorem dX9_index_56 : decode cX9_index 56 = .ok (.iadd, 1) := by decide +kernel
theorem dX9_index_57 : decode cX9_index 57 = .ok (.iaload, 1) := by decide +kernel
theorem dX9_index_58 : decode cX9_index 58 = .ok (.istore_n 3, 1) := by decide +kernel
theorem dX9_index_59 : decode cX9_index 59 = .ok (.aload_n 0, 1) := by decide +kernel
theorem dX9_index_60 : decode cX9_index 60 = .ok (.iconst 0, 1) := by decide +kernel
theorem dX9_index_61 : decode cX9_index 61 = .ok (.iload_n 2, 1) := by decide +kernel
theorem dX9_index_62 : decode cX9_index 62 = .ok (.iload_n 3, 1) := by decide +kernel
theorem dX9_index_63 : decode cX9_index 63 = .ok (.invokevirtual 223, 3) := by decide +kernel
theorem dX9_index_66 : decode cX9_index 66 = .ok (.aload_n 0, 1) := by decide +kernel
theorem dX9_index_67 : decode cX9_index 67 = .ok (.iconst 1, 1) := by decide +kernel
theorem dX9_index_68 : decode cX9_index 68 = .ok (.iload_n 2, 1) := by decide +kernel
theorem dX9_index_69 : decode cX9_index 69 = .ok (.iload_n 3, 1) := by decide +kernel
theorem dX9_index_70 : decode cX9_index 70 = .ok (.invokevirtual 223, 3) := by decide +kernel
theorem dX9_index_73 : decode cX9_index 73 = .ok (.imul, 1) := by decide +kernel
theorem dX9_index_74 : decode cX9_index 74 = .ok (.istore 4, 2) := by decide +kernel
theorem dX9_index_76 : decode cX9_index 76 = .ok (.aload_n 0, 1) := by decide +kernel
theorem dX9_index_77 : decode cX9_index 77 = .ok (.iload_n 2, 1) := by decide +kernel
theorem dX9_index_78 : decode cX9_index 78 = .ok (.invokevirtual 217, 3) := by decide +kernel
theorem dX9_index_81 : decode cX9_index 81 = .ok (.iconst 2, 1) := by decide +kernel
theorem dX9_index_82 : decode cX9_index 82 = .ok (.irem, 1) := by decide +kernel
theorem dX9_index_83 : decode cX9_index 83 = .ok (.ifCond .ne 9, 3) := by decide +kernel
theorem dX9_index_86 : decode cX9_index 86 = .ok (.iload 4, 2) := by decide +kernel
theorem dX9_index_88 : decode cX9_index 88 = .ok (.ineg, 1) := by decide +kernel
theorem dX9_index_89 : decode cX9_index 89 = .ok (.goto 5, 3) := by decide +kernel
theorem dX9_index_92 : decode cX9_index 92 = .ok (.iload 4, 2) := by decide +kernel
theorem dX9_index_94 : decode cX9_index 94 = .ok (.ireturn, 1) := by decide +kernel
theorem dX9_isDominated_0 : decode cX9_isDominated 0 = .ok (.iload_n 1, 1) := by decide +kernel
theorem dX9_isDominated_1 : decode cX9_isDominated 1 = .ok (.ifCond .ne 10, 3) := by decide +kernel
theorem dX9_isDominated_4 : decode cX9_isDominated 4 = .ok (.aload_n 0, 1) := by decide +kernel
theorem dX9_isDominated_5 : decode cX9_isDominated 5 = .ok (.getfield 120, 3) := by decide +kernel
theorem dX9_isDominated_8 : decode cX9_isDominated 8 = .ok (.goto 7, 3) := by decide +kernel
theorem dX9_isDominated_11 : decode cX9_isDominated 11 = .ok (.aload_n 0, 1) := by decide +kernel
theorem dX9_isDominated_12 : decode cX9_isDominated 12 = .ok (.getfield 123, 3) := by decide +kernel
theorem dX9_isDominated_15 : decode cX9_isDominated 15 = .ok (.istore_n 3, 1) := by decide +kernel
theorem dX9_isDominated_16 : decode cX9_isDominated 16 = .ok (.iload_n 1, 1) := by decide +kernel
theorem dX9_isDominated_17 : decode cX9_isDominated 17 = .ok (.ifCond .ne 10, 3) := by decide +kernel
theorem dX9_isDominated_20 : decode cX9_isDominated 20 = .ok (.aload_n 0, 1) := by decide +kernel
theorem dX9_isDominated_21 : decode cX9_isDominated 21 = .ok (.getfield 123, 3) := by decide +kernel
theorem dX9_isDominated_24 : decode cX9_isDominated 24 = .ok (.goto 7, 3) := by decide +kernel
theorem dX9_isDominated_27 : decode cX9_isDominated 27 = .ok (.aload_n 0, 1) := by decide +kernel
theorem dX9_isDominated_28 : decode cX9_isDominated 28 = .ok (.getfield 120, 3) := by decide +kernel
theorem dX9_isDominated_31 : decode cX9_isDominated 31 = .ok (.istore 4, 2) := by decide +kernel
theorem dX9_isDominated_33 : decode cX9_isDominated 33 = .ok (.iconst 0, 1) := by decide +kernel
theorem dX9_isDominated_34 : decode cX9_isDominated 34 = .ok (.istore 5, 2) := by decide +kernel
theorem dX9_isDominated_36 : decode cX9_isDominated 36 = .ok (.iload 5, 2) := by decide +kernel
theorem dX9_isDominated_38 : decode cX9_isDominated 38 = .ok (.iload_n 3, 1) := by decide +kernel
theorem dX9_isDominated_39 : decode cX9_isDominated 39 = .ok (.if_icmp .ge 165, 3) := by decide +kernel
theorem dX9_isDominated_42 : decode cX9_isDominated 42 = .ok (.iload 5, 2) := by decide +kernel
theorem dX9_isDominated_44 : decode cX9_isDominated 44 = .ok (.iload_n 2, 1) := by decide +kernel
theorem dX9_isDominated_45 : decode cX9_isDominated 45 = .ok (.if_icmp .eq 22, 3) := by decide +kernel
theorem dX9_isDominated_48 : decode cX9_isDominated 48 = .ok (.aload_n 0, 1) := by decide +kernel
theorem dX9_isDominated_49 : decode cX9_isDominated 49 = .ok (.getfield 51, 3) := by decide +kernel
theorem dX9_isDominated_52 : decode cX9_isDominated 52 = .ok (.bipush 6, 2) := by decide +kernel
theorem dX9_isDominated_54 : decode cX9_isDominated 54 = .ok (.iload_n 1, 1) := by decide +kernel
theorem dX9_isDominated_55 : decode cX9_isDominated 55 = .ok (.imul, 1) := by decide +kernel
theorem dX9_isDominated_56 : decode cX9_isDominated 56 = .ok (.iload 5, 2) := by decide +kernel
theorem dX9_isDominated_58 : decode cX9_isDominated 58 = .ok (.iadd, 1) := by decide +kernel
theorem dX9_isDominated_59 : decode cX9_isDominated 59 = .ok (.baload, 1) := by decide +kernel
theorem dX9_isDominated_60 : decode cX9_isDominated 60 = .ok (.ifCond .eq 7, 3) := by decide +kernel
theorem dX9_isDominated_63 : decode cX9_isDominated 63 = .ok (.iconst 1, 1) := by decide +kernel
theorem dX9_isDominated_64 : decode cX9_isDominated 64 = .ok (.goto 4, 3) := by decide +kernel
theorem dX9_isDominated_67 : decode cX9_isDominated 67 = .ok (.iconst 0, 1) := by decide +kernel
theorem dX9_isDominated_68 : decode cX9_isDominated 68 = .ok (.istore 6, 2) := by decide +kernel
theorem dX9_isDominated_70 : decode cX9_isDominated 70 = .ok (.iconst 0, 1) := by decide +kernel
theorem dX9_isDominated_71 : decode cX9_isDominated 71 = .ok (.istore 7, 2) := by decide +kernel
theorem dX9_isDominated_73 : decode cX9_isDominated 73 = .ok (.iload 7, 2) := by decide +kernel
theorem dX9_isDominated_75 : decode cX9_isDominated 75 = .ok (.iload 4, 2) := by decide +kernel
theorem dX9_isDominated_77 : decode cX9_isDominated 77 = .ok (.if_icmp .ge 114, 3) := by decide +kernel
theorem dX9_isDominated_80 : decode cX9_isDominated 80 = .ok (.iload 6, 2) := by decide +kernel
theorem dX9_isDominated_82 : decode cX9_isDominated 82 = .ok (.ifCond .eq 109, 3) := by decide +kernel
theorem dX9_isDominated_85 : decode cX9_isDominated 85 = .ok (.aload_n 0, 1) := by decide +kernel
theorem dX9_isDominated_86 : decode cX9_isDominated 86 = .ok (.getfield 59, 3) := by decide +kernel
theorem dX9_isDominated_89 : decode cX9_isDominated 89 = .ok (.bipush 36, 2) := by decide +kernel
theorem dX9_isDominated_91 : decode cX9_isDominated 91 = .ok (.iload_n 1, 1) := by decide +kernel
theorem dX9_isDominated_92 : decode cX9_isDominated 92 = .ok (.imul, 1) := by decide +kernel
theorem dX9_isDominated_93 : decode cX9_isDominated 93 = .ok (.iload_n 1, 1) := by decide +kernel
theorem dX9_isDominated_94 : decode cX9_isDominated 94 = .ok (.ifCond .ne 14, 3) := by decide +kernel
theorem dX9_isDominated_97 : decode cX9_isDominated 97 = .ok (.bipush 6, 2) := by decide +kernel
theorem dX9_isDominated_99 : decode cX9_isDominated 99 = .ok (.iload 5, 2) := by decide +kernel
theorem dX9_isDominated_101 : decode cX9_isDominated 101 = .ok (.imul, 1) := by decide +kernel
theorem dX9_isDominated_102 : decode cX9_isDominated 102 = .ok (.iload 7, 2) := by decide +kernel
theorem dX9_isDominated_104 : decode cX9_isDominated 104 = .ok (.iadd, 1) := by decide +kernel
theorem dX9_isDominated_105 : decode cX9_isDominated 105 = .ok (.goto 11, 3) := by decide +kernel
theorem dX9_isDominated_108 : decode cX9_isDominated 108 = .ok (.bipush 6, 2) := by decide +kernel
theorem dX9_isDominated_110 : decode cX9_isDominated 110 = .ok (.iload 7, 2) := by decide +kernel
theorem dX9_isDominated_112 : decode cX9_isDominated 112 = .ok (.imul, 1) := by decide +kernel
theorem dX9_isDominated_113 : decode cX9_isDominated 113 = .ok (.iload 5, 2) := by decide +kernel
theorem dX9_isDominated_115 : decode cX9_isDominated 115 = .ok (.iadd, 1) := by decide +kernel
theorem dX9_isDominated_116 : decode cX9_isDominated 116 = .ok (.iadd, 1) := by decide +kernel
theorem dX9_isDominated_117 : decode cX9_isDominated 117 = .ok (.laload, 1) := by decide +kernel
theorem dX9_isDominated_118 : decode cX9_isDominated 118 = .ok (.lstore 8, 2) := by decide +kernel
theorem dX9_isDominated_120 : decode cX9_isDominated 120 = .ok (.aload_n 0, 1) := by decide +kernel
theorem dX9_isDominated_121 : decode cX9_isDominated 121 = .ok (.getfield 59, 3) := by decide +kernel
theorem dX9_isDominated_124 : decode cX9_isDominated 124 = .ok (.bipush 36, 2) := by decide +kernel
theorem dX9_isDominated_126 : decode cX9_isDominated 126 = .ok (.iload_n 1, 1) := by decide +kernel
theorem dX9_isDominated_127 : decode cX9_isDominated 127 = .ok (.imul, 1) := by decide +kernel
theorem dX9_isDominated_128 : decode cX9_isDominated 128 = .ok (.iload_n 1, 1) := by decide +kernel
theorem dX9_isDominated_129 : decode cX9_isDominated 129 = .ok (.ifCond .ne 13, 3) := by decide +kernel
theorem dX9_isDominated_132 : decode cX9_isDominated 132 = .ok (.bipush 6, 2) := by decide +kernel
theorem dX9_isDominated_134 : decode cX9_isDominated 134 = .ok (.iload_n 2, 1) := by decide +kernel
theorem dX9_isDominated_135 : decode cX9_isDominated 135 = .ok (.imul, 1) := by decide +kernel
theorem dX9_isDominated_136 : decode cX9_isDominated 136 = .ok (.iload 7, 2) := by decide +kernel
theorem dX9_isDominated_138 : decode cX9_isDominated 138 = .ok (.iadd, 1) := by decide +kernel
theorem dX9_isDominated_139 : decode cX9_isDominated 139 = .ok (.goto 10, 3) := by decide +kernel
theorem dX9_isDominated_142 : decode cX9_isDominated 142 = .ok (.bipush 6, 2) := by decide +kernel
theorem dX9_isDominated_144 : decode cX9_isDominated 144 = .ok (.iload 7, 2) := by decide +kernel
theorem dX9_isDominated_146 : decode cX9_isDominated 146 = .ok (.imul, 1) := by decide +kernel
theorem dX9_isDominated_147 : decode cX9_isDominated 147 = .ok (.iload_n 2, 1) := by decide +kernel
theorem dX9_isDominated_148 : decode cX9_isDominated 148 = .ok (.iadd, 1) := by decide +kernel
theorem dX9_isDominated_149 : decode cX9_isDominated 149 = .ok (.iadd, 1) := by decide +kernel
theorem dX9_isDominated_150 : decode cX9_isDominated 150 = .ok (.laload, 1) := by decide +kernel
theorem dX9_isDominated_151 : decode cX9_isDominated 151 = .ok (.lstore 10, 2) := by decide +kernel
theorem dX9_isDominated_153 : decode cX9_isDominated 153 = .ok (.aload_n 0, 1) := by decide +kernel
theorem dX9_isDominated_154 : decode cX9_isDominated 154 = .ok (.getfield 51, 3) := by decide +kernel
theorem dX9_isDominated_157 : decode cX9_isDominated 157 = .ok (.bipush 6, 2) := by decide +kernel
theorem dX9_isDominated_159 : decode cX9_isDominated 159 = .ok (.iconst 1, 1) := by decide +kernel
theorem dX9_isDominated_160 : decode cX9_isDominated 160 = .ok (.iload_n 1, 1) := by decide +kernel
theorem dX9_isDominated_161 : decode cX9_isDominated 161 = .ok (.isub, 1) := by decide +kernel
theorem dX9_isDominated_162 : decode cX9_isDominated 162 = .ok (.imul, 1) := by decide +kernel
theorem dX9_isDominated_163 : decode cX9_isDominated 163 = .ok (.iload 7, 2) := by decide +kernel
theorem dX9_isDominated_165 : decode cX9_isDominated 165 = .ok (.iadd, 1) := by decide +kernel
theorem dX9_isDominated_166 : decode cX9_isDominated 166 = .ok (.baload, 1) := by decide +kernel
theorem dX9_isDominated_167 : decode cX9_isDominated 167 = .ok (.ifCond .eq 11, 3) := by decide +kernel
theorem dX9_isDominated_170 : decode cX9_isDominated 170 = .ok (.lload 8, 2) := by decide +kernel
theorem dX9_isDominated_172 : decode cX9_isDominated 172 = .ok (.lload 10, 2) := by decide +kernel
theorem dX9_isDominated_174 : decode cX9_isDominated 174 = .ok (.lcmp, 1) := by decide +kernel
theorem dX9_isDominated_175 : decode cX9_isDominated 175 = .ok (.ifCond .le 7, 3) := by decide +kernel
theorem dX9_isDominated_178 : decode cX9_isDominated 178 = .ok (.iconst 1, 1) := by decide +kernel
theorem dX9_isDominated_179 : decode cX9_isDominated 179 = .ok (.goto 4, 3) := by decide +kernel
theorem dX9_isDominated_182 : decode cX9_isDominated 182 = .ok (.iconst 0, 1) := by decide +kernel
theorem dX9_isDominated_183 : decode cX9_isDominated 183 = .ok (.istore 6, 2) := by decide +kernel
theorem dX9_isDominated_185 : decode cX9_isDominated 185 = .ok (.iinc 7 1, 3) := by decide +kernel
theorem dX9_isDominated_188 : decode cX9_isDominated 188 = .ok (.goto (-115), 3) := by decide +kernel
theorem dX9_isDominated_191 : decode cX9_isDominated 191 = .ok (.iload 6, 2) := by decide +kernel
theorem dX9_isDominated_193 : decode cX9_isDominated 193 = .ok (.ifCond .eq 5, 3) := by decide +kernel
theorem dX9_isDominated_196 : decode cX9_isDominated 196 = .ok (.iconst 1, 1) := by decide +kernel
theorem dX9_isDominated_197 : decode cX9_isDominated 197 = .ok (.ireturn, 1) := by decide +kernel
theorem dX9_isDominated_198 : decode cX9_isDominated 198 = .ok (.iinc 5 1, 3) := by decide +kernel
theorem dX9_isDominated_201 : decode cX9_isDominated 201 = .ok (.goto (-165), 3) := by decide +kernel
theorem dX9_isDominated_204 : decode cX9_isDominated 204 = .ok (.iconst 0, 1) := by decide +kernel
theorem dX9_isDominated_205 : decode cX9_isDominated 205 = .ok (.ireturn, 1) := by decide +kernel
theorem dX9_round_0 : decode cX9_round 0 = .ok (.aload_n 0, 1) := by decide +kernel
theorem dX9_round_1 : decode cX9_round 1 = .ok (.aload_n 0, 1) := by decide +kernel
theorem dX9_round_2 : decode cX9_round 2 = .ok (.getfield 120, 3) := by decide +kernel
theorem dX9_round_5 : decode cX9_round 5 = .ok (.ifCond .ne 7, 3) := by decide +kernel
theorem dX9_round_8 : decode cX9_round 8 = .ok (.iconst 1, 1) := by decide +kernel
theorem dX9_round_9 : decode cX9_round 9 = .ok (.goto 4, 3) := by decide +kernel
theorem dX9_round_12 : decode cX9_round 12 = .ok (.iconst 0, 1) := by decide +kernel
theorem dX9_round_13 : decode cX9_round 13 = .ok (.putfield 84, 3) := by decide +kernel
theorem dX9_round_16 : decode cX9_round 16 = .ok (.aload_n 0, 1) := by decide +kernel
theorem dX9_round_17 : decode cX9_round 17 = .ok (.getfield 84, 3) := by decide +kernel
theorem dX9_round_20 : decode cX9_round 20 = .ok (.ifCond .le 5, 3) := by decide +kernel
theorem dX9_round_23 : decode cX9_round 23 = .ok (.iconst 0, 1) := by decide +kernel
theorem dX9_round_24 : decode cX9_round 24 = .ok (.ireturn, 1) := by decide +kernel
theorem dX9_round_25 : decode cX9_round 25 = .ok (.iconst 0, 1) := by decide +kernel
theorem dX9_round_26 : decode cX9_round 26 = .ok (.istore_n 1, 1) := by decide +kernel
theorem dX9_round_27 : decode cX9_round 27 = .ok (.iconst 0, 1) := by decide +kernel
theorem dX9_round_28 : decode cX9_round 28 = .ok (.istore_n 2, 1) := by decide +kernel
theorem dX9_round_29 : decode cX9_round 29 = .ok (.iload_n 2, 1) := by decide +kernel
theorem dX9_round_30 : decode cX9_round 30 = .ok (.bipush 12, 2) := by decide +kernel
theorem dX9_round_32 : decode cX9_round 32 = .ok (.if_icmp .ge 59, 3) := by decide +kernel
theorem dX9_round_35 : decode cX9_round 35 = .ok (.aload_n 0, 1) := by decide +kernel
theorem dX9_round_36 : decode cX9_round 36 = .ok (.getfield 77, 3) := by decide +kernel
theorem dX9_round_39 : decode cX9_round 39 = .ok (.iload_n 2, 1) := by decide +kernel
theorem dX9_round_40 : decode cX9_round 40 = .ok (.aload_n 0, 1) := by decide +kernel
theorem dX9_round_41 : decode cX9_round 41 = .ok (.iload_n 2, 1) := by decide +kernel
theorem dX9_round_42 : decode cX9_round 42 = .ok (.bipush 6, 2) := by decide +kernel
theorem dX9_round_44 : decode cX9_round 44 = .ok (.idiv, 1) := by decide +kernel
theorem dX9_round_45 : decode cX9_round 45 = .ok (.iload_n 2, 1) := by decide +kernel
theorem dX9_round_46 : decode cX9_round 46 = .ok (.bipush 6, 2) := by decide +kernel
theorem dX9_round_48 : decode cX9_round 48 = .ok (.irem, 1) := by decide +kernel
theorem dX9_round_49 : decode cX9_round 49 = .ok (.invokevirtual 176, 3) := by decide +kernel
theorem dX9_round_52 : decode cX9_round 52 = .ok (.ifCond .eq 31, 3) := by decide +kernel
theorem dX9_round_55 : decode cX9_round 55 = .ok (.aload_n 0, 1) := by decide +kernel
theorem dX9_round_56 : decode cX9_round 56 = .ok (.getfield 51, 3) := by decide +kernel
theorem dX9_round_59 : decode cX9_round 59 = .ok (.iload_n 2, 1) := by decide +kernel
theorem dX9_round_60 : decode cX9_round 60 = .ok (.baload, 1) := by decide +kernel
theorem dX9_round_61 : decode cX9_round 61 = .ok (.ifCond .eq 22, 3) := by decide +kernel
theorem dX9_round_64 : decode cX9_round 64 = .ok (.aload_n 0, 1) := by decide +kernel
theorem dX9_round_65 : decode cX9_round 65 = .ok (.iload_n 2, 1) := by decide +kernel
theorem dX9_round_66 : decode cX9_round 66 = .ok (.bipush 6, 2) := by decide +kernel
theorem dX9_round_68 : decode cX9_round 68 = .ok (.idiv, 1) := by decide +kernel
theorem dX9_round_69 : decode cX9_round 69 = .ok (.iload_n 2, 1) := by decide +kernel
theorem dX9_round_70 : decode cX9_round 70 = .ok (.bipush 6, 2) := by decide +kernel
theorem dX9_round_72 : decode cX9_round 72 = .ok (.irem, 1) := by decide +kernel
theorem dX9_round_73 : decode cX9_round 73 = .ok (.invokevirtual 226, 3) := by decide +kernel
theorem dX9_round_76 : decode cX9_round 76 = .ok (.ifCond .eq 7, 3) := by decide +kernel
theorem dX9_round_79 : decode cX9_round 79 = .ok (.iconst 1, 1) := by decide +kernel
theorem dX9_round_80 : decode cX9_round 80 = .ok (.goto 4, 3) := by decide +kernel
theorem dX9_round_83 : decode cX9_round 83 = .ok (.iconst 0, 1) := by decide +kernel
theorem dX9_round_84 : decode cX9_round 84 = .ok (.bastore, 1) := by decide +kernel
theorem dX9_round_85 : decode cX9_round 85 = .ok (.iinc 2 1, 3) := by decide +kernel
theorem dX9_round_88 : decode cX9_round 88 = .ok (.goto (-59), 3) := by decide +kernel
theorem dX9_round_91 : decode cX9_round 91 = .ok (.iconst 0, 1) := by decide +kernel
theorem dX9_round_92 : decode cX9_round 92 = .ok (.istore_n 2, 1) := by decide +kernel
theorem dX9_round_93 : decode cX9_round 93 = .ok (.iload_n 2, 1) := by decide +kernel
theorem dX9_round_94 : decode cX9_round 94 = .ok (.bipush 12, 2) := by decide +kernel
theorem dX9_round_96 : decode cX9_round 96 = .ok (.if_icmp .ge 55, 3) := by decide +kernel
theorem dX9_round_99 : decode cX9_round 99 = .ok (.aload_n 0, 1) := by decide +kernel
theorem dX9_round_100 : decode cX9_round 100 = .ok (.getfield 51, 3) := by decide +kernel
theorem dX9_round_103 : decode cX9_round 103 = .ok (.iload_n 2, 1) := by decide +kernel
theorem dX9_round_104 : decode cX9_round 104 = .ok (.aload_n 0, 1) := by decide +kernel
theorem dX9_round_105 : decode cX9_round 105 = .ok (.getfield 51, 3) := by decide +kernel
theorem dX9_round_108 : decode cX9_round 108 = .ok (.iload_n 2, 1) := by decide +kernel
theorem dX9_round_109 : decode cX9_round 109 = .ok (.baload, 1) := by decide +kernel
theorem dX9_round_110 : decode cX9_round 110 = .ok (.ifCond .eq 16, 3) := by decide +kernel
theorem dX9_round_113 : decode cX9_round 113 = .ok (.aload_n 0, 1) := by decide +kernel
theorem dX9_round_114 : decode cX9_round 114 = .ok (.getfield 77, 3) := by decide +kernel
theorem dX9_round_117 : decode cX9_round 117 = .ok (.iload_n 2, 1) := by decide +kernel
theorem dX9_round_118 : decode cX9_round 118 = .ok (.baload, 1) := by decide +kernel
theorem dX9_round_119 : decode cX9_round 119 = .ok (.ifCond .ne 7, 3) := by decide +kernel
theorem dX9_round_122 : decode cX9_round 122 = .ok (.iconst 1, 1) := by decide +kernel
theorem dX9_round_123 : decode cX9_round 123 = .ok (.goto 4, 3) := by decide +kernel
theorem dX9_round_126 : decode cX9_round 126 = .ok (.iconst 0, 1) := by decide +kernel
theorem dX9_round_127 : decode cX9_round 127 = .ok (.bastore, 1) := by decide +kernel
theorem dX9_round_128 : decode cX9_round 128 = .ok (.iload_n 1, 1) := by decide +kernel
theorem dX9_round_129 : decode cX9_round 129 = .ok (.aload_n 0, 1) := by decide +kernel
theorem dX9_round_130 : decode cX9_round 130 = .ok (.getfield 77, 3) := by decide +kernel
theorem dX9_round_133 : decode cX9_round 133 = .ok (.iload_n 2, 1) := by decide +kernel
theorem dX9_round_134 : decode cX9_round 134 = .ok (.baload, 1) := by decide +kernel
theorem dX9_round_135 : decode cX9_round 135 = .ok (.ifCond .eq 7, 3) := by decide +kernel
theorem dX9_round_138 : decode cX9_round 138 = .ok (.iconst 1, 1) := by decide +kernel
theorem dX9_round_139 : decode cX9_round 139 = .ok (.goto 4, 3) := by decide +kernel
theorem dX9_round_142 : decode cX9_round 142 = .ok (.iconst 0, 1) := by decide +kernel
theorem dX9_round_143 : decode cX9_round 143 = .ok (.iadd, 1) := by decide +kernel
theorem dX9_round_144 : decode cX9_round 144 = .ok (.istore_n 1, 1) := by decide +kernel
theorem dX9_round_145 : decode cX9_round 145 = .ok (.iinc 2 1, 3) := by decide +kernel
theorem dX9_round_148 : decode cX9_round 148 = .ok (.goto (-55), 3) := by decide +kernel
theorem dX9_round_151 : decode cX9_round 151 = .ok (.iload_n 1, 1) := by decide +kernel
theorem dX9_round_152 : decode cX9_round 152 = .ok (.ireturn, 1) := by decide +kernel
theorem dX9_isThere_0 : decode cX9_isThere 0 = .ok (.aload_n 0, 1) := by decide +kernel
theorem dX9_isThere_1 : decode cX9_isThere 1 = .ok (.aload_n 0, 1) := by decide +kernel
theorem dX9_isThere_2 : decode cX9_isThere 2 = .ok (.getfield 120, 3) := by decide +kernel
theorem dX9_isThere_5 : decode cX9_isThere 5 = .ok (.ifCond .ne 7, 3) := by decide +kernel
theorem dX9_isThere_8 : decode cX9_isThere 8 = .ok (.iconst 1, 1) := by decide +kernel
theorem dX9_isThere_9 : decode cX9_isThere 9 = .ok (.goto 17, 3) := by decide +kernel
theorem dX9_isThere_12 : decode cX9_isThere 12 = .ok (.aload_n 0, 1) := by decide +kernel
theorem dX9_isThere_13 : decode cX9_isThere 13 = .ok (.iload_n 1, 1) := by decide +kernel
theorem dX9_isThere_14 : decode cX9_isThere 14 = .ok (.iload_n 2, 1) := by decide +kernel
theorem dX9_isThere_15 : decode cX9_isThere 15 = .ok (.invokevirtual 176, 3) := by decide +kernel
theorem dX9_isThere_18 : decode cX9_isThere 18 = .ok (.ifCond .ne 7, 3) := by decide +kernel
theorem dX9_isThere_21 : decode cX9_isThere 21 = .ok (.iconst 2, 1) := by decide +kernel
theorem dX9_isThere_22 : decode cX9_isThere 22 = .ok (.goto 4, 3) := by decide +kernel
theorem dX9_isThere_25 : decode cX9_isThere 25 = .ok (.iconst 0, 1) := by decide +kernel
theorem dX9_isThere_26 : decode cX9_isThere 26 = .ok (.putfield 84, 3) := by decide +kernel
theorem dX9_isThere_29 : decode cX9_isThere 29 = .ok (.aload_n 0, 1) := by decide +kernel
theorem dX9_isThere_30 : decode cX9_isThere 30 = .ok (.getfield 84, 3) := by decide +kernel
theorem dX9_isThere_33 : decode cX9_isThere 33 = .ok (.ifCond .ne 21, 3) := by decide +kernel
theorem dX9_isThere_36 : decode cX9_isThere 36 = .ok (.aload_n 0, 1) := by decide +kernel
theorem dX9_isThere_37 : decode cX9_isThere 37 = .ok (.getfield 51, 3) := by decide +kernel
theorem dX9_isThere_40 : decode cX9_isThere 40 = .ok (.bipush 6, 2) := by decide +kernel
theorem dX9_isThere_42 : decode cX9_isThere 42 = .ok (.iload_n 1, 1) := by decide +kernel
theorem dX9_isThere_43 : decode cX9_isThere 43 = .ok (.imul, 1) := by decide +kernel
theorem dX9_isThere_44 : decode cX9_isThere 44 = .ok (.iload_n 2, 1) := by decide +kernel
theorem dX9_isThere_45 : decode cX9_isThere 45 = .ok (.iadd, 1) := by decide +kernel
theorem dX9_isThere_46 : decode cX9_isThere 46 = .ok (.baload, 1) := by decide +kernel
theorem dX9_isThere_47 : decode cX9_isThere 47 = .ok (.ifCond .eq 7, 3) := by decide +kernel
theorem dX9_isThere_50 : decode cX9_isThere 50 = .ok (.iconst 1, 1) := by decide +kernel
theorem dX9_isThere_51 : decode cX9_isThere 51 = .ok (.goto 4, 3) := by decide +kernel
theorem dX9_isThere_54 : decode cX9_isThere 54 = .ok (.iconst 0, 1) := by decide +kernel
theorem dX9_isThere_55 : decode cX9_isThere 55 = .ok (.ireturn, 1) := by decide +kernel
theorem dX9_part_0 : decode cX9_part 0 = .ok (.aload_n 0, 1) := by decide +kernel
theorem dX9_part_1 : decode cX9_part 1 = .ok (.iload_n 2, 1) := by decide +kernel
theorem dX9_part_2 : decode cX9_part 2 = .ok (.ifCond .ge 7, 3) := by decide +kernel
theorem dX9_part_5 : decode cX9_part 5 = .ok (.iconst 1, 1) := by decide +kernel
theorem dX9_part_6 : decode cX9_part 6 = .ok (.goto 4, 3) := by decide +kernel
theorem dX9_part_9 : decode cX9_part 9 = .ok (.iconst 0, 1) := by decide +kernel
theorem dX9_part_10 : decode cX9_part 10 = .ok (.putfield 84, 3) := by decide +kernel
theorem dX9_part_13 : decode cX9_part 13 = .ok (.lconst 0, 1) := by decide +kernel
theorem dX9_part_14 : decode cX9_part 14 = .ok (.lstore_n 3, 1) := by decide +kernel
theorem dX9_part_15 : decode cX9_part 15 = .ok (.iload_n 1, 1) := by decide +kernel
theorem dX9_part_16 : decode cX9_part 16 = .ok (.ifCond .eq 8, 3) := by decide +kernel
theorem dX9_part_19 : decode cX9_part 19 = .ok (.bipush 17, 2) := by decide +kernel
theorem dX9_part_21 : decode cX9_part 21 = .ok (.goto 5, 3) := by decide +kernel
theorem dX9_part_24 : decode cX9_part 24 = .ok (.bipush 16, 2) := by decide +kernel
theorem dX9_part_26 : decode cX9_part 26 = .ok (.istore 5, 2) := by decide +kernel
theorem dX9_part_28 : decode cX9_part 28 = .ok (.iconst 3, 1) := by decide +kernel
theorem dX9_part_29 : decode cX9_part 29 = .ok (.istore 6, 2) := by decide +kernel
theorem dX9_part_31 : decode cX9_part 31 = .ok (.iload 6, 2) := by decide +kernel
theorem dX9_part_33 : decode cX9_part 33 = .ok (.ifCond .lt 66, 3) := by decide +kernel
theorem dX9_part_36 : decode cX9_part 36 = .ok (.aload_n 0, 1) := by decide +kernel
theorem dX9_part_37 : decode cX9_part 37 = .ok (.getfield 84, 3) := by decide +kernel
theorem dX9_part_40 : decode cX9_part 40 = .ok (.ifCond .ne 59, 3) := by decide +kernel
theorem dX9_part_43 : decode cX9_part 43 = .ok (.iload_n 2, 1) := by decide +kernel
theorem dX9_part_44 : decode cX9_part 44 = .ok (.bipush 20, 2) := by decide +kernel
theorem dX9_part_46 : decode cX9_part 46 = .ok (.if_icmp .ge 53, 3) := by decide +kernel
theorem dX9_part_49 : decode cX9_part 49 = .ok (.iconst 4, 1) := by decide +kernel
theorem dX9_part_50 : decode cX9_part 50 = .ok (.iload_n 2, 1) := by decide +kernel
theorem dX9_part_51 : decode cX9_part 51 = .ok (.imul, 1) := by decide +kernel
theorem dX9_part_52 : decode cX9_part 52 = .ok (.iload 6, 2) := by decide +kernel
theorem dX9_part_54 : decode cX9_part 54 = .ok (.iadd, 1) := by decide +kernel
theorem dX9_part_55 : decode cX9_part 55 = .ok (.istore 7, 2) := by decide +kernel
theorem dX9_part_57 : decode cX9_part 57 = .ok (.lload_n 3, 1) := by decide +kernel
theorem dX9_part_58 : decode cX9_part 58 = .ok (.bipush 16, 2) := by decide +kernel
theorem dX9_part_60 : decode cX9_part 60 = .ok (.lshl, 1) := by decide +kernel
theorem dX9_part_61 : decode cX9_part 61 = .ok (.iload 7, 2) := by decide +kernel
theorem dX9_part_63 : decode cX9_part 63 = .ok (.aload_n 0, 1) := by decide +kernel
theorem dX9_part_64 : decode cX9_part 64 = .ok (.getfield 14, 3) := by decide +kernel
theorem dX9_part_67 : decode cX9_part 67 = .ok (.iload 5, 2) := by decide +kernel
theorem dX9_part_69 : decode cX9_part 69 = .ok (.iaload, 1) := by decide +kernel
theorem dX9_part_70 : decode cX9_part 70 = .ok (.if_icmp .ge 19, 3) := by decide +kernel
theorem dX9_part_73 : decode cX9_part 73 = .ok (.aload_n 0, 1) := by decide +kernel
theorem dX9_part_74 : decode cX9_part 74 = .ok (.getfield 8, 3) := by decide +kernel
theorem dX9_part_77 : decode cX9_part 77 = .ok (.bipush 40, 2) := by decide +kernel
theorem dX9_part_79 : decode cX9_part 79 = .ok (.iload 5, 2) := by decide +kernel
theorem dX9_part_81 : decode cX9_part 81 = .ok (.imul, 1) := by decide +kernel
theorem dX9_part_82 : decode cX9_part 82 = .ok (.iload 7, 2) := by decide +kernel
theorem dX9_part_84 : decode cX9_part 84 = .ok (.iadd, 1) := by decide +kernel
theorem dX9_part_85 : decode cX9_part 85 = .ok (.iaload, 1) := by decide +kernel
theorem dX9_part_86 : decode cX9_part 86 = .ok (.goto 4, 3) := by decide +kernel
theorem dX9_part_89 : decode cX9_part 89 = .ok (.iconst 0, 1) := by decide +kernel
theorem dX9_part_90 : decode cX9_part 90 = .ok (.i2l, 1) := by decide +kernel
theorem dX9_part_91 : decode cX9_part 91 = .ok (.lor, 1) := by decide +kernel
theorem dX9_part_92 : decode cX9_part 92 = .ok (.lstore_n 3, 1) := by decide +kernel
theorem dX9_part_93 : decode cX9_part 93 = .ok (.iinc 6 (-1), 3) := by decide +kernel
theorem dX9_part_96 : decode cX9_part 96 = .ok (.goto (-65), 3) := by decide +kernel
theorem dX9_part_99 : decode cX9_part 99 = .ok (.lload_n 3, 1) := by decide +kernel
theorem dX9_part_100 : decode cX9_part 100 = .ok (.lreturn, 1) := by decide +kernel
theorem dX9_sign_0 : decode cX9_sign 0 = .ok (.aload_n 0, 1) := by decide +kernel
theorem dX9_sign_1 : decode cX9_sign 1 = .ok (.iconst 0, 1) := by decide +kernel
theorem dX9_sign_2 : decode cX9_sign 2 = .ok (.putfield 84, 3) := by decide +kernel
theorem dX9_sign_5 : decode cX9_sign 5 = .ok (.aload_n 0, 1) := by decide +kernel
theorem dX9_sign_6 : decode cX9_sign 6 = .ok (.getfield 17, 3) := by decide +kernel
theorem dX9_sign_9 : decode cX9_sign 9 = .ok (.bipush 16, 2) := by decide +kernel
theorem dX9_sign_11 : decode cX9_sign 11 = .ok (.iaload, 1) := by decide +kernel
theorem dX9_sign_12 : decode cX9_sign 12 = .ok (.ireturn, 1) := by decide +kernel
theorem dX9_told_0 : decode cX9_told 0 = .ok (.aload_n 0, 1) := by decide +kernel
theorem dX9_told_1 : decode cX9_told 1 = .ok (.iload_n 1, 1) := by decide +kernel
theorem dX9_told_2 : decode cX9_told 2 = .ok (.iconst 0, 1) := by decide +kernel
theorem dX9_told_3 : decode cX9_told 3 = .ok (.bipush 6, 2) := by decide +kernel
theorem dX9_told_5 : decode cX9_told 5 = .ok (.invokestatic 116, 3) := by decide +kernel
theorem dX9_told_8 : decode cX9_told 8 = .ok (.ifCond .eq 7, 3) := by decide +kernel
theorem dX9_told_11 : decode cX9_told 11 = .ok (.iconst 0, 1) := by decide +kernel
theorem dX9_told_12 : decode cX9_told 12 = .ok (.goto 4, 3) := by decide +kernel
theorem dX9_told_15 : decode cX9_told 15 = .ok (.iconst 1, 1) := by decide +kernel
theorem dX9_told_16 : decode cX9_told 16 = .ok (.putfield 84, 3) := by decide +kernel
theorem dX9_told_19 : decode cX9_told 19 = .ok (.aload_n 0, 1) := by decide +kernel
theorem dX9_told_20 : decode cX9_told 20 = .ok (.getfield 84, 3) := by decide +kernel
theorem dX9_told_23 : decode cX9_told 23 = .ok (.ifCond .le 8, 3) := by decide +kernel
theorem dX9_told_26 : decode cX9_told 26 = .ok (.bipush 7, 2) := by decide +kernel
theorem dX9_told_28 : decode cX9_told 28 = .ok (.goto 4, 3) := by decide +kernel
theorem dX9_told_31 : decode cX9_told 31 = .ok (.iload_n 1, 1) := by decide +kernel
theorem dX9_told_32 : decode cX9_told 32 = .ok (.tableswitch 107 0 6 #[44, 49, 54, 70, 86, 91, 99], 44) := by decide +kernel
theorem dX9_told_76 : decode cX9_told 76 = .ok (.aload_n 0, 1) := by decide +kernel
theorem dX9_told_77 : decode cX9_told 77 = .ok (.getfield 120, 3) := by decide +kernel
theorem dX9_told_80 : decode cX9_told 80 = .ok (.ireturn, 1) := by decide +kernel
theorem dX9_told_81 : decode cX9_told 81 = .ok (.aload_n 0, 1) := by decide +kernel
theorem dX9_told_82 : decode cX9_told 82 = .ok (.getfield 123, 3) := by decide +kernel
theorem dX9_told_85 : decode cX9_told 85 = .ok (.ireturn, 1) := by decide +kernel
theorem dX9_told_86 : decode cX9_told 86 = .ok (.aload_n 0, 1) := by decide +kernel
theorem dX9_told_87 : decode cX9_told 87 = .ok (.getfield 32, 3) := by decide +kernel
theorem dX9_told_90 : decode cX9_told 90 = .ok (.ifCond .ge 7, 3) := by decide +kernel
theorem dX9_told_93 : decode cX9_told 93 = .ok (.iconst 0, 1) := by decide +kernel
theorem dX9_told_94 : decode cX9_told 94 = .ok (.goto 7, 3) := by decide +kernel
theorem dX9_told_97 : decode cX9_told 97 = .ok (.aload_n 0, 1) := by decide +kernel
theorem dX9_told_98 : decode cX9_told 98 = .ok (.getfield 129, 3) := by decide +kernel
theorem dX9_told_101 : decode cX9_told 101 = .ok (.ireturn, 1) := by decide +kernel
theorem dX9_told_102 : decode cX9_told 102 = .ok (.aload_n 0, 1) := by decide +kernel
theorem dX9_told_103 : decode cX9_told 103 = .ok (.getfield 132, 3) := by decide +kernel
theorem dX9_told_106 : decode cX9_told 106 = .ok (.ifCond .eq 10, 3) := by decide +kernel
theorem dX9_told_109 : decode cX9_told 109 = .ok (.aload_n 0, 1) := by decide +kernel
theorem dX9_told_110 : decode cX9_told 110 = .ok (.getfield 136, 3) := by decide +kernel
theorem dX9_told_113 : decode cX9_told 113 = .ok (.goto 4, 3) := by decide +kernel
theorem dX9_told_116 : decode cX9_told 116 = .ok (.iconst 0, 1) := by decide +kernel
theorem dX9_told_117 : decode cX9_told 117 = .ok (.ireturn, 1) := by decide +kernel
theorem dX9_told_118 : decode cX9_told 118 = .ok (.aload_n 0, 1) := by decide +kernel
theorem dX9_told_119 : decode cX9_told 119 = .ok (.getfield 32, 3) := by decide +kernel
theorem dX9_told_122 : decode cX9_told 122 = .ok (.ireturn, 1) := by decide +kernel
theorem dX9_told_123 : decode cX9_told 123 = .ok (.aload_n 0, 1) := by decide +kernel
theorem dX9_told_124 : decode cX9_told 124 = .ok (.getfield 55, 3) := by decide +kernel
theorem dX9_told_127 : decode cX9_told 127 = .ok (.iconst 0, 1) := by decide +kernel
theorem dX9_told_128 : decode cX9_told 128 = .ok (.laload, 1) := by decide +kernel
theorem dX9_told_129 : decode cX9_told 129 = .ok (.l2i, 1) := by decide +kernel
theorem dX9_told_130 : decode cX9_told 130 = .ok (.ireturn, 1) := by decide +kernel
theorem dX9_told_131 : decode cX9_told 131 = .ok (.aload_n 0, 1) := by decide +kernel
theorem dX9_told_132 : decode cX9_told 132 = .ok (.getfield 55, 3) := by decide +kernel
theorem dX9_told_135 : decode cX9_told 135 = .ok (.iconst 1, 1) := by decide +kernel
theorem dX9_told_136 : decode cX9_told 136 = .ok (.laload, 1) := by decide +kernel
theorem dX9_told_137 : decode cX9_told 137 = .ok (.l2i, 1) := by decide +kernel
theorem dX9_told_138 : decode cX9_told 138 = .ok (.ireturn, 1) := by decide +kernel
theorem dX9_told_139 : decode cX9_told 139 = .ok (.iconst 0, 1) := by decide +kernel
theorem dX9_told_140 : decode cX9_told 140 = .ok (.ireturn, 1) := by decide +kernel
