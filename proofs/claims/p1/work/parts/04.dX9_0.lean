theorem dX9_init_0 : decode cX9_init 0 = .ok (.aload_n 0, 1) := by decide +kernel
theorem dX9_init_1 : decode cX9_init 1 = .ok (.invokespecial 1, 3) := by decide +kernel
theorem dX9_init_4 : decode cX9_init 4 = .ok (.aload_n 0, 1) := by decide +kernel
theorem dX9_init_5 : decode cX9_init 5 = .ok (.ldc 7, 2) := by decide +kernel
theorem dX9_init_7 : decode cX9_init 7 = .ok (.newarray .int, 2) := by decide +kernel
theorem dX9_init_9 : decode cX9_init 9 = .ok (.putfield 8, 3) := by decide +kernel
theorem dX9_init_12 : decode cX9_init 12 = .ok (.aload_n 0, 1) := by decide +kernel
theorem dX9_init_13 : decode cX9_init 13 = .ok (.sipush 1740, 3) := by decide +kernel
theorem dX9_init_16 : decode cX9_init 16 = .ok (.newarray .int, 2) := by decide +kernel
theorem dX9_init_18 : decode cX9_init 18 = .ok (.putfield 14, 3) := by decide +kernel
theorem dX9_init_21 : decode cX9_init 21 = .ok (.aload_n 0, 1) := by decide +kernel
theorem dX9_init_22 : decode cX9_init 22 = .ok (.sipush 1740, 3) := by decide +kernel
theorem dX9_init_25 : decode cX9_init 25 = .ok (.newarray .int, 2) := by decide +kernel
theorem dX9_init_27 : decode cX9_init 27 = .ok (.putfield 17, 3) := by decide +kernel
theorem dX9_init_30 : decode cX9_init 30 = .ok (.aload_n 0, 1) := by decide +kernel
theorem dX9_init_31 : decode cX9_init 31 = .ok (.bipush 72, 2) := by decide +kernel
theorem dX9_init_33 : decode cX9_init 33 = .ok (.newarray .int, 2) := by decide +kernel
theorem dX9_init_35 : decode cX9_init 35 = .ok (.putfield 20, 3) := by decide +kernel
theorem dX9_init_38 : decode cX9_init 38 = .ok (.aload_n 0, 1) := by decide +kernel
theorem dX9_init_39 : decode cX9_init 39 = .ok (.bipush 72, 2) := by decide +kernel
theorem dX9_init_41 : decode cX9_init 41 = .ok (.newarray .int, 2) := by decide +kernel
theorem dX9_init_43 : decode cX9_init 43 = .ok (.putfield 23, 3) := by decide +kernel
theorem dX9_init_46 : decode cX9_init 46 = .ok (.aload_n 0, 1) := by decide +kernel
theorem dX9_init_47 : decode cX9_init 47 = .ok (.bipush 12, 2) := by decide +kernel
theorem dX9_init_49 : decode cX9_init 49 = .ok (.newarray .int, 2) := by decide +kernel
theorem dX9_init_51 : decode cX9_init 51 = .ok (.putfield 26, 3) := by decide +kernel
theorem dX9_init_54 : decode cX9_init 54 = .ok (.aload_n 0, 1) := by decide +kernel
theorem dX9_init_55 : decode cX9_init 55 = .ok (.bipush 12, 2) := by decide +kernel
theorem dX9_init_57 : decode cX9_init 57 = .ok (.newarray .int, 2) := by decide +kernel
theorem dX9_init_59 : decode cX9_init 59 = .ok (.putfield 29, 3) := by decide +kernel
theorem dX9_init_62 : decode cX9_init 62 = .ok (.aload_n 0, 1) := by decide +kernel
theorem dX9_init_63 : decode cX9_init 63 = .ok (.iconst (-1), 1) := by decide +kernel
theorem dX9_init_64 : decode cX9_init 64 = .ok (.putfield 32, 3) := by decide +kernel
theorem dX9_init_67 : decode cX9_init 67 = .ok (.aload_n 0, 1) := by decide +kernel
theorem dX9_init_68 : decode cX9_init 68 = .ok (.sipush 1000, 3) := by decide +kernel
theorem dX9_init_71 : decode cX9_init 71 = .ok (.newarray .int, 2) := by decide +kernel
theorem dX9_init_73 : decode cX9_init 73 = .ok (.putfield 36, 3) := by decide +kernel
theorem dX9_init_76 : decode cX9_init 76 = .ok (.aload_n 0, 1) := by decide +kernel
theorem dX9_init_77 : decode cX9_init 77 = .ok (.sipush 1000, 3) := by decide +kernel
theorem dX9_init_80 : decode cX9_init 80 = .ok (.newarray .int, 2) := by decide +kernel
theorem dX9_init_82 : decode cX9_init 82 = .ok (.putfield 39, 3) := by decide +kernel
theorem dX9_init_85 : decode cX9_init 85 = .ok (.aload_n 0, 1) := by decide +kernel
theorem dX9_init_86 : decode cX9_init 86 = .ok (.sipush 1000, 3) := by decide +kernel
theorem dX9_init_89 : decode cX9_init 89 = .ok (.newarray .int, 2) := by decide +kernel
theorem dX9_init_91 : decode cX9_init 91 = .ok (.putfield 42, 3) := by decide +kernel
theorem dX9_init_94 : decode cX9_init 94 = .ok (.aload_n 0, 1) := by decide +kernel
theorem dX9_init_95 : decode cX9_init 95 = .ok (.sipush 200, 3) := by decide +kernel
theorem dX9_init_98 : decode cX9_init 98 = .ok (.newarray .int, 2) := by decide +kernel
theorem dX9_init_100 : decode cX9_init 100 = .ok (.putfield 45, 3) := by decide +kernel
theorem dX9_init_103 : decode cX9_init 103 = .ok (.aload_n 0, 1) := by decide +kernel
theorem dX9_init_104 : decode cX9_init 104 = .ok (.bipush 12, 2) := by decide +kernel
theorem dX9_init_106 : decode cX9_init 106 = .ok (.newarray .int, 2) := by decide +kernel
theorem dX9_init_108 : decode cX9_init 108 = .ok (.putfield 48, 3) := by decide +kernel
theorem dX9_init_111 : decode cX9_init 111 = .ok (.aload_n 0, 1) := by decide +kernel
theorem dX9_init_112 : decode cX9_init 112 = .ok (.bipush 12, 2) := by decide +kernel
theorem dX9_init_114 : decode cX9_init 114 = .ok (.newarray .boolean, 2) := by decide +kernel
theorem dX9_init_116 : decode cX9_init 116 = .ok (.putfield 51, 3) := by decide +kernel
theorem dX9_init_119 : decode cX9_init 119 = .ok (.aload_n 0, 1) := by decide +kernel
theorem dX9_init_120 : decode cX9_init 120 = .ok (.iconst 2, 1) := by decide +kernel
theorem dX9_init_121 : decode cX9_init 121 = .ok (.newarray .long, 2) := by decide +kernel
theorem dX9_init_123 : decode cX9_init 123 = .ok (.putfield 55, 3) := by decide +kernel
theorem dX9_init_126 : decode cX9_init 126 = .ok (.aload_n 0, 1) := by decide +kernel
theorem dX9_init_127 : decode cX9_init 127 = .ok (.bipush 72, 2) := by decide +kernel
theorem dX9_init_129 : decode cX9_init 129 = .ok (.newarray .long, 2) := by decide +kernel
theorem dX9_init_131 : decode cX9_init 131 = .ok (.putfield 59, 3) := by decide +kernel
theorem dX9_init_134 : decode cX9_init 134 = .ok (.aload_n 0, 1) := by decide +kernel
theorem dX9_init_135 : decode cX9_init 135 = .ok (.iconst 2, 1) := by decide +kernel
theorem dX9_init_136 : decode cX9_init 136 = .ok (.newarray .long, 2) := by decide +kernel
theorem dX9_init_138 : decode cX9_init 138 = .ok (.putfield 62, 3) := by decide +kernel
theorem dX9_init_141 : decode cX9_init 141 = .ok (.aload_n 0, 1) := by decide +kernel
theorem dX9_init_142 : decode cX9_init 142 = .ok (.bipush 42, 2) := by decide +kernel
theorem dX9_init_144 : decode cX9_init 144 = .ok (.newarray .int, 2) := by decide +kernel
theorem dX9_init_146 : decode cX9_init 146 = .ok (.putfield 65, 3) := by decide +kernel
theorem dX9_init_149 : decode cX9_init 149 = .ok (.aload_n 0, 1) := by decide +kernel
theorem dX9_init_150 : decode cX9_init 150 = .ok (.bipush 42, 2) := by decide +kernel
theorem dX9_init_152 : decode cX9_init 152 = .ok (.newarray .int, 2) := by decide +kernel
theorem dX9_init_154 : decode cX9_init 154 = .ok (.putfield 68, 3) := by decide +kernel
theorem dX9_init_157 : decode cX9_init 157 = .ok (.aload_n 0, 1) := by decide +kernel
theorem dX9_init_158 : decode cX9_init 158 = .ok (.bipush 6, 2) := by decide +kernel
theorem dX9_init_160 : decode cX9_init 160 = .ok (.newarray .int, 2) := by decide +kernel
theorem dX9_init_162 : decode cX9_init 162 = .ok (.putfield 71, 3) := by decide +kernel
theorem dX9_init_165 : decode cX9_init 165 = .ok (.aload_n 0, 1) := by decide +kernel
theorem dX9_init_166 : decode cX9_init 166 = .ok (.bipush 6, 2) := by decide +kernel
theorem dX9_init_168 : decode cX9_init 168 = .ok (.newarray .int, 2) := by decide +kernel
theorem dX9_init_170 : decode cX9_init 170 = .ok (.putfield 74, 3) := by decide +kernel
theorem dX9_init_173 : decode cX9_init 173 = .ok (.aload_n 0, 1) := by decide +kernel
theorem dX9_init_174 : decode cX9_init 174 = .ok (.bipush 12, 2) := by decide +kernel
theorem dX9_init_176 : decode cX9_init 176 = .ok (.newarray .boolean, 2) := by decide +kernel
theorem dX9_init_178 : decode cX9_init 178 = .ok (.putfield 77, 3) := by decide +kernel
theorem dX9_init_181 : decode cX9_init 181 = .ok (.aload_n 0, 1) := by decide +kernel
theorem dX9_init_182 : decode cX9_init 182 = .ok (.getfield 55, 3) := by decide +kernel
theorem dX9_init_185 : decode cX9_init 185 = .ok (.iconst 0, 1) := by decide +kernel
theorem dX9_init_186 : decode cX9_init 186 = .ok (.lconst 0, 1) := by decide +kernel
theorem dX9_init_187 : decode cX9_init 187 = .ok (.lastore, 1) := by decide +kernel
theorem dX9_init_188 : decode cX9_init 188 = .ok (.aload_n 0, 1) := by decide +kernel
theorem dX9_init_189 : decode cX9_init 189 = .ok (.getfield 55, 3) := by decide +kernel
theorem dX9_init_192 : decode cX9_init 192 = .ok (.iconst 1, 1) := by decide +kernel
theorem dX9_init_193 : decode cX9_init 193 = .ok (.lconst 0, 1) := by decide +kernel
theorem dX9_init_194 : decode cX9_init 194 = .ok (.lastore, 1) := by decide +kernel
theorem dX9_init_195 : decode cX9_init 195 = .ok (.aload_n 0, 1) := by decide +kernel
theorem dX9_init_196 : decode cX9_init 196 = .ok (.bipush 16, 2) := by decide +kernel
theorem dX9_init_198 : decode cX9_init 198 = .ok (.lconst 0, 1) := by decide +kernel
theorem dX9_init_199 : decode cX9_init 199 = .ok (.invokevirtual 80, 3) := by decide +kernel
theorem dX9_init_202 : decode cX9_init 202 = .ok (.aload_n 0, 1) := by decide +kernel
theorem dX9_init_203 : decode cX9_init 203 = .ok (.bipush 17, 2) := by decide +kernel
theorem dX9_init_205 : decode cX9_init 205 = .ok (.lconst 1, 1) := by decide +kernel
theorem dX9_init_206 : decode cX9_init 206 = .ok (.invokevirtual 80, 3) := by decide +kernel
theorem dX9_init_209 : decode cX9_init 209 = .ok (.return_, 1) := by decide +kernel
theorem dX9_thrown_0 : decode cX9_thrown 0 = .ok (.aload_n 0, 1) := by decide +kernel
theorem dX9_thrown_1 : decode cX9_thrown 1 = .ok (.getfield 84, 3) := by decide +kernel
theorem dX9_thrown_4 : decode cX9_thrown 4 = .ok (.ireturn, 1) := by decide +kernel
theorem dX9_set_0 : decode cX9_set 0 = .ok (.lload_n 2, 1) := by decide +kernel
theorem dX9_set_1 : decode cX9_set 1 = .ok (.lconst 0, 1) := by decide +kernel
theorem dX9_set_2 : decode cX9_set 2 = .ok (.lcmp, 1) := by decide +kernel
theorem dX9_set_3 : decode cX9_set 3 = .ok (.ifCond .ge 8, 3) := by decide +kernel
theorem dX9_set_6 : decode cX9_set 6 = .ok (.lload_n 2, 1) := by decide +kernel
theorem dX9_set_7 : decode cX9_set 7 = .ok (.lneg, 1) := by decide +kernel
theorem dX9_set_8 : decode cX9_set 8 = .ok (.goto 4, 3) := by decide +kernel
theorem dX9_set_11 : decode cX9_set 11 = .ok (.lload_n 2, 1) := by decide +kernel
theorem dX9_set_12 : decode cX9_set 12 = .ok (.lstore 4, 2) := by decide +kernel
theorem dX9_set_14 : decode cX9_set 14 = .ok (.aload_n 0, 1) := by decide +kernel
theorem dX9_set_15 : decode cX9_set 15 = .ok (.getfield 17, 3) := by decide +kernel
theorem dX9_set_18 : decode cX9_set 18 = .ok (.iload_n 1, 1) := by decide +kernel
theorem dX9_set_19 : decode cX9_set 19 = .ok (.lload_n 2, 1) := by decide +kernel
theorem dX9_set_20 : decode cX9_set 20 = .ok (.lconst 0, 1) := by decide +kernel
theorem dX9_set_21 : decode cX9_set 21 = .ok (.lcmp, 1) := by decide +kernel
theorem dX9_set_22 : decode cX9_set 22 = .ok (.ifCond .ge 7, 3) := by decide +kernel
theorem dX9_set_25 : decode cX9_set 25 = .ok (.iconst (-1), 1) := by decide +kernel
theorem dX9_set_26 : decode cX9_set 26 = .ok (.goto 14, 3) := by decide +kernel
theorem dX9_set_29 : decode cX9_set 29 = .ok (.lload_n 2, 1) := by decide +kernel
theorem dX9_set_30 : decode cX9_set 30 = .ok (.lconst 0, 1) := by decide +kernel
theorem dX9_set_31 : decode cX9_set 31 = .ok (.lcmp, 1) := by decide +kernel
theorem dX9_set_32 : decode cX9_set 32 = .ok (.ifCond .le 7, 3) := by decide +kernel
theorem dX9_set_35 : decode cX9_set 35 = .ok (.iconst 1, 1) := by decide +kernel
theorem dX9_set_36 : decode cX9_set 36 = .ok (.goto 4, 3) := by decide +kernel
theorem dX9_set_39 : decode cX9_set 39 = .ok (.iconst 0, 1) := by decide +kernel
theorem dX9_set_40 : decode cX9_set 40 = .ok (.iastore, 1) := by decide +kernel
theorem dX9_set_41 : decode cX9_set 41 = .ok (.aload_n 0, 1) := by decide +kernel
theorem dX9_set_42 : decode cX9_set 42 = .ok (.getfield 14, 3) := by decide +kernel
theorem dX9_set_45 : decode cX9_set 45 = .ok (.iload_n 1, 1) := by decide +kernel
theorem dX9_set_46 : decode cX9_set 46 = .ok (.iconst 0, 1) := by decide +kernel
theorem dX9_set_47 : decode cX9_set 47 = .ok (.iastore, 1) := by decide +kernel
theorem dX9_set_48 : decode cX9_set 48 = .ok (.lload 4, 2) := by decide +kernel
theorem dX9_set_50 : decode cX9_set 50 = .ok (.lconst 0, 1) := by decide +kernel
theorem dX9_set_51 : decode cX9_set 51 = .ok (.lcmp, 1) := by decide +kernel
theorem dX9_set_52 : decode cX9_set 52 = .ok (.ifCond .le 46, 3) := by decide +kernel
theorem dX9_set_55 : decode cX9_set 55 = .ok (.aload_n 0, 1) := by decide +kernel
theorem dX9_set_56 : decode cX9_set 56 = .ok (.getfield 8, 3) := by decide +kernel
theorem dX9_set_59 : decode cX9_set 59 = .ok (.bipush 40, 2) := by decide +kernel
theorem dX9_set_61 : decode cX9_set 61 = .ok (.iload_n 1, 1) := by decide +kernel
theorem dX9_set_62 : decode cX9_set 62 = .ok (.imul, 1) := by decide +kernel
theorem dX9_set_63 : decode cX9_set 63 = .ok (.aload_n 0, 1) := by decide +kernel
theorem dX9_set_64 : decode cX9_set 64 = .ok (.getfield 14, 3) := by decide +kernel
theorem dX9_set_67 : decode cX9_set 67 = .ok (.iload_n 1, 1) := by decide +kernel
theorem dX9_set_68 : decode cX9_set 68 = .ok (.iaload, 1) := by decide +kernel
theorem dX9_set_69 : decode cX9_set 69 = .ok (.iadd, 1) := by decide +kernel
theorem dX9_set_70 : decode cX9_set 70 = .ok (.lload 4, 2) := by decide +kernel
theorem dX9_set_72 : decode cX9_set 72 = .ok (.ldc2_w 87, 3) := by decide +kernel
theorem dX9_set_75 : decode cX9_set 75 = .ok (.land, 1) := by decide +kernel
theorem dX9_set_76 : decode cX9_set 76 = .ok (.l2i, 1) := by decide +kernel
theorem dX9_set_77 : decode cX9_set 77 = .ok (.iastore, 1) := by decide +kernel
theorem dX9_set_78 : decode cX9_set 78 = .ok (.lload 4, 2) := by decide +kernel
theorem dX9_set_80 : decode cX9_set 80 = .ok (.bipush 16, 2) := by decide +kernel
theorem dX9_set_82 : decode cX9_set 82 = .ok (.lshr, 1) := by decide +kernel
theorem dX9_set_83 : decode cX9_set 83 = .ok (.lstore 4, 2) := by decide +kernel
theorem dX9_set_85 : decode cX9_set 85 = .ok (.aload_n 0, 1) := by decide +kernel
theorem dX9_set_86 : decode cX9_set 86 = .ok (.getfield 14, 3) := by decide +kernel
theorem dX9_set_89 : decode cX9_set 89 = .ok (.iload_n 1, 1) := by decide +kernel
theorem dX9_set_90 : decode cX9_set 90 = .ok (.dup2, 1) := by decide +kernel
theorem dX9_set_91 : decode cX9_set 91 = .ok (.iaload, 1) := by decide +kernel
theorem dX9_set_92 : decode cX9_set 92 = .ok (.iconst 1, 1) := by decide +kernel
theorem dX9_set_93 : decode cX9_set 93 = .ok (.iadd, 1) := by decide +kernel
theorem dX9_set_94 : decode cX9_set 94 = .ok (.iastore, 1) := by decide +kernel
theorem dX9_set_95 : decode cX9_set 95 = .ok (.goto (-47), 3) := by decide +kernel
theorem dX9_set_98 : decode cX9_set 98 = .ok (.return_, 1) := by decide +kernel
theorem dX9_copy_0 : decode cX9_copy 0 = .ok (.aload_n 0, 1) := by decide +kernel
theorem dX9_copy_1 : decode cX9_copy 1 = .ok (.getfield 17, 3) := by decide +kernel
theorem dX9_copy_4 : decode cX9_copy 4 = .ok (.iload_n 2, 1) := by decide +kernel
theorem dX9_copy_5 : decode cX9_copy 5 = .ok (.aload_n 0, 1) := by decide +kernel
theorem dX9_copy_6 : decode cX9_copy 6 = .ok (.getfield 17, 3) := by decide +kernel
theorem dX9_copy_9 : decode cX9_copy 9 = .ok (.iload_n 1, 1) := by decide +kernel
theorem dX9_copy_10 : decode cX9_copy 10 = .ok (.iaload, 1) := by decide +kernel
theorem dX9_copy_11 : decode cX9_copy 11 = .ok (.iastore, 1) := by decide +kernel
theorem dX9_copy_12 : decode cX9_copy 12 = .ok (.aload_n 0, 1) := by decide +kernel
theorem dX9_copy_13 : decode cX9_copy 13 = .ok (.getfield 14, 3) := by decide +kernel
theorem dX9_copy_16 : decode cX9_copy 16 = .ok (.iload_n 2, 1) := by decide +kernel
theorem dX9_copy_17 : decode cX9_copy 17 = .ok (.aload_n 0, 1) := by decide +kernel
theorem dX9_copy_18 : decode cX9_copy 18 = .ok (.getfield 14, 3) := by decide +kernel
theorem dX9_copy_21 : decode cX9_copy 21 = .ok (.iload_n 1, 1) := by decide +kernel
theorem dX9_copy_22 : decode cX9_copy 22 = .ok (.iaload, 1) := by decide +kernel
theorem dX9_copy_23 : decode cX9_copy 23 = .ok (.iastore, 1) := by decide +kernel
theorem dX9_copy_24 : decode cX9_copy 24 = .ok (.iconst 0, 1) := by decide +kernel
theorem dX9_copy_25 : decode cX9_copy 25 = .ok (.istore_n 3, 1) := by decide +kernel
theorem dX9_copy_26 : decode cX9_copy 26 = .ok (.iload_n 3, 1) := by decide +kernel
theorem dX9_copy_27 : decode cX9_copy 27 = .ok (.aload_n 0, 1) := by decide +kernel
theorem dX9_copy_28 : decode cX9_copy 28 = .ok (.getfield 14, 3) := by decide +kernel
theorem dX9_copy_31 : decode cX9_copy 31 = .ok (.iload_n 1, 1) := by decide +kernel
theorem dX9_copy_32 : decode cX9_copy 32 = .ok (.iaload, 1) := by decide +kernel
theorem dX9_copy_33 : decode cX9_copy 33 = .ok (.if_icmp .ge 31, 3) := by decide +kernel
theorem dX9_copy_36 : decode cX9_copy 36 = .ok (.aload_n 0, 1) := by decide +kernel
theorem dX9_copy_37 : decode cX9_copy 37 = .ok (.getfield 8, 3) := by decide +kernel
theorem dX9_copy_40 : decode cX9_copy 40 = .ok (.bipush 40, 2) := by decide +kernel
theorem dX9_copy_42 : decode cX9_copy 42 = .ok (.iload_n 2, 1) := by decide +kernel
theorem dX9_copy_43 : decode cX9_copy 43 = .ok (.imul, 1) := by decide +kernel
theorem dX9_copy_44 : decode cX9_copy 44 = .ok (.iload_n 3, 1) := by decide +kernel
theorem dX9_copy_45 : decode cX9_copy 45 = .ok (.iadd, 1) := by decide +kernel
theorem dX9_copy_46 : decode cX9_copy 46 = .ok (.aload_n 0, 1) := by decide +kernel
theorem dX9_copy_47 : decode cX9_copy 47 = .ok (.getfield 8, 3) := by decide +kernel
theorem dX9_copy_50 : decode cX9_copy 50 = .ok (.bipush 40, 2) := by decide +kernel
theorem dX9_copy_52 : decode cX9_copy 52 = .ok (.iload_n 1, 1) := by decide +kernel
theorem dX9_copy_53 : decode cX9_copy 53 = .ok (.imul, 1) := by decide +kernel
theorem dX9_copy_54 : decode cX9_copy 54 = .ok (.iload_n 3, 1) := by decide +kernel
theorem dX9_copy_55 : decode cX9_copy 55 = .ok (.iadd, 1) := by decide +kernel
theorem dX9_copy_56 : decode cX9_copy 56 = .ok (.iaload, 1) := by decide +kernel
theorem dX9_copy_57 : decode cX9_copy 57 = .ok (.iastore, 1) := by decide +kernel
theorem dX9_copy_58 : decode cX9_copy 58 = .ok (.iinc 3 1, 3) := by decide +kernel
theorem dX9_copy_61 : decode cX9_copy 61 = .ok (.goto (-35), 3) := by decide +kernel
theorem dX9_copy_64 : decode cX9_copy 64 = .ok (.return_, 1) := by decide +kernel
theorem dX9_compareSizes_0 : decode cX9_compareSizes 0 = .ok (.aload_n 0, 1) := by decide +kernel
theorem dX9_compareSizes_1 : decode cX9_compareSizes 1 = .ok (.getfield 14, 3) := by decide +kernel
theorem dX9_compareSizes_4 : decode cX9_compareSizes 4 = .ok (.iload_n 1, 1) := by decide +kernel
theorem dX9_compareSizes_5 : decode cX9_compareSizes 5 = .ok (.iaload, 1) := by decide +kernel
theorem dX9_compareSizes_6 : decode cX9_compareSizes 6 = .ok (.aload_n 0, 1) := by decide +kernel
theorem dX9_compareSizes_7 : decode cX9_compareSizes 7 = .ok (.getfield 14, 3) := by decide +kernel
theorem dX9_compareSizes_10 : decode cX9_compareSizes 10 = .ok (.iload_n 2, 1) := by decide +kernel
theorem dX9_compareSizes_11 : decode cX9_compareSizes 11 = .ok (.iaload, 1) := by decide +kernel
theorem dX9_compareSizes_12 : decode cX9_compareSizes 12 = .ok (.if_icmp .eq 24, 3) := by decide +kernel
theorem dX9_compareSizes_15 : decode cX9_compareSizes 15 = .ok (.aload_n 0, 1) := by decide +kernel
theorem dX9_compareSizes_16 : decode cX9_compareSizes 16 = .ok (.getfield 14, 3) := by decide +kernel
theorem dX9_compareSizes_19 : decode cX9_compareSizes 19 = .ok (.iload_n 1, 1) := by decide +kernel
theorem dX9_compareSizes_20 : decode cX9_compareSizes 20 = .ok (.iaload, 1) := by decide +kernel
theorem dX9_compareSizes_21 : decode cX9_compareSizes 21 = .ok (.aload_n 0, 1) := by decide +kernel
theorem dX9_compareSizes_22 : decode cX9_compareSizes 22 = .ok (.getfield 14, 3) := by decide +kernel
theorem dX9_compareSizes_25 : decode cX9_compareSizes 25 = .ok (.iload_n 2, 1) := by decide +kernel
theorem dX9_compareSizes_26 : decode cX9_compareSizes 26 = .ok (.iaload, 1) := by decide +kernel
theorem dX9_compareSizes_27 : decode cX9_compareSizes 27 = .ok (.if_icmp .ge 7, 3) := by decide +kernel
theorem dX9_compareSizes_30 : decode cX9_compareSizes 30 = .ok (.iconst (-1), 1) := by decide +kernel
theorem dX9_compareSizes_31 : decode cX9_compareSizes 31 = .ok (.goto 4, 3) := by decide +kernel
theorem dX9_compareSizes_34 : decode cX9_compareSizes 34 = .ok (.iconst 1, 1) := by decide +kernel
theorem dX9_compareSizes_35 : decode cX9_compareSizes 35 = .ok (.ireturn, 1) := by decide +kernel
theorem dX9_compareSizes_36 : decode cX9_compareSizes 36 = .ok (.aload_n 0, 1) := by decide +kernel
theorem dX9_compareSizes_37 : decode cX9_compareSizes 37 = .ok (.getfield 14, 3) := by decide +kernel
theorem dX9_compareSizes_40 : decode cX9_compareSizes 40 = .ok (.iload_n 1, 1) := by decide +kernel
theorem dX9_compareSizes_41 : decode cX9_compareSizes 41 = .ok (.iaload, 1) := by decide +kernel
theorem dX9_compareSizes_42 : decode cX9_compareSizes 42 = .ok (.iconst 1, 1) := by decide +kernel
theorem dX9_compareSizes_43 : decode cX9_compareSizes 43 = .ok (.isub, 1) := by decide +kernel
theorem dX9_compareSizes_44 : decode cX9_compareSizes 44 = .ok (.istore_n 3, 1) := by decide +kernel
theorem dX9_compareSizes_45 : decode cX9_compareSizes 45 = .ok (.iload_n 3, 1) := by decide +kernel
theorem dX9_compareSizes_46 : decode cX9_compareSizes 46 = .ok (.ifCond .lt 50, 3) := by decide +kernel
theorem dX9_compareSizes_49 : decode cX9_compareSizes 49 = .ok (.aload_n 0, 1) := by decide +kernel
theorem dX9_compareSizes_50 : decode cX9_compareSizes 50 = .ok (.getfield 8, 3) := by decide +kernel
theorem dX9_compareSizes_53 : decode cX9_compareSizes 53 = .ok (.bipush 40, 2) := by decide +kernel
theorem dX9_compareSizes_55 : decode cX9_compareSizes 55 = .ok (.iload_n 1, 1) := by decide +kernel
theorem dX9_compareSizes_56 : decode cX9_compareSizes 56 = .ok (.imul, 1) := by decide +kernel
theorem dX9_compareSizes_57 : decode cX9_compareSizes 57 = .ok (.iload_n 3, 1) := by decide +kernel
theorem dX9_compareSizes_58 : decode cX9_compareSizes 58 = .ok (.iadd, 1) := by decide +kernel
theorem dX9_compareSizes_59 : decode cX9_compareSizes 59 = .ok (.iaload, 1) := by decide +kernel
theorem dX9_compareSizes_60 : decode cX9_compareSizes 60 = .ok (.aload_n 0, 1) := by decide +kernel
theorem dX9_compareSizes_61 : decode cX9_compareSizes 61 = .ok (.getfield 8, 3) := by decide +kernel
theorem dX9_compareSizes_64 : decode cX9_compareSizes 64 = .ok (.bipush 40, 2) := by decide +kernel
theorem dX9_compareSizes_66 : decode cX9_compareSizes 66 = .ok (.iload_n 2, 1) := by decide +kernel
theorem dX9_compareSizes_67 : decode cX9_compareSizes 67 = .ok (.imul, 1) := by decide +kernel
theorem dX9_compareSizes_68 : decode cX9_compareSizes 68 = .ok (.iload_n 3, 1) := by decide +kernel
theorem dX9_compareSizes_69 : decode cX9_compareSizes 69 = .ok (.iadd, 1) := by decide +kernel
theorem dX9_compareSizes_70 : decode cX9_compareSizes 70 = .ok (.iaload, 1) := by decide +kernel
theorem dX9_compareSizes_71 : decode cX9_compareSizes 71 = .ok (.isub, 1) := by decide +kernel
theorem dX9_compareSizes_72 : decode cX9_compareSizes 72 = .ok (.istore 4, 2) := by decide +kernel
theorem dX9_compareSizes_74 : decode cX9_compareSizes 74 = .ok (.iload 4, 2) := by decide +kernel
theorem dX9_compareSizes_76 : decode cX9_compareSizes 76 = .ok (.ifCond .eq 14, 3) := by decide +kernel
theorem dX9_compareSizes_79 : decode cX9_compareSizes 79 = .ok (.iload 4, 2) := by decide +kernel
theorem dX9_compareSizes_81 : decode cX9_compareSizes 81 = .ok (.ifCond .ge 7, 3) := by decide +kernel
theorem dX9_compareSizes_84 : decode cX9_compareSizes 84 = .ok (.iconst (-1), 1) := by decide +kernel
theorem dX9_compareSizes_85 : decode cX9_compareSizes 85 = .ok (.goto 4, 3) := by decide +kernel
theorem dX9_compareSizes_88 : decode cX9_compareSizes 88 = .ok (.iconst 1, 1) := by decide +kernel
theorem dX9_compareSizes_89 : decode cX9_compareSizes 89 = .ok (.ireturn, 1) := by decide +kernel
theorem dX9_compareSizes_90 : decode cX9_compareSizes 90 = .ok (.iinc 3 (-1), 3) := by decide +kernel
theorem dX9_compareSizes_93 : decode cX9_compareSizes 93 = .ok (.goto (-48), 3) := by decide +kernel
theorem dX9_compareSizes_96 : decode cX9_compareSizes 96 = .ok (.iconst 0, 1) := by decide +kernel
theorem dX9_compareSizes_97 : decode cX9_compareSizes 97 = .ok (.ireturn, 1) := by decide +kernel
theorem dX9_compare_0 : decode cX9_compare 0 = .ok (.aload_n 0, 1) := by decide +kernel
theorem dX9_compare_1 : decode cX9_compare 1 = .ok (.getfield 17, 3) := by decide +kernel
theorem dX9_compare_4 : decode cX9_compare 4 = .ok (.iload_n 1, 1) := by decide +kernel
theorem dX9_compare_5 : decode cX9_compare 5 = .ok (.iaload, 1) := by decide +kernel
theorem dX9_compare_6 : decode cX9_compare 6 = .ok (.aload_n 0, 1) := by decide +kernel
theorem dX9_compare_7 : decode cX9_compare 7 = .ok (.getfield 17, 3) := by decide +kernel
theorem dX9_compare_10 : decode cX9_compare 10 = .ok (.iload_n 2, 1) := by decide +kernel
theorem dX9_compare_11 : decode cX9_compare 11 = .ok (.iaload, 1) := by decide +kernel
theorem dX9_compare_12 : decode cX9_compare 12 = .ok (.if_icmp .eq 24, 3) := by decide +kernel
theorem dX9_compare_15 : decode cX9_compare 15 = .ok (.aload_n 0, 1) := by decide +kernel
theorem dX9_compare_16 : decode cX9_compare 16 = .ok (.getfield 17, 3) := by decide +kernel
theorem dX9_compare_19 : decode cX9_compare 19 = .ok (.iload_n 1, 1) := by decide +kernel
theorem dX9_compare_20 : decode cX9_compare 20 = .ok (.iaload, 1) := by decide +kernel
theorem dX9_compare_21 : decode cX9_compare 21 = .ok (.aload_n 0, 1) := by decide +kernel
theorem dX9_compare_22 : decode cX9_compare 22 = .ok (.getfield 17, 3) := by decide +kernel
theorem dX9_compare_25 : decode cX9_compare 25 = .ok (.iload_n 2, 1) := by decide +kernel
theorem dX9_compare_26 : decode cX9_compare 26 = .ok (.iaload, 1) := by decide +kernel
theorem dX9_compare_27 : decode cX9_compare 27 = .ok (.if_icmp .ge 7, 3) := by decide +kernel
theorem dX9_compare_30 : decode cX9_compare 30 = .ok (.iconst (-1), 1) := by decide +kernel
theorem dX9_compare_31 : decode cX9_compare 31 = .ok (.goto 4, 3) := by decide +kernel
theorem dX9_compare_34 : decode cX9_compare 34 = .ok (.iconst 1, 1) := by decide +kernel
theorem dX9_compare_35 : decode cX9_compare 35 = .ok (.ireturn, 1) := by decide +kernel
theorem dX9_compare_36 : decode cX9_compare 36 = .ok (.aload_n 0, 1) := by decide +kernel
theorem dX9_compare_37 : decode cX9_compare 37 = .ok (.getfield 17, 3) := by decide +kernel
theorem dX9_compare_40 : decode cX9_compare 40 = .ok (.iload_n 1, 1) := by decide +kernel
theorem dX9_compare_41 : decode cX9_compare 41 = .ok (.iaload, 1) := by decide +kernel
theorem dX9_compare_42 : decode cX9_compare 42 = .ok (.ifCond .ne 7, 3) := by decide +kernel
theorem dX9_compare_45 : decode cX9_compare 45 = .ok (.iconst 0, 1) := by decide +kernel
theorem dX9_compare_46 : decode cX9_compare 46 = .ok (.goto 16, 3) := by decide +kernel
theorem dX9_compare_49 : decode cX9_compare 49 = .ok (.aload_n 0, 1) := by decide +kernel
theorem dX9_compare_50 : decode cX9_compare 50 = .ok (.getfield 17, 3) := by decide +kernel
theorem dX9_compare_53 : decode cX9_compare 53 = .ok (.iload_n 1, 1) := by decide +kernel
theorem dX9_compare_54 : decode cX9_compare 54 = .ok (.iaload, 1) := by decide +kernel
theorem dX9_compare_55 : decode cX9_compare 55 = .ok (.aload_n 0, 1) := by decide +kernel
theorem dX9_compare_56 : decode cX9_compare 56 = .ok (.iload_n 1, 1) := by decide +kernel
theorem dX9_compare_57 : decode cX9_compare 57 = .ok (.iload_n 2, 1) := by decide +kernel
theorem dX9_compare_58 : decode cX9_compare 58 = .ok (.invokevirtual 89, 3) := by decide +kernel
theorem dX9_compare_61 : decode cX9_compare 61 = .ok (.imul, 1) := by decide +kernel
theorem dX9_compare_62 : decode cX9_compare 62 = .ok (.ireturn, 1) := by decide +kernel
theorem dX9_trim_0 : decode cX9_trim 0 = .ok (.iload_n 2, 1) := by decide +kernel
theorem dX9_trim_1 : decode cX9_trim 1 = .ok (.istore_n 3, 1) := by decide +kernel
theorem dX9_trim_2 : decode cX9_trim 2 = .ok (.iload_n 3, 1) := by decide +kernel
theorem dX9_trim_3 : decode cX9_trim 3 = .ok (.ifCond .le 25, 3) := by decide +kernel
theorem dX9_trim_6 : decode cX9_trim 6 = .ok (.aload_n 0, 1) := by decide +kernel
theorem dX9_trim_7 : decode cX9_trim 7 = .ok (.getfield 8, 3) := by decide +kernel
theorem dX9_trim_10 : decode cX9_trim 10 = .ok (.bipush 40, 2) := by decide +kernel
theorem dX9_trim_12 : decode cX9_trim 12 = .ok (.iload_n 1, 1) := by decide +kernel
theorem dX9_trim_13 : decode cX9_trim 13 = .ok (.imul, 1) := by decide +kernel
theorem dX9_trim_14 : decode cX9_trim 14 = .ok (.iload_n 3, 1) := by decide +kernel
theorem dX9_trim_15 : decode cX9_trim 15 = .ok (.iadd, 1) := by decide +kernel
theorem dX9_trim_16 : decode cX9_trim 16 = .ok (.iconst 1, 1) := by decide +kernel
theorem dX9_trim_17 : decode cX9_trim 17 = .ok (.isub, 1) := by decide +kernel
theorem dX9_trim_18 : decode cX9_trim 18 = .ok (.iaload, 1) := by decide +kernel
theorem dX9_trim_19 : decode cX9_trim 19 = .ok (.ifCond .ne 9, 3) := by decide +kernel
theorem dX9_trim_22 : decode cX9_trim 22 = .ok (.iinc 3 (-1), 3) := by decide +kernel
theorem dX9_trim_25 : decode cX9_trim 25 = .ok (.goto (-23), 3) := by decide +kernel
theorem dX9_trim_28 : decode cX9_trim 28 = .ok (.aload_n 0, 1) := by decide +kernel
theorem dX9_trim_29 : decode cX9_trim 29 = .ok (.getfield 14, 3) := by decide +kernel
theorem dX9_trim_32 : decode cX9_trim 32 = .ok (.iload_n 1, 1) := by decide +kernel
theorem dX9_trim_33 : decode cX9_trim 33 = .ok (.iload_n 3, 1) := by decide +kernel
theorem dX9_trim_34 : decode cX9_trim 34 = .ok (.iastore, 1) := by decide +kernel
theorem dX9_trim_35 : decode cX9_trim 35 = .ok (.aload_n 0, 1) := by decide +kernel
theorem dX9_trim_36 : decode cX9_trim 36 = .ok (.getfield 17, 3) := by decide +kernel
theorem dX9_trim_39 : decode cX9_trim 39 = .ok (.iload_n 1, 1) := by decide +kernel
theorem dX9_trim_40 : decode cX9_trim 40 = .ok (.iload_n 3, 1) := by decide +kernel
theorem dX9_trim_41 : decode cX9_trim 41 = .ok (.ifCond .ne 7, 3) := by decide +kernel
theorem dX9_trim_44 : decode cX9_trim 44 = .ok (.iconst 0, 1) := by decide +kernel
theorem dX9_trim_45 : decode cX9_trim 45 = .ok (.goto 9, 3) := by decide +kernel
theorem dX9_trim_48 : decode cX9_trim 48 = .ok (.aload_n 0, 1) := by decide +kernel
theorem dX9_trim_49 : decode cX9_trim 49 = .ok (.getfield 17, 3) := by decide +kernel
theorem dX9_trim_52 : decode cX9_trim 52 = .ok (.iload_n 1, 1) := by decide +kernel
theorem dX9_trim_53 : decode cX9_trim 53 = .ok (.iaload, 1) := by decide +kernel
theorem dX9_trim_54 : decode cX9_trim 54 = .ok (.iastore, 1) := by decide +kernel
theorem dX9_trim_55 : decode cX9_trim 55 = .ok (.return_, 1) := by decide +kernel
theorem dX9_add_0 : decode cX9_add 0 = .ok (.iload_n 3, 1) := by decide +kernel
theorem dX9_add_1 : decode cX9_add 1 = .ok (.ifCond .eq 13, 3) := by decide +kernel
theorem dX9_add_4 : decode cX9_add 4 = .ok (.aload_n 0, 1) := by decide +kernel
theorem dX9_add_5 : decode cX9_add 5 = .ok (.getfield 17, 3) := by decide +kernel
theorem dX9_add_8 : decode cX9_add 8 = .ok (.iload_n 2, 1) := by decide +kernel
theorem dX9_add_9 : decode cX9_add 9 = .ok (.iaload, 1) := by decide +kernel
theorem dX9_add_10 : decode cX9_add 10 = .ok (.ineg, 1) := by decide +kernel
theorem dX9_add_11 : decode cX9_add 11 = .ok (.goto 9, 3) := by decide +kernel
theorem dX9_add_14 : decode cX9_add 14 = .ok (.aload_n 0, 1) := by decide +kernel
theorem dX9_add_15 : decode cX9_add 15 = .ok (.getfield 17, 3) := by decide +kernel
theorem dX9_add_18 : decode cX9_add 18 = .ok (.iload_n 2, 1) := by decide +kernel
theorem dX9_add_19 : decode cX9_add 19 = .ok (.iaload, 1) := by decide +kernel
theorem dX9_add_20 : decode cX9_add 20 = .ok (.istore 5, 2) := by decide +kernel
theorem dX9_add_22 : decode cX9_add 22 = .ok (.aload_n 0, 1) := by decide +kernel
theorem dX9_add_23 : decode cX9_add 23 = .ok (.getfield 17, 3) := by decide +kernel
theorem dX9_add_26 : decode cX9_add 26 = .ok (.iload_n 1, 1) := by decide +kernel
theorem dX9_add_27 : decode cX9_add 27 = .ok (.iaload, 1) := by decide +kernel
theorem dX9_add_28 : decode cX9_add 28 = .ok (.istore 6, 2) := by decide +kernel
theorem dX9_add_30 : decode cX9_add 30 = .ok (.iload 6, 2) := by decide +kernel
theorem dX9_add_32 : decode cX9_add 32 = .ok (.ifCond .eq 15, 3) := by decide +kernel
theorem dX9_add_35 : decode cX9_add 35 = .ok (.iload 5, 2) := by decide +kernel
theorem dX9_add_37 : decode cX9_add 37 = .ok (.ifCond .eq 10, 3) := by decide +kernel
theorem dX9_add_40 : decode cX9_add 40 = .ok (.iload 6, 2) := by decide +kernel
theorem dX9_add_42 : decode cX9_add 42 = .ok (.iload 5, 2) := by decide +kernel
theorem dX9_add_44 : decode cX9_add 44 = .ok (.if_icmp .ne 181, 3) := by decide +kernel
theorem dX9_add_47 : decode cX9_add 47 = .ok (.iload 6, 2) := by decide +kernel
theorem dX9_add_49 : decode cX9_add 49 = .ok (.ifCond .ne 8, 3) := by decide +kernel
theorem dX9_add_52 : decode cX9_add 52 = .ok (.iload 5, 2) := by decide +kernel
theorem dX9_add_54 : decode cX9_add 54 = .ok (.goto 5, 3) := by decide +kernel
theorem dX9_add_57 : decode cX9_add 57 = .ok (.iload 6, 2) := by decide +kernel
theorem dX9_add_59 : decode cX9_add 59 = .ok (.istore 7, 2) := by decide +kernel
theorem dX9_add_61 : decode cX9_add 61 = .ok (.aload_n 0, 1) := by decide +kernel
theorem dX9_add_62 : decode cX9_add 62 = .ok (.getfield 14, 3) := by decide +kernel
theorem dX9_add_65 : decode cX9_add 65 = .ok (.iload_n 1, 1) := by decide +kernel
theorem dX9_add_66 : decode cX9_add 66 = .ok (.iaload, 1) := by decide +kernel
theorem dX9_add_67 : decode cX9_add 67 = .ok (.aload_n 0, 1) := by decide +kernel
theorem dX9_add_68 : decode cX9_add 68 = .ok (.getfield 14, 3) := by decide +kernel
theorem dX9_add_71 : decode cX9_add 71 = .ok (.iload_n 2, 1) := by decide +kernel
theorem dX9_add_72 : decode cX9_add 72 = .ok (.iaload, 1) := by decide +kernel
theorem dX9_add_73 : decode cX9_add 73 = .ok (.if_icmp .le 12, 3) := by decide +kernel
theorem dX9_add_76 : decode cX9_add 76 = .ok (.aload_n 0, 1) := by decide +kernel
theorem dX9_add_77 : decode cX9_add 77 = .ok (.getfield 14, 3) := by decide +kernel
theorem dX9_add_80 : decode cX9_add 80 = .ok (.iload_n 1, 1) := by decide +kernel
theorem dX9_add_81 : decode cX9_add 81 = .ok (.iaload, 1) := by decide +kernel
theorem dX9_add_82 : decode cX9_add 82 = .ok (.goto 9, 3) := by decide +kernel
theorem dX9_add_85 : decode cX9_add 85 = .ok (.aload_n 0, 1) := by decide +kernel
theorem dX9_add_86 : decode cX9_add 86 = .ok (.getfield 14, 3) := by decide +kernel
theorem dX9_add_89 : decode cX9_add 89 = .ok (.iload_n 2, 1) := by decide +kernel
theorem dX9_add_90 : decode cX9_add 90 = .ok (.iaload, 1) := by decide +kernel
theorem dX9_add_91 : decode cX9_add 91 = .ok (.istore 8, 2) := by decide +kernel
theorem dX9_add_93 : decode cX9_add 93 = .ok (.aload_n 0, 1) := by decide +kernel
theorem dX9_add_94 : decode cX9_add 94 = .ok (.getfield 14, 3) := by decide +kernel
theorem dX9_add_97 : decode cX9_add 97 = .ok (.iload_n 1, 1) := by decide +kernel
theorem dX9_add_98 : decode cX9_add 98 = .ok (.iaload, 1) := by decide +kernel
theorem dX9_add_99 : decode cX9_add 99 = .ok (.istore 9, 2) := by decide +kernel
theorem dX9_add_101 : decode cX9_add 101 = .ok (.aload_n 0, 1) := by decide +kernel
theorem dX9_add_102 : decode cX9_add 102 = .ok (.getfield 14, 3) := by decide +kernel
theorem dX9_add_105 : decode cX9_add 105 = .ok (.iload_n 2, 1) := by decide +kernel
theorem dX9_add_106 : decode cX9_add 106 = .ok (.iaload, 1) := by decide +kernel
theorem dX9_add_107 : decode cX9_add 107 = .ok (.istore 10, 2) := by decide +kernel
theorem dX9_add_109 : decode cX9_add 109 = .ok (.iconst 0, 1) := by decide +kernel
theorem dX9_add_110 : decode cX9_add 110 = .ok (.istore 11, 2) := by decide +kernel
theorem dX9_add_112 : decode cX9_add 112 = .ok (.iconst 0, 1) := by decide +kernel
theorem dX9_add_113 : decode cX9_add 113 = .ok (.istore 12, 2) := by decide +kernel
theorem dX9_add_115 : decode cX9_add 115 = .ok (.iload 12, 2) := by decide +kernel
theorem dX9_add_117 : decode cX9_add 117 = .ok (.iload 8, 2) := by decide +kernel
theorem dX9_add_119 : decode cX9_add 119 = .ok (.if_icmp .gt 86, 3) := by decide +kernel
theorem dX9_add_122 : decode cX9_add 122 = .ok (.iload 12, 2) := by decide +kernel
theorem dX9_add_124 : decode cX9_add 124 = .ok (.iload 9, 2) := by decide +kernel
theorem dX9_add_126 : decode cX9_add 126 = .ok (.if_icmp .ge 18, 3) := by decide +kernel
theorem dX9_add_129 : decode cX9_add 129 = .ok (.aload_n 0, 1) := by decide +kernel
theorem dX9_add_130 : decode cX9_add 130 = .ok (.getfield 8, 3) := by decide +kernel
theorem dX9_add_133 : decode cX9_add 133 = .ok (.bipush 40, 2) := by decide +kernel
theorem dX9_add_135 : decode cX9_add 135 = .ok (.iload_n 1, 1) := by decide +kernel
theorem dX9_add_136 : decode cX9_add 136 = .ok (.imul, 1) := by decide +kernel
theorem dX9_add_137 : decode cX9_add 137 = .ok (.iload 12, 2) := by decide +kernel
theorem dX9_add_139 : decode cX9_add 139 = .ok (.iadd, 1) := by decide +kernel
theorem dX9_add_140 : decode cX9_add 140 = .ok (.iaload, 1) := by decide +kernel
theorem dX9_add_141 : decode cX9_add 141 = .ok (.goto 4, 3) := by decide +kernel
theorem dX9_add_144 : decode cX9_add 144 = .ok (.iconst 0, 1) := by decide +kernel
theorem dX9_add_145 : decode cX9_add 145 = .ok (.iload 12, 2) := by decide +kernel
theorem dX9_add_147 : decode cX9_add 147 = .ok (.iload 10, 2) := by decide +kernel
theorem dX9_add_149 : decode cX9_add 149 = .ok (.if_icmp .ge 18, 3) := by decide +kernel
theorem dX9_add_152 : decode cX9_add 152 = .ok (.aload_n 0, 1) := by decide +kernel
theorem dX9_add_153 : decode cX9_add 153 = .ok (.getfield 8, 3) := by decide +kernel
theorem dX9_add_156 : decode cX9_add 156 = .ok (.bipush 40, 2) := by decide +kernel
theorem dX9_add_158 : decode cX9_add 158 = .ok (.iload_n 2, 1) := by decide +kernel
theorem dX9_add_159 : decode cX9_add 159 = .ok (.imul, 1) := by decide +kernel
theorem dX9_add_160 : decode cX9_add 160 = .ok (.iload 12, 2) := by decide +kernel
theorem dX9_add_162 : decode cX9_add 162 = .ok (.iadd, 1) := by decide +kernel
theorem dX9_add_163 : decode cX9_add 163 = .ok (.iaload, 1) := by decide +kernel
theorem dX9_add_164 : decode cX9_add 164 = .ok (.goto 4, 3) := by decide +kernel
theorem dX9_add_167 : decode cX9_add 167 = .ok (.iconst 0, 1) := by decide +kernel
theorem dX9_add_168 : decode cX9_add 168 = .ok (.iadd, 1) := by decide +kernel
theorem dX9_add_169 : decode cX9_add 169 = .ok (.iload 11, 2) := by decide +kernel
theorem dX9_add_171 : decode cX9_add 171 = .ok (.iadd, 1) := by decide +kernel
theorem dX9_add_172 : decode cX9_add 172 = .ok (.istore 13, 2) := by decide +kernel
theorem dX9_add_174 : decode cX9_add 174 = .ok (.aload_n 0, 1) := by decide +kernel
theorem dX9_add_175 : decode cX9_add 175 = .ok (.getfield 8, 3) := by decide +kernel
theorem dX9_add_178 : decode cX9_add 178 = .ok (.bipush 40, 2) := by decide +kernel
theorem dX9_add_180 : decode cX9_add 180 = .ok (.iload 4, 2) := by decide +kernel
theorem dX9_add_182 : decode cX9_add 182 = .ok (.imul, 1) := by decide +kernel
theorem dX9_add_183 : decode cX9_add 183 = .ok (.iload 12, 2) := by decide +kernel
theorem dX9_add_185 : decode cX9_add 185 = .ok (.iadd, 1) := by decide +kernel
theorem dX9_add_186 : decode cX9_add 186 = .ok (.iload 13, 2) := by decide +kernel
theorem dX9_add_188 : decode cX9_add 188 = .ok (.ldc 93, 2) := by decide +kernel
theorem dX9_add_190 : decode cX9_add 190 = .ok (.iand, 1) := by decide +kernel
theorem dX9_add_191 : decode cX9_add 191 = .ok (.iastore, 1) := by decide +kernel
theorem dX9_add_192 : decode cX9_add 192 = .ok (.iload 13, 2) := by decide +kernel
theorem dX9_add_194 : decode cX9_add 194 = .ok (.bipush 16, 2) := by decide +kernel
theorem dX9_add_196 : decode cX9_add 196 = .ok (.ishr, 1) := by decide +kernel
theorem dX9_add_197 : decode cX9_add 197 = .ok (.istore 11, 2) := by decide +kernel
theorem dX9_add_199 : decode cX9_add 199 = .ok (.iinc 12 1, 3) := by decide +kernel
theorem dX9_add_202 : decode cX9_add 202 = .ok (.goto (-87), 3) := by decide +kernel
theorem dX9_add_205 : decode cX9_add 205 = .ok (.aload_n 0, 1) := by decide +kernel
theorem dX9_add_206 : decode cX9_add 206 = .ok (.getfield 17, 3) := by decide +kernel
theorem dX9_add_209 : decode cX9_add 209 = .ok (.iload 4, 2) := by decide +kernel
theorem dX9_add_211 : decode cX9_add 211 = .ok (.iload 7, 2) := by decide +kernel
theorem dX9_add_213 : decode cX9_add 213 = .ok (.iastore, 1) := by decide +kernel
theorem dX9_add_214 : decode cX9_add 214 = .ok (.aload_n 0, 1) := by decide +kernel
theorem dX9_add_215 : decode cX9_add 215 = .ok (.iload 4, 2) := by decide +kernel
theorem dX9_add_217 : decode cX9_add 217 = .ok (.iload 8, 2) := by decide +kernel
theorem dX9_add_219 : decode cX9_add 219 = .ok (.iconst 1, 1) := by decide +kernel
theorem dX9_add_220 : decode cX9_add 220 = .ok (.iadd, 1) := by decide +kernel
theorem dX9_add_221 : decode cX9_add 221 = .ok (.invokevirtual 94, 3) := by decide +kernel
theorem dX9_add_224 : decode cX9_add 224 = .ok (.return_, 1) := by decide +kernel
theorem dX9_add_225 : decode cX9_add 225 = .ok (.aload_n 0, 1) := by decide +kernel
theorem dX9_add_226 : decode cX9_add 226 = .ok (.iload_n 1, 1) := by decide +kernel
theorem dX9_add_227 : decode cX9_add 227 = .ok (.iload_n 2, 1) := by decide +kernel
theorem dX9_add_228 : decode cX9_add 228 = .ok (.invokevirtual 89, 3) := by decide +kernel
theorem dX9_add_231 : decode cX9_add 231 = .ok (.istore 7, 2) := by decide +kernel
theorem dX9_add_233 : decode cX9_add 233 = .ok (.iload 7, 2) := by decide +kernel
theorem dX9_add_235 : decode cX9_add 235 = .ok (.ifCond .lt 7, 3) := by decide +kernel
theorem dX9_add_238 : decode cX9_add 238 = .ok (.iload_n 1, 1) := by decide +kernel
theorem dX9_add_239 : decode cX9_add 239 = .ok (.goto 4, 3) := by decide +kernel
theorem dX9_add_242 : decode cX9_add 242 = .ok (.iload_n 2, 1) := by decide +kernel
theorem dX9_add_243 : decode cX9_add 243 = .ok (.istore 8, 2) := by decide +kernel
theorem dX9_add_245 : decode cX9_add 245 = .ok (.iload 7, 2) := by decide +kernel
theorem dX9_add_247 : decode cX9_add 247 = .ok (.ifCond .lt 7, 3) := by decide +kernel
theorem dX9_add_250 : decode cX9_add 250 = .ok (.iload_n 2, 1) := by decide +kernel
theorem dX9_add_251 : decode cX9_add 251 = .ok (.goto 4, 3) := by decide +kernel
theorem dX9_add_254 : decode cX9_add 254 = .ok (.iload_n 1, 1) := by decide +kernel
theorem dX9_add_255 : decode cX9_add 255 = .ok (.istore 9, 2) := by decide +kernel
theorem dX9_add_257 : decode cX9_add 257 = .ok (.iload 7, 2) := by decide +kernel
theorem dX9_add_259 : decode cX9_add 259 = .ok (.ifCond .lt 8, 3) := by decide +kernel
theorem dX9_add_262 : decode cX9_add 262 = .ok (.iload 6, 2) := by decide +kernel
theorem dX9_add_264 : decode cX9_add 264 = .ok (.goto 5, 3) := by decide +kernel
theorem dX9_add_267 : decode cX9_add 267 = .ok (.iload 5, 2) := by decide +kernel
theorem dX9_add_269 : decode cX9_add 269 = .ok (.istore 10, 2) := by decide +kernel
theorem dX9_add_271 : decode cX9_add 271 = .ok (.aload_n 0, 1) := by decide +kernel
theorem dX9_add_272 : decode cX9_add 272 = .ok (.getfield 14, 3) := by decide +kernel
theorem dX9_add_275 : decode cX9_add 275 = .ok (.iload 8, 2) := by decide +kernel
theorem dX9_add_277 : decode cX9_add 277 = .ok (.iaload, 1) := by decide +kernel
theorem dX9_add_278 : decode cX9_add 278 = .ok (.istore 11, 2) := by decide +kernel
theorem dX9_add_280 : decode cX9_add 280 = .ok (.aload_n 0, 1) := by decide +kernel
theorem dX9_add_281 : decode cX9_add 281 = .ok (.getfield 14, 3) := by decide +kernel
theorem dX9_add_284 : decode cX9_add 284 = .ok (.iload 9, 2) := by decide +kernel
theorem dX9_add_286 : decode cX9_add 286 = .ok (.iaload, 1) := by decide +kernel
theorem dX9_add_287 : decode cX9_add 287 = .ok (.istore 12, 2) := by decide +kernel
theorem dX9_add_289 : decode cX9_add 289 = .ok (.iconst 0, 1) := by decide +kernel
theorem dX9_add_290 : decode cX9_add 290 = .ok (.istore 13, 2) := by decide +kernel
theorem dX9_add_292 : decode cX9_add 292 = .ok (.iconst 0, 1) := by decide +kernel
theorem dX9_add_293 : decode cX9_add 293 = .ok (.istore 14, 2) := by decide +kernel
theorem dX9_add_295 : decode cX9_add 295 = .ok (.iload 14, 2) := by decide +kernel
theorem dX9_add_297 : decode cX9_add 297 = .ok (.iload 11, 2) := by decide +kernel
theorem dX9_add_299 : decode cX9_add 299 = .ok (.if_icmp .ge 82, 3) := by decide +kernel
theorem dX9_add_302 : decode cX9_add 302 = .ok (.aload_n 0, 1) := by decide +kernel
theorem dX9_add_303 : decode cX9_add 303 = .ok (.getfield 8, 3) := by decide +kernel
theorem dX9_add_306 : decode cX9_add 306 = .ok (.bipush 40, 2) := by decide +kernel
theorem dX9_add_308 : decode cX9_add 308 = .ok (.iload 8, 2) := by decide +kernel
theorem dX9_add_310 : decode cX9_add 310 = .ok (.imul, 1) := by decide +kernel
theorem dX9_add_311 : decode cX9_add 311 = .ok (.iload 14, 2) := by decide +kernel
theorem dX9_add_313 : decode cX9_add 313 = .ok (.iadd, 1) := by decide +kernel
theorem dX9_add_314 : decode cX9_add 314 = .ok (.iaload, 1) := by decide +kernel
theorem dX9_add_315 : decode cX9_add 315 = .ok (.iload 14, 2) := by decide +kernel
theorem dX9_add_317 : decode cX9_add 317 = .ok (.iload 12, 2) := by decide +kernel
theorem dX9_add_319 : decode cX9_add 319 = .ok (.if_icmp .ge 19, 3) := by decide +kernel
theorem dX9_add_322 : decode cX9_add 322 = .ok (.aload_n 0, 1) := by decide +kernel
theorem dX9_add_323 : decode cX9_add 323 = .ok (.getfield 8, 3) := by decide +kernel
theorem dX9_add_326 : decode cX9_add 326 = .ok (.bipush 40, 2) := by decide +kernel
theorem dX9_add_328 : decode cX9_add 328 = .ok (.iload 9, 2) := by decide +kernel
theorem dX9_add_330 : decode cX9_add 330 = .ok (.imul, 1) := by decide +kernel
theorem dX9_add_331 : decode cX9_add 331 = .ok (.iload 14, 2) := by decide +kernel
theorem dX9_add_333 : decode cX9_add 333 = .ok (.iadd, 1) := by decide +kernel
theorem dX9_add_334 : decode cX9_add 334 = .ok (.iaload, 1) := by decide +kernel
theorem dX9_add_335 : decode cX9_add 335 = .ok (.goto 4, 3) := by decide +kernel
theorem dX9_add_338 : decode cX9_add 338 = .ok (.iconst 0, 1) := by decide +kernel
theorem dX9_add_339 : decode cX9_add 339 = .ok (.isub, 1) := by decide +kernel
theorem dX9_add_340 : decode cX9_add 340 = .ok (.iload 13, 2) := by decide +kernel
theorem dX9_add_342 : decode cX9_add 342 = .ok (.isub, 1) := by decide +kernel
theorem dX9_add_343 : decode cX9_add 343 = .ok (.istore 15, 2) := by decide +kernel
theorem dX9_add_345 : decode cX9_add 345 = .ok (.iload 15, 2) := by decide +kernel
theorem dX9_add_347 : decode cX9_add 347 = .ok (.ifCond .ge 7, 3) := by decide +kernel
theorem dX9_add_350 : decode cX9_add 350 = .ok (.iconst 1, 1) := by decide +kernel
theorem dX9_add_351 : decode cX9_add 351 = .ok (.goto 4, 3) := by decide +kernel
theorem dX9_add_354 : decode cX9_add 354 = .ok (.iconst 0, 1) := by decide +kernel
theorem dX9_add_355 : decode cX9_add 355 = .ok (.istore 13, 2) := by decide +kernel
theorem dX9_add_357 : decode cX9_add 357 = .ok (.aload_n 0, 1) := by decide +kernel
theorem dX9_add_358 : decode cX9_add 358 = .ok (.getfield 8, 3) := by decide +kernel
theorem dX9_add_361 : decode cX9_add 361 = .ok (.bipush 40, 2) := by decide +kernel
theorem dX9_add_363 : decode cX9_add 363 = .ok (.iload 4, 2) := by decide +kernel
theorem dX9_add_365 : decode cX9_add 365 = .ok (.imul, 1) := by decide +kernel
theorem dX9_add_366 : decode cX9_add 366 = .ok (.iload 14, 2) := by decide +kernel
theorem dX9_add_368 : decode cX9_add 368 = .ok (.iadd, 1) := by decide +kernel
theorem dX9_add_369 : decode cX9_add 369 = .ok (.iload 15, 2) := by decide +kernel
theorem dX9_add_371 : decode cX9_add 371 = .ok (.ldc 93, 2) := by decide +kernel
theorem dX9_add_373 : decode cX9_add 373 = .ok (.iand, 1) := by decide +kernel
theorem dX9_add_374 : decode cX9_add 374 = .ok (.iastore, 1) := by decide +kernel
theorem dX9_add_375 : decode cX9_add 375 = .ok (.iinc 14 1, 3) := by decide +kernel
theorem dX9_add_378 : decode cX9_add 378 = .ok (.goto (-83), 3) := by decide +kernel
theorem dX9_add_381 : decode cX9_add 381 = .ok (.aload_n 0, 1) := by decide +kernel
theorem dX9_add_382 : decode cX9_add 382 = .ok (.getfield 17, 3) := by decide +kernel
theorem dX9_add_385 : decode cX9_add 385 = .ok (.iload 4, 2) := by decide +kernel
theorem dX9_add_387 : decode cX9_add 387 = .ok (.iload 10, 2) := by decide +kernel
theorem dX9_add_389 : decode cX9_add 389 = .ok (.iastore, 1) := by decide +kernel
theorem dX9_add_390 : decode cX9_add 390 = .ok (.aload_n 0, 1) := by decide +kernel
theorem dX9_add_391 : decode cX9_add 391 = .ok (.iload 4, 2) := by decide +kernel
theorem dX9_add_393 : decode cX9_add 393 = .ok (.iload 11, 2) := by decide +kernel
theorem dX9_add_395 : decode cX9_add 395 = .ok (.invokevirtual 94, 3) := by decide +kernel
theorem dX9_add_398 : decode cX9_add 398 = .ok (.return_, 1) := by decide +kernel
theorem dX9_times_0 : decode cX9_times 0 = .ok (.aload_n 0, 1) := by decide +kernel
theorem dX9_times_1 : decode cX9_times 1 = .ok (.getfield 14, 3) := by decide +kernel
theorem dX9_times_4 : decode cX9_times 4 = .ok (.iload_n 1, 1) := by decide +kernel
theorem dX9_times_5 : decode cX9_times 5 = .ok (.iaload, 1) := by decide +kernel
theorem dX9_times_6 : decode cX9_times 6 = .ok (.aload_n 0, 1) := by decide +kernel
theorem dX9_times_7 : decode cX9_times 7 = .ok (.getfield 14, 3) := by decide +kernel
theorem dX9_times_10 : decode cX9_times 10 = .ok (.iload_n 2, 1) := by decide +kernel
theorem dX9_times_11 : decode cX9_times 11 = .ok (.iaload, 1) := by decide +kernel
theorem dX9_times_12 : decode cX9_times 12 = .ok (.iadd, 1) := by decide +kernel
theorem dX9_times_13 : decode cX9_times 13 = .ok (.istore 4, 2) := by decide +kernel
theorem dX9_times_15 : decode cX9_times 15 = .ok (.iconst 0, 1) := by decide +kernel
theorem dX9_times_16 : decode cX9_times 16 = .ok (.istore 5, 2) := by decide +kernel
theorem dX9_times_18 : decode cX9_times 18 = .ok (.iload 5, 2) := by decide +kernel
theorem dX9_times_20 : decode cX9_times 20 = .ok (.iload 4, 2) := by decide +kernel
theorem dX9_times_22 : decode cX9_times 22 = .ok (.if_icmp .ge 22, 3) := by decide +kernel
theorem dX9_times_25 : decode cX9_times 25 = .ok (.aload_n 0, 1) := by decide +kernel
theorem dX9_times_26 : decode cX9_times 26 = .ok (.getfield 8, 3) := by decide +kernel
theorem dX9_times_29 : decode cX9_times 29 = .ok (.bipush 40, 2) := by decide +kernel
theorem dX9_times_31 : decode cX9_times 31 = .ok (.iload_n 3, 1) := by decide +kernel
theorem dX9_times_32 : decode cX9_times 32 = .ok (.imul, 1) := by decide +kernel
theorem dX9_times_33 : decode cX9_times 33 = .ok (.iload 5, 2) := by decide +kernel
theorem dX9_times_35 : decode cX9_times 35 = .ok (.iadd, 1) := by decide +kernel
theorem dX9_times_36 : decode cX9_times 36 = .ok (.iconst 0, 1) := by decide +kernel
theorem dX9_times_37 : decode cX9_times 37 = .ok (.iastore, 1) := by decide +kernel
theorem dX9_times_38 : decode cX9_times 38 = .ok (.iinc 5 1, 3) := by decide +kernel
theorem dX9_times_41 : decode cX9_times 41 = .ok (.goto (-23), 3) := by decide +kernel
theorem dX9_times_44 : decode cX9_times 44 = .ok (.iconst 0, 1) := by decide +kernel
theorem dX9_times_45 : decode cX9_times 45 = .ok (.istore 5, 2) := by decide +kernel
theorem dX9_times_47 : decode cX9_times 47 = .ok (.iload 5, 2) := by decide +kernel
theorem dX9_times_49 : decode cX9_times 49 = .ok (.aload_n 0, 1) := by decide +kernel
theorem dX9_times_50 : decode cX9_times 50 = .ok (.getfield 14, 3) := by decide +kernel
theorem dX9_times_53 : decode cX9_times 53 = .ok (.iload_n 1, 1) := by decide +kernel
theorem dX9_times_54 : decode cX9_times 54 = .ok (.iaload, 1) := by decide +kernel
theorem dX9_times_55 : decode cX9_times 55 = .ok (.if_icmp .ge 136, 3) := by decide +kernel
theorem dX9_times_58 : decode cX9_times 58 = .ok (.lconst 0, 1) := by decide +kernel
theorem dX9_times_59 : decode cX9_times 59 = .ok (.lstore 6, 2) := by decide +kernel
theorem dX9_times_61 : decode cX9_times 61 = .ok (.aload_n 0, 1) := by decide +kernel
theorem dX9_times_62 : decode cX9_times 62 = .ok (.getfield 8, 3) := by decide +kernel
theorem dX9_times_65 : decode cX9_times 65 = .ok (.bipush 40, 2) := by decide +kernel
theorem dX9_times_67 : decode cX9_times 67 = .ok (.iload_n 1, 1) := by decide +kernel
theorem dX9_times_68 : decode cX9_times 68 = .ok (.imul, 1) := by decide +kernel
theorem dX9_times_69 : decode cX9_times 69 = .ok (.iload 5, 2) := by decide +kernel
theorem dX9_times_71 : decode cX9_times 71 = .ok (.iadd, 1) := by decide +kernel
theorem dX9_times_72 : decode cX9_times 72 = .ok (.iaload, 1) := by decide +kernel
theorem dX9_times_73 : decode cX9_times 73 = .ok (.i2l, 1) := by decide +kernel
theorem dX9_times_74 : decode cX9_times 74 = .ok (.lstore 8, 2) := by decide +kernel
theorem dX9_times_76 : decode cX9_times 76 = .ok (.iconst 0, 1) := by decide +kernel
theorem dX9_times_77 : decode cX9_times 77 = .ok (.istore 10, 2) := by decide +kernel
theorem dX9_times_79 : decode cX9_times 79 = .ok (.iload 10, 2) := by decide +kernel
theorem dX9_times_81 : decode cX9_times 81 = .ok (.aload_n 0, 1) := by decide +kernel
theorem dX9_times_82 : decode cX9_times 82 = .ok (.getfield 14, 3) := by decide +kernel
theorem dX9_times_85 : decode cX9_times 85 = .ok (.iload_n 2, 1) := by decide +kernel
theorem dX9_times_86 : decode cX9_times 86 = .ok (.iaload, 1) := by decide +kernel
theorem dX9_times_87 : decode cX9_times 87 = .ok (.if_icmp .ge 76, 3) := by decide +kernel
theorem dX9_times_90 : decode cX9_times 90 = .ok (.lload 8, 2) := by decide +kernel
theorem dX9_times_92 : decode cX9_times 92 = .ok (.aload_n 0, 1) := by decide +kernel
theorem dX9_times_93 : decode cX9_times 93 = .ok (.getfield 8, 3) := by decide +kernel
theorem dX9_times_96 : decode cX9_times 96 = .ok (.bipush 40, 2) := by decide +kernel
theorem dX9_times_98 : decode cX9_times 98 = .ok (.iload_n 2, 1) := by decide +kernel
theorem dX9_times_99 : decode cX9_times 99 = .ok (.imul, 1) := by decide +kernel
theorem dX9_times_100 : decode cX9_times 100 = .ok (.iload 10, 2) := by decide +kernel
theorem dX9_times_102 : decode cX9_times 102 = .ok (.iadd, 1) := by decide +kernel
theorem dX9_times_103 : decode cX9_times 103 = .ok (.iaload, 1) := by decide +kernel
theorem dX9_times_104 : decode cX9_times 104 = .ok (.i2l, 1) := by decide +kernel
theorem dX9_times_105 : decode cX9_times 105 = .ok (.lmul, 1) := by decide +kernel
theorem dX9_times_106 : decode cX9_times 106 = .ok (.aload_n 0, 1) := by decide +kernel
theorem dX9_times_107 : decode cX9_times 107 = .ok (.getfield 8, 3) := by decide +kernel
theorem dX9_times_110 : decode cX9_times 110 = .ok (.bipush 40, 2) := by decide +kernel
theorem dX9_times_112 : decode cX9_times 112 = .ok (.iload_n 3, 1) := by decide +kernel
theorem dX9_times_113 : decode cX9_times 113 = .ok (.imul, 1) := by decide +kernel
theorem dX9_times_114 : decode cX9_times 114 = .ok (.iload 5, 2) := by decide +kernel
theorem dX9_times_116 : decode cX9_times 116 = .ok (.iadd, 1) := by decide +kernel
theorem dX9_times_117 : decode cX9_times 117 = .ok (.iload 10, 2) := by decide +kernel
theorem dX9_times_119 : decode cX9_times 119 = .ok (.iadd, 1) := by decide +kernel
theorem dX9_times_120 : decode cX9_times 120 = .ok (.iaload, 1) := by decide +kernel
theorem dX9_times_121 : decode cX9_times 121 = .ok (.i2l, 1) := by decide +kernel
theorem dX9_times_122 : decode cX9_times 122 = .ok (.ladd, 1) := by decide +kernel
theorem dX9_times_123 : decode cX9_times 123 = .ok (.lload 6, 2) := by decide +kernel
theorem dX9_times_125 : decode cX9_times 125 = .ok (.ladd, 1) := by decide +kernel
theorem dX9_times_126 : decode cX9_times 126 = .ok (.lstore 11, 2) := by decide +kernel
theorem dX9_times_128 : decode cX9_times 128 = .ok (.aload_n 0, 1) := by decide +kernel
theorem dX9_times_129 : decode cX9_times 129 = .ok (.getfield 8, 3) := by decide +kernel
theorem dX9_times_132 : decode cX9_times 132 = .ok (.bipush 40, 2) := by decide +kernel
theorem dX9_times_134 : decode cX9_times 134 = .ok (.iload_n 3, 1) := by decide +kernel
theorem dX9_times_135 : decode cX9_times 135 = .ok (.imul, 1) := by decide +kernel
theorem dX9_times_136 : decode cX9_times 136 = .ok (.iload 5, 2) := by decide +kernel
theorem dX9_times_138 : decode cX9_times 138 = .ok (.iadd, 1) := by decide +kernel
theorem dX9_times_139 : decode cX9_times 139 = .ok (.iload 10, 2) := by decide +kernel
theorem dX9_times_141 : decode cX9_times 141 = .ok (.iadd, 1) := by decide +kernel
theorem dX9_times_142 : decode cX9_times 142 = .ok (.lload 11, 2) := by decide +kernel
theorem dX9_times_144 : decode cX9_times 144 = .ok (.ldc2_w 87, 3) := by decide +kernel
theorem dX9_times_147 : decode cX9_times 147 = .ok (.land, 1) := by decide +kernel
theorem dX9_times_148 : decode cX9_times 148 = .ok (.l2i, 1) := by decide +kernel
theorem dX9_times_149 : decode cX9_times 149 = .ok (.iastore, 1) := by decide +kernel
theorem dX9_times_150 : decode cX9_times 150 = .ok (.lload 11, 2) := by decide +kernel
theorem dX9_times_152 : decode cX9_times 152 = .ok (.bipush 16, 2) := by decide +kernel
theorem dX9_times_154 : decode cX9_times 154 = .ok (.lshr, 1) := by decide +kernel
theorem dX9_times_155 : decode cX9_times 155 = .ok (.lstore 6, 2) := by decide +kernel
theorem dX9_times_157 : decode cX9_times 157 = .ok (.iinc 10 1, 3) := by decide +kernel
theorem dX9_times_160 : decode cX9_times 160 = .ok (.goto (-81), 3) := by decide +kernel
theorem dX9_times_163 : decode cX9_times 163 = .ok (.aload_n 0, 1) := by decide +kernel
theorem dX9_times_164 : decode cX9_times 164 = .ok (.getfield 8, 3) := by decide +kernel
theorem dX9_times_167 : decode cX9_times 167 = .ok (.bipush 40, 2) := by decide +kernel
theorem dX9_times_169 : decode cX9_times 169 = .ok (.iload_n 3, 1) := by decide +kernel
theorem dX9_times_170 : decode cX9_times 170 = .ok (.imul, 1) := by decide +kernel
theorem dX9_times_171 : decode cX9_times 171 = .ok (.iload 5, 2) := by decide +kernel
theorem dX9_times_173 : decode cX9_times 173 = .ok (.iadd, 1) := by decide +kernel
theorem dX9_times_174 : decode cX9_times 174 = .ok (.aload_n 0, 1) := by decide +kernel
theorem dX9_times_175 : decode cX9_times 175 = .ok (.getfield 14, 3) := by decide +kernel
theorem dX9_times_178 : decode cX9_times 178 = .ok (.iload_n 2, 1) := by decide +kernel
theorem dX9_times_179 : decode cX9_times 179 = .ok (.iaload, 1) := by decide +kernel
theorem dX9_times_180 : decode cX9_times 180 = .ok (.iadd, 1) := by decide +kernel
theorem dX9_times_181 : decode cX9_times 181 = .ok (.lload 6, 2) := by decide +kernel
theorem dX9_times_183 : decode cX9_times 183 = .ok (.l2i, 1) := by decide +kernel
theorem dX9_times_184 : decode cX9_times 184 = .ok (.iastore, 1) := by decide +kernel
theorem dX9_times_185 : decode cX9_times 185 = .ok (.iinc 5 1, 3) := by decide +kernel
theorem dX9_times_188 : decode cX9_times 188 = .ok (.goto (-141), 3) := by decide +kernel
theorem dX9_times_191 : decode cX9_times 191 = .ok (.aload_n 0, 1) := by decide +kernel
theorem dX9_times_192 : decode cX9_times 192 = .ok (.getfield 17, 3) := by decide +kernel
theorem dX9_times_195 : decode cX9_times 195 = .ok (.iload_n 3, 1) := by decide +kernel
theorem dX9_times_196 : decode cX9_times 196 = .ok (.aload_n 0, 1) := by decide +kernel
theorem dX9_times_197 : decode cX9_times 197 = .ok (.getfield 17, 3) := by decide +kernel
theorem dX9_times_200 : decode cX9_times 200 = .ok (.iload_n 1, 1) := by decide +kernel
theorem dX9_times_201 : decode cX9_times 201 = .ok (.iaload, 1) := by decide +kernel
theorem dX9_times_202 : decode cX9_times 202 = .ok (.aload_n 0, 1) := by decide +kernel
theorem dX9_times_203 : decode cX9_times 203 = .ok (.getfield 17, 3) := by decide +kernel
theorem dX9_times_206 : decode cX9_times 206 = .ok (.iload_n 2, 1) := by decide +kernel
