theorem dX8_init_0 : decode cX8_init 0 = .ok (.aload_n 0, 1) := by decide +kernel
theorem dX8_init_1 : decode cX8_init 1 = .ok (.invokespecial 1, 3) := by decide +kernel
theorem dX8_init_4 : decode cX8_init 4 = .ok (.aload_n 0, 1) := by decide +kernel
theorem dX8_init_5 : decode cX8_init 5 = .ok (.iconst 2, 1) := by decide +kernel
theorem dX8_init_6 : decode cX8_init 6 = .ok (.newarray .int, 2) := by decide +kernel
theorem dX8_init_8 : decode cX8_init 8 = .ok (.putfield 7, 3) := by decide +kernel
theorem dX8_init_11 : decode cX8_init 11 = .ok (.aload_n 0, 1) := by decide +kernel
theorem dX8_init_12 : decode cX8_init 12 = .ok (.iconst 2, 1) := by decide +kernel
theorem dX8_init_13 : decode cX8_init 13 = .ok (.anewarray 13, 3) := by decide +kernel
theorem dX8_init_16 : decode cX8_init 16 = .ok (.dup, 1) := by decide +kernel
theorem dX8_init_17 : decode cX8_init 17 = .ok (.iconst 0, 1) := by decide +kernel
theorem dX8_init_18 : decode cX8_init 18 = .ok (.new 13, 3) := by decide +kernel
theorem dX8_init_21 : decode cX8_init 21 = .ok (.dup, 1) := by decide +kernel
theorem dX8_init_22 : decode cX8_init 22 = .ok (.invokespecial 15, 3) := by decide +kernel
theorem dX8_init_25 : decode cX8_init 25 = .ok (.aastore, 1) := by decide +kernel
theorem dX8_init_26 : decode cX8_init 26 = .ok (.dup, 1) := by decide +kernel
theorem dX8_init_27 : decode cX8_init 27 = .ok (.iconst 1, 1) := by decide +kernel
theorem dX8_init_28 : decode cX8_init 28 = .ok (.new 13, 3) := by decide +kernel
theorem dX8_init_31 : decode cX8_init 31 = .ok (.dup, 1) := by decide +kernel
theorem dX8_init_32 : decode cX8_init 32 = .ok (.invokespecial 15, 3) := by decide +kernel
theorem dX8_init_35 : decode cX8_init 35 = .ok (.aastore, 1) := by decide +kernel
theorem dX8_init_36 : decode cX8_init 36 = .ok (.putfield 16, 3) := by decide +kernel
theorem dX8_init_39 : decode cX8_init 39 = .ok (.aload_n 0, 1) := by decide +kernel
theorem dX8_init_40 : decode cX8_init 40 = .ok (.iconst 2, 1) := by decide +kernel
theorem dX8_init_41 : decode cX8_init 41 = .ok (.anewarray 20, 3) := by decide +kernel
theorem dX8_init_44 : decode cX8_init 44 = .ok (.dup, 1) := by decide +kernel
theorem dX8_init_45 : decode cX8_init 45 = .ok (.iconst 0, 1) := by decide +kernel
theorem dX8_init_46 : decode cX8_init 46 = .ok (.new 20, 3) := by decide +kernel
theorem dX8_init_49 : decode cX8_init 49 = .ok (.dup, 1) := by decide +kernel
theorem dX8_init_50 : decode cX8_init 50 = .ok (.invokespecial 22, 3) := by decide +kernel
theorem dX8_init_53 : decode cX8_init 53 = .ok (.aastore, 1) := by decide +kernel
theorem dX8_init_54 : decode cX8_init 54 = .ok (.dup, 1) := by decide +kernel
theorem dX8_init_55 : decode cX8_init 55 = .ok (.iconst 1, 1) := by decide +kernel
theorem dX8_init_56 : decode cX8_init 56 = .ok (.new 20, 3) := by decide +kernel
theorem dX8_init_59 : decode cX8_init 59 = .ok (.dup, 1) := by decide +kernel
theorem dX8_init_60 : decode cX8_init 60 = .ok (.invokespecial 22, 3) := by decide +kernel
theorem dX8_init_63 : decode cX8_init 63 = .ok (.aastore, 1) := by decide +kernel
theorem dX8_init_64 : decode cX8_init 64 = .ok (.putfield 23, 3) := by decide +kernel
theorem dX8_init_67 : decode cX8_init 67 = .ok (.aload_n 0, 1) := by decide +kernel
theorem dX8_init_68 : decode cX8_init 68 = .ok (.iconst 2, 1) := by decide +kernel
theorem dX8_init_69 : decode cX8_init 69 = .ok (.newarray .int, 2) := by decide +kernel
theorem dX8_init_71 : decode cX8_init 71 = .ok (.putfield 27, 3) := by decide +kernel
theorem dX8_init_74 : decode cX8_init 74 = .ok (.aload_n 0, 1) := by decide +kernel
theorem dX8_init_75 : decode cX8_init 75 = .ok (.iconst 2, 1) := by decide +kernel
theorem dX8_init_76 : decode cX8_init 76 = .ok (.anewarray 30, 3) := by decide +kernel
theorem dX8_init_79 : decode cX8_init 79 = .ok (.dup, 1) := by decide +kernel
theorem dX8_init_80 : decode cX8_init 80 = .ok (.iconst 0, 1) := by decide +kernel
theorem dX8_init_81 : decode cX8_init 81 = .ok (.new 30, 3) := by decide +kernel
theorem dX8_init_84 : decode cX8_init 84 = .ok (.dup, 1) := by decide +kernel
theorem dX8_init_85 : decode cX8_init 85 = .ok (.invokespecial 32, 3) := by decide +kernel
theorem dX8_init_88 : decode cX8_init 88 = .ok (.aastore, 1) := by decide +kernel
theorem dX8_init_89 : decode cX8_init 89 = .ok (.dup, 1) := by decide +kernel
theorem dX8_init_90 : decode cX8_init 90 = .ok (.iconst 1, 1) := by decide +kernel
theorem dX8_init_91 : decode cX8_init 91 = .ok (.new 30, 3) := by decide +kernel
theorem dX8_init_94 : decode cX8_init 94 = .ok (.dup, 1) := by decide +kernel
theorem dX8_init_95 : decode cX8_init 95 = .ok (.invokespecial 32, 3) := by decide +kernel
theorem dX8_init_98 : decode cX8_init 98 = .ok (.aastore, 1) := by decide +kernel
theorem dX8_init_99 : decode cX8_init 99 = .ok (.putfield 33, 3) := by decide +kernel
theorem dX8_init_102 : decode cX8_init 102 = .ok (.aload_n 0, 1) := by decide +kernel
theorem dX8_init_103 : decode cX8_init 103 = .ok (.iconst 3, 1) := by decide +kernel
theorem dX8_init_104 : decode cX8_init 104 = .ok (.sipush 256, 3) := by decide +kernel
theorem dX8_init_107 : decode cX8_init 107 = .ok (.multianewarray 37 2, 4) := by decide +kernel
theorem dX8_init_111 : decode cX8_init 111 = .ok (.putfield 39, 3) := by decide +kernel
theorem dX8_init_114 : decode cX8_init 114 = .ok (.aload_n 0, 1) := by decide +kernel
theorem dX8_init_115 : decode cX8_init 115 = .ok (.iconst 0, 1) := by decide +kernel
theorem dX8_init_116 : decode cX8_init 116 = .ok (.putfield 42, 3) := by decide +kernel
theorem dX8_init_119 : decode cX8_init 119 = .ok (.aload_n 0, 1) := by decide +kernel
theorem dX8_init_120 : decode cX8_init 120 = .ok (.iconst (-1), 1) := by decide +kernel
theorem dX8_init_121 : decode cX8_init 121 = .ok (.putfield 46, 3) := by decide +kernel
theorem dX8_init_124 : decode cX8_init 124 = .ok (.aload_n 0, 1) := by decide +kernel
theorem dX8_init_125 : decode cX8_init 125 = .ok (.aconst_null, 1) := by decide +kernel
theorem dX8_init_126 : decode cX8_init 126 = .ok (.putfield 49, 3) := by decide +kernel
theorem dX8_init_129 : decode cX8_init 129 = .ok (.aload_n 0, 1) := by decide +kernel
theorem dX8_init_130 : decode cX8_init 130 = .ok (.iconst 2, 1) := by decide +kernel
theorem dX8_init_131 : decode cX8_init 131 = .ok (.bipush 100, 2) := by decide +kernel
theorem dX8_init_133 : decode cX8_init 133 = .ok (.multianewarray 37 2, 4) := by decide +kernel
theorem dX8_init_137 : decode cX8_init 137 = .ok (.putfield 53, 3) := by decide +kernel
theorem dX8_init_140 : decode cX8_init 140 = .ok (.aload_n 0, 1) := by decide +kernel
theorem dX8_init_141 : decode cX8_init 141 = .ok (.iconst 0, 1) := by decide +kernel
theorem dX8_init_142 : decode cX8_init 142 = .ok (.putfield 56, 3) := by decide +kernel
theorem dX8_init_145 : decode cX8_init 145 = .ok (.aload_n 0, 1) := by decide +kernel
theorem dX8_init_146 : decode cX8_init 146 = .ok (.iconst 0, 1) := by decide +kernel
theorem dX8_init_147 : decode cX8_init 147 = .ok (.putfield 59, 3) := by decide +kernel
theorem dX8_init_150 : decode cX8_init 150 = .ok (.aload_n 0, 1) := by decide +kernel
theorem dX8_init_151 : decode cX8_init 151 = .ok (.iconst 2, 1) := by decide +kernel
theorem dX8_init_152 : decode cX8_init 152 = .ok (.anewarray 63, 3) := by decide +kernel
theorem dX8_init_155 : decode cX8_init 155 = .ok (.dup, 1) := by decide +kernel
theorem dX8_init_156 : decode cX8_init 156 = .ok (.iconst 0, 1) := by decide +kernel
theorem dX8_init_157 : decode cX8_init 157 = .ok (.new 63, 3) := by decide +kernel
theorem dX8_init_160 : decode cX8_init 160 = .ok (.dup, 1) := by decide +kernel
theorem dX8_init_161 : decode cX8_init 161 = .ok (.invokespecial 65, 3) := by decide +kernel
theorem dX8_init_164 : decode cX8_init 164 = .ok (.aastore, 1) := by decide +kernel
theorem dX8_init_165 : decode cX8_init 165 = .ok (.dup, 1) := by decide +kernel
theorem dX8_init_166 : decode cX8_init 166 = .ok (.iconst 1, 1) := by decide +kernel
theorem dX8_init_167 : decode cX8_init 167 = .ok (.new 63, 3) := by decide +kernel
theorem dX8_init_170 : decode cX8_init 170 = .ok (.dup, 1) := by decide +kernel
theorem dX8_init_171 : decode cX8_init 171 = .ok (.invokespecial 65, 3) := by decide +kernel
theorem dX8_init_174 : decode cX8_init 174 = .ok (.aastore, 1) := by decide +kernel
theorem dX8_init_175 : decode cX8_init 175 = .ok (.putfield 66, 3) := by decide +kernel
theorem dX8_init_178 : decode cX8_init 178 = .ok (.aload_n 0, 1) := by decide +kernel
theorem dX8_init_179 : decode cX8_init 179 = .ok (.bipush 6, 2) := by decide +kernel
theorem dX8_init_181 : decode cX8_init 181 = .ok (.invokestatic 70, 3) := by decide +kernel
theorem dX8_init_184 : decode cX8_init 184 = .ok (.putfield 74, 3) := by decide +kernel
theorem dX8_init_187 : decode cX8_init 187 = .ok (.aload_n 0, 1) := by decide +kernel
theorem dX8_init_188 : decode cX8_init 188 = .ok (.new 78, 3) := by decide +kernel
theorem dX8_init_191 : decode cX8_init 191 = .ok (.dup, 1) := by decide +kernel
theorem dX8_init_192 : decode cX8_init 192 = .ok (.invokespecial 80, 3) := by decide +kernel
theorem dX8_init_195 : decode cX8_init 195 = .ok (.putfield 81, 3) := by decide +kernel
theorem dX8_init_198 : decode cX8_init 198 = .ok (.aload_n 0, 1) := by decide +kernel
theorem dX8_init_199 : decode cX8_init 199 = .ok (.new 78, 3) := by decide +kernel
theorem dX8_init_202 : decode cX8_init 202 = .ok (.dup, 1) := by decide +kernel
theorem dX8_init_203 : decode cX8_init 203 = .ok (.invokespecial 80, 3) := by decide +kernel
theorem dX8_init_206 : decode cX8_init 206 = .ok (.putfield 85, 3) := by decide +kernel
theorem dX8_init_209 : decode cX8_init 209 = .ok (.aload_n 0, 1) := by decide +kernel
theorem dX8_init_210 : decode cX8_init 210 = .ok (.new 88, 3) := by decide +kernel
theorem dX8_init_213 : decode cX8_init 213 = .ok (.dup, 1) := by decide +kernel
theorem dX8_init_214 : decode cX8_init 214 = .ok (.invokespecial 90, 3) := by decide +kernel
theorem dX8_init_217 : decode cX8_init 217 = .ok (.putfield 91, 3) := by decide +kernel
theorem dX8_init_220 : decode cX8_init 220 = .ok (.aload_n 0, 1) := by decide +kernel
theorem dX8_init_221 : decode cX8_init 221 = .ok (.new 95, 3) := by decide +kernel
theorem dX8_init_224 : decode cX8_init 224 = .ok (.dup, 1) := by decide +kernel
theorem dX8_init_225 : decode cX8_init 225 = .ok (.invokespecial 97, 3) := by decide +kernel
theorem dX8_init_228 : decode cX8_init 228 = .ok (.putfield 98, 3) := by decide +kernel
theorem dX8_init_231 : decode cX8_init 231 = .ok (.return_, 1) := by decide +kernel
theorem dX8_game_0 : decode cX8_game 0 = .ok (.iload_n 1, 1) := by decide +kernel
theorem dX8_game_1 : decode cX8_game 1 = .ok (.iconst 1, 1) := by decide +kernel
theorem dX8_game_2 : decode cX8_game 2 = .ok (.if_icmp .lt 20, 3) := by decide +kernel
theorem dX8_game_5 : decode cX8_game 5 = .ok (.iload_n 1, 1) := by decide +kernel
theorem dX8_game_6 : decode cX8_game 6 = .ok (.bipush 6, 2) := by decide +kernel
theorem dX8_game_8 : decode cX8_game 8 = .ok (.if_icmp .gt 14, 3) := by decide +kernel
theorem dX8_game_11 : decode cX8_game 11 = .ok (.iload_n 2, 1) := by decide +kernel
theorem dX8_game_12 : decode cX8_game 12 = .ok (.iconst 1, 1) := by decide +kernel
theorem dX8_game_13 : decode cX8_game 13 = .ok (.if_icmp .lt 9, 3) := by decide +kernel
theorem dX8_game_16 : decode cX8_game 16 = .ok (.iload_n 2, 1) := by decide +kernel
theorem dX8_game_17 : decode cX8_game 17 = .ok (.bipush 6, 2) := by decide +kernel
theorem dX8_game_19 : decode cX8_game 19 = .ok (.if_icmp .le 13, 3) := by decide +kernel
theorem dX8_game_22 : decode cX8_game 22 = .ok (.new 102, 3) := by decide +kernel
theorem dX8_game_25 : decode cX8_game 25 = .ok (.dup, 1) := by decide +kernel
theorem dX8_game_26 : decode cX8_game 26 = .ok (.ldc 104, 2) := by decide +kernel
theorem dX8_game_28 : decode cX8_game 28 = .ok (.invokespecial 106, 3) := by decide +kernel
theorem dX8_game_31 : decode cX8_game 31 = .ok (.athrow, 1) := by decide +kernel
theorem dX8_game_32 : decode cX8_game 32 = .ok (.aload_n 0, 1) := by decide +kernel
theorem dX8_game_33 : decode cX8_game 33 = .ok (.getfield 7, 3) := by decide +kernel
theorem dX8_game_36 : decode cX8_game 36 = .ok (.iconst 0, 1) := by decide +kernel
theorem dX8_game_37 : decode cX8_game 37 = .ok (.iload_n 1, 1) := by decide +kernel
theorem dX8_game_38 : decode cX8_game 38 = .ok (.iastore, 1) := by decide +kernel
theorem dX8_game_39 : decode cX8_game 39 = .ok (.aload_n 0, 1) := by decide +kernel
theorem dX8_game_40 : decode cX8_game 40 = .ok (.getfield 7, 3) := by decide +kernel
theorem dX8_game_43 : decode cX8_game 43 = .ok (.iconst 1, 1) := by decide +kernel
theorem dX8_game_44 : decode cX8_game 44 = .ok (.iload_n 2, 1) := by decide +kernel
theorem dX8_game_45 : decode cX8_game 45 = .ok (.iastore, 1) := by decide +kernel
theorem dX8_game_46 : decode cX8_game 46 = .ok (.iconst 0, 1) := by decide +kernel
theorem dX8_game_47 : decode cX8_game 47 = .ok (.istore_n 3, 1) := by decide +kernel
theorem dX8_game_48 : decode cX8_game 48 = .ok (.iload_n 3, 1) := by decide +kernel
theorem dX8_game_49 : decode cX8_game 49 = .ok (.iconst 2, 1) := by decide +kernel
theorem dX8_game_50 : decode cX8_game 50 = .ok (.if_icmp .ge 41, 3) := by decide +kernel
theorem dX8_game_53 : decode cX8_game 53 = .ok (.aload_n 0, 1) := by decide +kernel
theorem dX8_game_54 : decode cX8_game 54 = .ok (.getfield 16, 3) := by decide +kernel
theorem dX8_game_57 : decode cX8_game 57 = .ok (.iload_n 3, 1) := by decide +kernel
theorem dX8_game_58 : decode cX8_game 58 = .ok (.aaload, 1) := by decide +kernel
theorem dX8_game_59 : decode cX8_game 59 = .ok (.aload_n 0, 1) := by decide +kernel
theorem dX8_game_60 : decode cX8_game 60 = .ok (.getfield 7, 3) := by decide +kernel
theorem dX8_game_63 : decode cX8_game 63 = .ok (.iload_n 3, 1) := by decide +kernel
theorem dX8_game_64 : decode cX8_game 64 = .ok (.iaload, 1) := by decide +kernel
theorem dX8_game_65 : decode cX8_game 65 = .ok (.aload_n 0, 1) := by decide +kernel
theorem dX8_game_66 : decode cX8_game 66 = .ok (.getfield 7, 3) := by decide +kernel
theorem dX8_game_69 : decode cX8_game 69 = .ok (.iconst 1, 1) := by decide +kernel
theorem dX8_game_70 : decode cX8_game 70 = .ok (.iload_n 3, 1) := by decide +kernel
theorem dX8_game_71 : decode cX8_game 71 = .ok (.isub, 1) := by decide +kernel
theorem dX8_game_72 : decode cX8_game 72 = .ok (.iaload, 1) := by decide +kernel
theorem dX8_game_73 : decode cX8_game 73 = .ok (.invokevirtual 109, 3) := by decide +kernel
theorem dX8_game_76 : decode cX8_game 76 = .ok (.aload_n 0, 1) := by decide +kernel
theorem dX8_game_77 : decode cX8_game 77 = .ok (.getfield 23, 3) := by decide +kernel
theorem dX8_game_80 : decode cX8_game 80 = .ok (.iload_n 3, 1) := by decide +kernel
theorem dX8_game_81 : decode cX8_game 81 = .ok (.aaload, 1) := by decide +kernel
theorem dX8_game_82 : decode cX8_game 82 = .ok (.invokevirtual 113, 3) := by decide +kernel
theorem dX8_game_85 : decode cX8_game 85 = .ok (.iinc 3 1, 3) := by decide +kernel
theorem dX8_game_88 : decode cX8_game 88 = .ok (.goto (-40), 3) := by decide +kernel
theorem dX8_game_91 : decode cX8_game 91 = .ok (.aload_n 0, 1) := by decide +kernel
theorem dX8_game_92 : decode cX8_game 92 = .ok (.invokevirtual 115, 3) := by decide +kernel
theorem dX8_game_95 : decode cX8_game 95 = .ok (.return_, 1) := by decide +kernel
theorem dX8_pay_0 : decode cX8_pay 0 = .ok (.aload_n 0, 1) := by decide +kernel
theorem dX8_pay_1 : decode cX8_pay 1 = .ok (.invokevirtual 118, 3) := by decide +kernel
theorem dX8_pay_4 : decode cX8_pay 4 = .ok (.aload_n 0, 1) := by decide +kernel
theorem dX8_pay_5 : decode cX8_pay 5 = .ok (.iload_n 1, 1) := by decide +kernel
theorem dX8_pay_6 : decode cX8_pay 6 = .ok (.invokevirtual 121, 3) := by decide +kernel
theorem dX8_pay_9 : decode cX8_pay 9 = .ok (.aload_n 0, 1) := by decide +kernel
theorem dX8_pay_10 : decode cX8_pay 10 = .ok (.iconst 0, 1) := by decide +kernel
theorem dX8_pay_11 : decode cX8_pay 11 = .ok (.iload_n 2, 1) := by decide +kernel
theorem dX8_pay_12 : decode cX8_pay 12 = .ok (.invokevirtual 125, 3) := by decide +kernel
theorem dX8_pay_15 : decode cX8_pay 15 = .ok (.aload_n 0, 1) := by decide +kernel
theorem dX8_pay_16 : decode cX8_pay 16 = .ok (.iconst 1, 1) := by decide +kernel
theorem dX8_pay_17 : decode cX8_pay 17 = .ok (.iload_n 3, 1) := by decide +kernel
theorem dX8_pay_18 : decode cX8_pay 18 = .ok (.invokevirtual 125, 3) := by decide +kernel
theorem dX8_pay_21 : decode cX8_pay 21 = .ok (.iload 4, 2) := by decide +kernel
theorem dX8_pay_23 : decode cX8_pay 23 = .ok (.sipush (-9999), 3) := by decide +kernel
theorem dX8_pay_26 : decode cX8_pay 26 = .ok (.if_icmp .lt 24, 3) := by decide +kernel
theorem dX8_pay_29 : decode cX8_pay 29 = .ok (.iload 4, 2) := by decide +kernel
theorem dX8_pay_31 : decode cX8_pay 31 = .ok (.sipush 9999, 3) := by decide +kernel
theorem dX8_pay_34 : decode cX8_pay 34 = .ok (.if_icmp .gt 16, 3) := by decide +kernel
theorem dX8_pay_37 : decode cX8_pay 37 = .ok (.iload 5, 2) := by decide +kernel
theorem dX8_pay_39 : decode cX8_pay 39 = .ok (.iconst 1, 1) := by decide +kernel
theorem dX8_pay_40 : decode cX8_pay 40 = .ok (.if_icmp .lt 10, 3) := by decide +kernel
theorem dX8_pay_43 : decode cX8_pay 43 = .ok (.iload 5, 2) := by decide +kernel
theorem dX8_pay_45 : decode cX8_pay 45 = .ok (.bipush 12, 2) := by decide +kernel
theorem dX8_pay_47 : decode cX8_pay 47 = .ok (.if_icmp .le 13, 3) := by decide +kernel
theorem dX8_pay_50 : decode cX8_pay 50 = .ok (.new 102, 3) := by decide +kernel
theorem dX8_pay_53 : decode cX8_pay 53 = .ok (.dup, 1) := by decide +kernel
theorem dX8_pay_54 : decode cX8_pay 54 = .ok (.ldc 128, 2) := by decide +kernel
theorem dX8_pay_56 : decode cX8_pay 56 = .ok (.invokespecial 106, 3) := by decide +kernel
theorem dX8_pay_59 : decode cX8_pay 59 = .ok (.athrow, 1) := by decide +kernel
theorem dX8_pay_60 : decode cX8_pay 60 = .ok (.aload_n 0, 1) := by decide +kernel
theorem dX8_pay_61 : decode cX8_pay 61 = .ok (.getfield 16, 3) := by decide +kernel
theorem dX8_pay_64 : decode cX8_pay 64 = .ok (.iload_n 1, 1) := by decide +kernel
theorem dX8_pay_65 : decode cX8_pay 65 = .ok (.aaload, 1) := by decide +kernel
theorem dX8_pay_66 : decode cX8_pay 66 = .ok (.iload_n 1, 1) := by decide +kernel
theorem dX8_pay_67 : decode cX8_pay 67 = .ok (.ifCond .ne 7, 3) := by decide +kernel
theorem dX8_pay_70 : decode cX8_pay 70 = .ok (.iload_n 2, 1) := by decide +kernel
theorem dX8_pay_71 : decode cX8_pay 71 = .ok (.goto 4, 3) := by decide +kernel
theorem dX8_pay_74 : decode cX8_pay 74 = .ok (.iload_n 3, 1) := by decide +kernel
theorem dX8_pay_75 : decode cX8_pay 75 = .ok (.iload_n 1, 1) := by decide +kernel
theorem dX8_pay_76 : decode cX8_pay 76 = .ok (.ifCond .ne 7, 3) := by decide +kernel
theorem dX8_pay_79 : decode cX8_pay 79 = .ok (.iload_n 3, 1) := by decide +kernel
theorem dX8_pay_80 : decode cX8_pay 80 = .ok (.goto 4, 3) := by decide +kernel
theorem dX8_pay_83 : decode cX8_pay 83 = .ok (.iload_n 2, 1) := by decide +kernel
theorem dX8_pay_84 : decode cX8_pay 84 = .ok (.iload 4, 2) := by decide +kernel
theorem dX8_pay_86 : decode cX8_pay 86 = .ok (.iload 5, 2) := by decide +kernel
theorem dX8_pay_88 : decode cX8_pay 88 = .ok (.invokevirtual 130, 3) := by decide +kernel
theorem dX8_pay_91 : decode cX8_pay 91 = .ok (.aload_n 0, 1) := by decide +kernel
theorem dX8_pay_92 : decode cX8_pay 92 = .ok (.invokevirtual 115, 3) := by decide +kernel
theorem dX8_pay_95 : decode cX8_pay 95 = .ok (.return_, 1) := by decide +kernel
theorem dX8_run_0 : decode cX8_run 0 = .ok (.aload_n 0, 1) := by decide +kernel
theorem dX8_run_1 : decode cX8_run 1 = .ok (.invokevirtual 118, 3) := by decide +kernel
theorem dX8_run_4 : decode cX8_run 4 = .ok (.iload_n 1, 1) := by decide +kernel
theorem dX8_run_5 : decode cX8_run 5 = .ok (.ifCond .lt 20, 3) := by decide +kernel
theorem dX8_run_8 : decode cX8_run 8 = .ok (.iload_n 1, 1) := by decide +kernel
theorem dX8_run_9 : decode cX8_run 9 = .ok (.aload_n 0, 1) := by decide +kernel
theorem dX8_run_10 : decode cX8_run 10 = .ok (.getfield 7, 3) := by decide +kernel
theorem dX8_run_13 : decode cX8_run 13 = .ok (.iconst 0, 1) := by decide +kernel
theorem dX8_run_14 : decode cX8_run 14 = .ok (.iaload, 1) := by decide +kernel
theorem dX8_run_15 : decode cX8_run 15 = .ok (.aload_n 0, 1) := by decide +kernel
theorem dX8_run_16 : decode cX8_run 16 = .ok (.getfield 7, 3) := by decide +kernel
theorem dX8_run_19 : decode cX8_run 19 = .ok (.iconst 1, 1) := by decide +kernel
theorem dX8_run_20 : decode cX8_run 20 = .ok (.iaload, 1) := by decide +kernel
theorem dX8_run_21 : decode cX8_run 21 = .ok (.iadd, 1) := by decide +kernel
theorem dX8_run_22 : decode cX8_run 22 = .ok (.if_icmp .lt 13, 3) := by decide +kernel
theorem dX8_run_25 : decode cX8_run 25 = .ok (.new 102, 3) := by decide +kernel
theorem dX8_run_28 : decode cX8_run 28 = .ok (.dup, 1) := by decide +kernel
theorem dX8_run_29 : decode cX8_run 29 = .ok (.ldc 134, 2) := by decide +kernel
theorem dX8_run_31 : decode cX8_run 31 = .ok (.invokespecial 106, 3) := by decide +kernel
theorem dX8_run_34 : decode cX8_run 34 = .ok (.athrow, 1) := by decide +kernel
theorem dX8_run_35 : decode cX8_run 35 = .ok (.aload_n 0, 1) := by decide +kernel
theorem dX8_run_36 : decode cX8_run 36 = .ok (.getfield 33, 3) := by decide +kernel
theorem dX8_run_39 : decode cX8_run 39 = .ok (.iconst 0, 1) := by decide +kernel
theorem dX8_run_40 : decode cX8_run 40 = .ok (.aaload, 1) := by decide +kernel
theorem dX8_run_41 : decode cX8_run 41 = .ok (.aload_n 0, 1) := by decide +kernel
theorem dX8_run_42 : decode cX8_run 42 = .ok (.getfield 16, 3) := by decide +kernel
theorem dX8_run_45 : decode cX8_run 45 = .ok (.iconst 1, 1) := by decide +kernel
theorem dX8_run_46 : decode cX8_run 46 = .ok (.aaload, 1) := by decide +kernel
theorem dX8_run_47 : decode cX8_run 47 = .ok (.aload_n 0, 1) := by decide +kernel
theorem dX8_run_48 : decode cX8_run 48 = .ok (.getfield 7, 3) := by decide +kernel
theorem dX8_run_51 : decode cX8_run 51 = .ok (.iconst 0, 1) := by decide +kernel
theorem dX8_run_52 : decode cX8_run 52 = .ok (.iaload, 1) := by decide +kernel
theorem dX8_run_53 : decode cX8_run 53 = .ok (.iconst 0, 1) := by decide +kernel
theorem dX8_run_54 : decode cX8_run 54 = .ok (.invokevirtual 136, 3) := by decide +kernel
theorem dX8_run_57 : decode cX8_run 57 = .ok (.aload_n 0, 1) := by decide +kernel
theorem dX8_run_58 : decode cX8_run 58 = .ok (.getfield 33, 3) := by decide +kernel
theorem dX8_run_61 : decode cX8_run 61 = .ok (.iconst 1, 1) := by decide +kernel
theorem dX8_run_62 : decode cX8_run 62 = .ok (.aaload, 1) := by decide +kernel
theorem dX8_run_63 : decode cX8_run 63 = .ok (.aload_n 0, 1) := by decide +kernel
theorem dX8_run_64 : decode cX8_run 64 = .ok (.getfield 16, 3) := by decide +kernel
theorem dX8_run_67 : decode cX8_run 67 = .ok (.iconst 0, 1) := by decide +kernel
theorem dX8_run_68 : decode cX8_run 68 = .ok (.aaload, 1) := by decide +kernel
theorem dX8_run_69 : decode cX8_run 69 = .ok (.iconst 0, 1) := by decide +kernel
theorem dX8_run_70 : decode cX8_run 70 = .ok (.aload_n 0, 1) := by decide +kernel
theorem dX8_run_71 : decode cX8_run 71 = .ok (.getfield 7, 3) := by decide +kernel
theorem dX8_run_74 : decode cX8_run 74 = .ok (.iconst 0, 1) := by decide +kernel
theorem dX8_run_75 : decode cX8_run 75 = .ok (.iaload, 1) := by decide +kernel
theorem dX8_run_76 : decode cX8_run 76 = .ok (.invokevirtual 136, 3) := by decide +kernel
theorem dX8_run_79 : decode cX8_run 79 = .ok (.iload_n 1, 1) := by decide +kernel
theorem dX8_run_80 : decode cX8_run 80 = .ok (.aload_n 0, 1) := by decide +kernel
theorem dX8_run_81 : decode cX8_run 81 = .ok (.getfield 7, 3) := by decide +kernel
theorem dX8_run_84 : decode cX8_run 84 = .ok (.iconst 0, 1) := by decide +kernel
theorem dX8_run_85 : decode cX8_run 85 = .ok (.iaload, 1) := by decide +kernel
theorem dX8_run_86 : decode cX8_run 86 = .ok (.if_icmp .ge 7, 3) := by decide +kernel
theorem dX8_run_89 : decode cX8_run 89 = .ok (.iconst 0, 1) := by decide +kernel
theorem dX8_run_90 : decode cX8_run 90 = .ok (.goto 4, 3) := by decide +kernel
theorem dX8_run_93 : decode cX8_run 93 = .ok (.iconst 1, 1) := by decide +kernel
theorem dX8_run_94 : decode cX8_run 94 = .ok (.istore_n 2, 1) := by decide +kernel
theorem dX8_run_95 : decode cX8_run 95 = .ok (.iload_n 1, 1) := by decide +kernel
theorem dX8_run_96 : decode cX8_run 96 = .ok (.istore_n 3, 1) := by decide +kernel
theorem dX8_run_97 : decode cX8_run 97 = .ok (.iconst 0, 1) := by decide +kernel
theorem dX8_run_98 : decode cX8_run 98 = .ok (.istore 4, 2) := by decide +kernel
theorem dX8_run_100 : decode cX8_run 100 = .ok (.iconst 0, 1) := by decide +kernel
theorem dX8_run_101 : decode cX8_run 101 = .ok (.istore 5, 2) := by decide +kernel
theorem dX8_run_103 : decode cX8_run 103 = .ok (.iload 5, 2) := by decide +kernel
theorem dX8_run_105 : decode cX8_run 105 = .ok (.ifCond .ne 80, 3) := by decide +kernel
theorem dX8_run_108 : decode cX8_run 108 = .ok (.iload 4, 2) := by decide +kernel
theorem dX8_run_110 : decode cX8_run 110 = .ok (.sipush 256, 3) := by decide +kernel
theorem dX8_run_113 : decode cX8_run 113 = .ok (.if_icmp .ge 72, 3) := by decide +kernel
theorem dX8_run_116 : decode cX8_run 116 = .ok (.aload_n 0, 1) := by decide +kernel
theorem dX8_run_117 : decode cX8_run 117 = .ok (.getfield 33, 3) := by decide +kernel
theorem dX8_run_120 : decode cX8_run 120 = .ok (.iload_n 2, 1) := by decide +kernel
theorem dX8_run_121 : decode cX8_run 121 = .ok (.aaload, 1) := by decide +kernel
theorem dX8_run_122 : decode cX8_run 122 = .ok (.iload_n 3, 1) := by decide +kernel
theorem dX8_run_123 : decode cX8_run 123 = .ok (.invokevirtual 140, 3) := by decide +kernel
theorem dX8_run_126 : decode cX8_run 126 = .ok (.istore 6, 2) := by decide +kernel
theorem dX8_run_128 : decode cX8_run 128 = .ok (.aload_n 0, 1) := by decide +kernel
theorem dX8_run_129 : decode cX8_run 129 = .ok (.getfield 39, 3) := by decide +kernel
theorem dX8_run_132 : decode cX8_run 132 = .ok (.iconst 0, 1) := by decide +kernel
theorem dX8_run_133 : decode cX8_run 133 = .ok (.aaload, 1) := by decide +kernel
theorem dX8_run_134 : decode cX8_run 134 = .ok (.iload 4, 2) := by decide +kernel
theorem dX8_run_136 : decode cX8_run 136 = .ok (.iload_n 3, 1) := by decide +kernel
theorem dX8_run_137 : decode cX8_run 137 = .ok (.iastore, 1) := by decide +kernel
theorem dX8_run_138 : decode cX8_run 138 = .ok (.aload_n 0, 1) := by decide +kernel
theorem dX8_run_139 : decode cX8_run 139 = .ok (.getfield 39, 3) := by decide +kernel
theorem dX8_run_142 : decode cX8_run 142 = .ok (.iconst 1, 1) := by decide +kernel
theorem dX8_run_143 : decode cX8_run 143 = .ok (.aaload, 1) := by decide +kernel
theorem dX8_run_144 : decode cX8_run 144 = .ok (.iload 4, 2) := by decide +kernel
theorem dX8_run_146 : decode cX8_run 146 = .ok (.iload 6, 2) := by decide +kernel
theorem dX8_run_148 : decode cX8_run 148 = .ok (.iastore, 1) := by decide +kernel
theorem dX8_run_149 : decode cX8_run 149 = .ok (.aload_n 0, 1) := by decide +kernel
theorem dX8_run_150 : decode cX8_run 150 = .ok (.getfield 39, 3) := by decide +kernel
theorem dX8_run_153 : decode cX8_run 153 = .ok (.iconst 2, 1) := by decide +kernel
theorem dX8_run_154 : decode cX8_run 154 = .ok (.aaload, 1) := by decide +kernel
theorem dX8_run_155 : decode cX8_run 155 = .ok (.iload 4, 2) := by decide +kernel
theorem dX8_run_157 : decode cX8_run 157 = .ok (.iload_n 2, 1) := by decide +kernel
theorem dX8_run_158 : decode cX8_run 158 = .ok (.iastore, 1) := by decide +kernel
theorem dX8_run_159 : decode cX8_run 159 = .ok (.iinc 4 1, 3) := by decide +kernel
theorem dX8_run_162 : decode cX8_run 162 = .ok (.iload 6, 2) := by decide +kernel
theorem dX8_run_164 : decode cX8_run 164 = .ok (.iload_n 1, 1) := by decide +kernel
theorem dX8_run_165 : decode cX8_run 165 = .ok (.if_icmp .ne 7, 3) := by decide +kernel
theorem dX8_run_168 : decode cX8_run 168 = .ok (.iconst 1, 1) := by decide +kernel
theorem dX8_run_169 : decode cX8_run 169 = .ok (.goto 4, 3) := by decide +kernel
theorem dX8_run_172 : decode cX8_run 172 = .ok (.iconst 0, 1) := by decide +kernel
theorem dX8_run_173 : decode cX8_run 173 = .ok (.istore 5, 2) := by decide +kernel
theorem dX8_run_175 : decode cX8_run 175 = .ok (.iload 6, 2) := by decide +kernel
theorem dX8_run_177 : decode cX8_run 177 = .ok (.istore_n 3, 1) := by decide +kernel
theorem dX8_run_178 : decode cX8_run 178 = .ok (.iconst 1, 1) := by decide +kernel
theorem dX8_run_179 : decode cX8_run 179 = .ok (.iload_n 2, 1) := by decide +kernel
theorem dX8_run_180 : decode cX8_run 180 = .ok (.isub, 1) := by decide +kernel
theorem dX8_run_181 : decode cX8_run 181 = .ok (.istore_n 2, 1) := by decide +kernel
theorem dX8_run_182 : decode cX8_run 182 = .ok (.goto (-79), 3) := by decide +kernel
theorem dX8_run_185 : decode cX8_run 185 = .ok (.aload_n 0, 1) := by decide +kernel
theorem dX8_run_186 : decode cX8_run 186 = .ok (.iload 4, 2) := by decide +kernel
theorem dX8_run_188 : decode cX8_run 188 = .ok (.putfield 42, 3) := by decide +kernel
theorem dX8_run_191 : decode cX8_run 191 = .ok (.aload_n 0, 1) := by decide +kernel
theorem dX8_run_192 : decode cX8_run 192 = .ok (.iload_n 1, 1) := by decide +kernel
theorem dX8_run_193 : decode cX8_run 193 = .ok (.putfield 46, 3) := by decide +kernel
theorem dX8_run_196 : decode cX8_run 196 = .ok (.aload_n 0, 1) := by decide +kernel
theorem dX8_run_197 : decode cX8_run 197 = .ok (.getfield 42, 3) := by decide +kernel
theorem dX8_run_200 : decode cX8_run 200 = .ok (.ireturn, 1) := by decide +kernel
theorem dX8_step_0 : decode cX8_step 0 = .ok (.aload_n 0, 1) := by decide +kernel
theorem dX8_step_1 : decode cX8_step 1 = .ok (.getfield 42, 3) := by decide +kernel
theorem dX8_step_4 : decode cX8_step 4 = .ok (.ifCond .ne 13, 3) := by decide +kernel
theorem dX8_step_7 : decode cX8_step 7 = .ok (.new 144, 3) := by decide +kernel
theorem dX8_step_10 : decode cX8_step 10 = .ok (.dup, 1) := by decide +kernel
theorem dX8_step_11 : decode cX8_step 11 = .ok (.ldc 146, 2) := by decide +kernel
theorem dX8_step_13 : decode cX8_step 13 = .ok (.invokespecial 148, 3) := by decide +kernel
theorem dX8_step_16 : decode cX8_step 16 = .ok (.athrow, 1) := by decide +kernel
theorem dX8_step_17 : decode cX8_step 17 = .ok (.iload_n 1, 1) := by decide +kernel
theorem dX8_step_18 : decode cX8_step 18 = .ok (.ifCond .lt 11, 3) := by decide +kernel
theorem dX8_step_21 : decode cX8_step 21 = .ok (.iload_n 1, 1) := by decide +kernel
theorem dX8_step_22 : decode cX8_step 22 = .ok (.aload_n 0, 1) := by decide +kernel
theorem dX8_step_23 : decode cX8_step 23 = .ok (.getfield 42, 3) := by decide +kernel
theorem dX8_step_26 : decode cX8_step 26 = .ok (.if_icmp .lt 13, 3) := by decide +kernel
theorem dX8_step_29 : decode cX8_step 29 = .ok (.new 149, 3) := by decide +kernel
theorem dX8_step_32 : decode cX8_step 32 = .ok (.dup, 1) := by decide +kernel
theorem dX8_step_33 : decode cX8_step 33 = .ok (.ldc 151, 2) := by decide +kernel
theorem dX8_step_35 : decode cX8_step 35 = .ok (.invokespecial 153, 3) := by decide +kernel
theorem dX8_step_38 : decode cX8_step 38 = .ok (.athrow, 1) := by decide +kernel
theorem dX8_step_39 : decode cX8_step 39 = .ok (.iload_n 2, 1) := by decide +kernel
theorem dX8_step_40 : decode cX8_step 40 = .ok (.ifCond .lt 8, 3) := by decide +kernel
theorem dX8_step_43 : decode cX8_step 43 = .ok (.iload_n 2, 1) := by decide +kernel
theorem dX8_step_44 : decode cX8_step 44 = .ok (.iconst 2, 1) := by decide +kernel
theorem dX8_step_45 : decode cX8_step 45 = .ok (.if_icmp .le 13, 3) := by decide +kernel
theorem dX8_step_48 : decode cX8_step 48 = .ok (.new 102, 3) := by decide +kernel
theorem dX8_step_51 : decode cX8_step 51 = .ok (.dup, 1) := by decide +kernel
theorem dX8_step_52 : decode cX8_step 52 = .ok (.ldc 154, 2) := by decide +kernel
theorem dX8_step_54 : decode cX8_step 54 = .ok (.invokespecial 106, 3) := by decide +kernel
theorem dX8_step_57 : decode cX8_step 57 = .ok (.athrow, 1) := by decide +kernel
theorem dX8_step_58 : decode cX8_step 58 = .ok (.aload_n 0, 1) := by decide +kernel
theorem dX8_step_59 : decode cX8_step 59 = .ok (.getfield 39, 3) := by decide +kernel
theorem dX8_step_62 : decode cX8_step 62 = .ok (.iload_n 2, 1) := by decide +kernel
theorem dX8_step_63 : decode cX8_step 63 = .ok (.aaload, 1) := by decide +kernel
theorem dX8_step_64 : decode cX8_step 64 = .ok (.iload_n 1, 1) := by decide +kernel
theorem dX8_step_65 : decode cX8_step 65 = .ok (.iaload, 1) := by decide +kernel
theorem dX8_step_66 : decode cX8_step 66 = .ok (.ireturn, 1) := by decide +kernel
theorem dX8_weight_0 : decode cX8_weight 0 = .ok (.aload_n 0, 1) := by decide +kernel
theorem dX8_weight_1 : decode cX8_weight 1 = .ok (.invokevirtual 118, 3) := by decide +kernel
theorem dX8_weight_4 : decode cX8_weight 4 = .ok (.aload_n 0, 1) := by decide +kernel
theorem dX8_weight_5 : decode cX8_weight 5 = .ok (.iload_n 1, 1) := by decide +kernel
theorem dX8_weight_6 : decode cX8_weight 6 = .ok (.invokevirtual 121, 3) := by decide +kernel
theorem dX8_weight_9 : decode cX8_weight 9 = .ok (.aload_n 0, 1) := by decide +kernel
theorem dX8_weight_10 : decode cX8_weight 10 = .ok (.iload_n 1, 1) := by decide +kernel
theorem dX8_weight_11 : decode cX8_weight 11 = .ok (.iload_n 2, 1) := by decide +kernel
theorem dX8_weight_12 : decode cX8_weight 12 = .ok (.invokevirtual 125, 3) := by decide +kernel
theorem dX8_weight_15 : decode cX8_weight 15 = .ok (.iload_n 3, 1) := by decide +kernel
theorem dX8_weight_16 : decode cX8_weight 16 = .ok (.ifCond .lt 24, 3) := by decide +kernel
theorem dX8_weight_19 : decode cX8_weight 19 = .ok (.iload_n 3, 1) := by decide +kernel
theorem dX8_weight_20 : decode cX8_weight 20 = .ok (.sipush 999, 3) := by decide +kernel
theorem dX8_weight_23 : decode cX8_weight 23 = .ok (.if_icmp .gt 17, 3) := by decide +kernel
theorem dX8_weight_26 : decode cX8_weight 26 = .ok (.iload 4, 2) := by decide +kernel
theorem dX8_weight_28 : decode cX8_weight 28 = .ok (.iconst 1, 1) := by decide +kernel
theorem dX8_weight_29 : decode cX8_weight 29 = .ok (.if_icmp .lt 11, 3) := by decide +kernel
theorem dX8_weight_32 : decode cX8_weight 32 = .ok (.iload 4, 2) := by decide +kernel
theorem dX8_weight_34 : decode cX8_weight 34 = .ok (.sipush 999, 3) := by decide +kernel
theorem dX8_weight_37 : decode cX8_weight 37 = .ok (.if_icmp .le 13, 3) := by decide +kernel
theorem dX8_weight_40 : decode cX8_weight 40 = .ok (.new 102, 3) := by decide +kernel
theorem dX8_weight_43 : decode cX8_weight 43 = .ok (.dup, 1) := by decide +kernel
theorem dX8_weight_44 : decode cX8_weight 44 = .ok (.ldc 156, 2) := by decide +kernel
theorem dX8_weight_46 : decode cX8_weight 46 = .ok (.invokespecial 106, 3) := by decide +kernel
theorem dX8_weight_49 : decode cX8_weight 49 = .ok (.athrow, 1) := by decide +kernel
theorem dX8_weight_50 : decode cX8_weight 50 = .ok (.aload_n 0, 1) := by decide +kernel
theorem dX8_weight_51 : decode cX8_weight 51 = .ok (.getfield 23, 3) := by decide +kernel
theorem dX8_weight_54 : decode cX8_weight 54 = .ok (.iload_n 1, 1) := by decide +kernel
theorem dX8_weight_55 : decode cX8_weight 55 = .ok (.aaload, 1) := by decide +kernel
theorem dX8_weight_56 : decode cX8_weight 56 = .ok (.iload_n 2, 1) := by decide +kernel
theorem dX8_weight_57 : decode cX8_weight 57 = .ok (.iload_n 3, 1) := by decide +kernel
theorem dX8_weight_58 : decode cX8_weight 58 = .ok (.iload 4, 2) := by decide +kernel
theorem dX8_weight_60 : decode cX8_weight 60 = .ok (.invokevirtual 158, 3) := by decide +kernel
theorem dX8_weight_63 : decode cX8_weight 63 = .ok (.return_, 1) := by decide +kernel
theorem dX8_list_0 : decode cX8_list 0 = .ok (.aload_n 0, 1) := by decide +kernel
theorem dX8_list_1 : decode cX8_list 1 = .ok (.invokevirtual 118, 3) := by decide +kernel
theorem dX8_list_4 : decode cX8_list 4 = .ok (.aload_n 0, 1) := by decide +kernel
theorem dX8_list_5 : decode cX8_list 5 = .ok (.getfield 59, 3) := by decide +kernel
theorem dX8_list_8 : decode cX8_list 8 = .ok (.ifCond .ne 7, 3) := by decide +kernel
theorem dX8_list_11 : decode cX8_list 11 = .ok (.aload_n 0, 1) := by decide +kernel
theorem dX8_list_12 : decode cX8_list 12 = .ok (.invokevirtual 161, 3) := by decide +kernel
theorem dX8_list_15 : decode cX8_list 15 = .ok (.aload_n 0, 1) := by decide +kernel
theorem dX8_list_16 : decode cX8_list 16 = .ok (.getfield 56, 3) := by decide +kernel
theorem dX8_list_19 : decode cX8_list 19 = .ok (.ireturn, 1) := by decide +kernel
theorem dX8_support_0 : decode cX8_support 0 = .ok (.aload_n 0, 1) := by decide +kernel
theorem dX8_support_1 : decode cX8_support 1 = .ok (.iload_n 1, 1) := by decide +kernel
theorem dX8_support_2 : decode cX8_support 2 = .ok (.invokevirtual 164, 3) := by decide +kernel
theorem dX8_support_5 : decode cX8_support 5 = .ok (.aload_n 0, 1) := by decide +kernel
theorem dX8_support_6 : decode cX8_support 6 = .ok (.iload_n 2, 1) := by decide +kernel
theorem dX8_support_7 : decode cX8_support 7 = .ok (.invokevirtual 121, 3) := by decide +kernel
theorem dX8_support_10 : decode cX8_support 10 = .ok (.aload_n 0, 1) := by decide +kernel
theorem dX8_support_11 : decode cX8_support 11 = .ok (.iload_n 1, 1) := by decide +kernel
theorem dX8_support_12 : decode cX8_support 12 = .ok (.invokevirtual 167, 3) := by decide +kernel
theorem dX8_support_15 : decode cX8_support 15 = .ok (.aload_n 0, 1) := by decide +kernel
theorem dX8_support_16 : decode cX8_support 16 = .ok (.getfield 66, 3) := by decide +kernel
theorem dX8_support_19 : decode cX8_support 19 = .ok (.iload_n 2, 1) := by decide +kernel
theorem dX8_support_20 : decode cX8_support 20 = .ok (.aaload, 1) := by decide +kernel
theorem dX8_support_21 : decode cX8_support 21 = .ok (.invokevirtual 170, 3) := by decide +kernel
theorem dX8_support_24 : decode cX8_support 24 = .ok (.ireturn, 1) := by decide +kernel
theorem dX8_strategy_0 : decode cX8_strategy 0 = .ok (.aload_n 0, 1) := by decide +kernel
theorem dX8_strategy_1 : decode cX8_strategy 1 = .ok (.iload_n 1, 1) := by decide +kernel
theorem dX8_strategy_2 : decode cX8_strategy 2 = .ok (.invokevirtual 164, 3) := by decide +kernel
theorem dX8_strategy_5 : decode cX8_strategy 5 = .ok (.aload_n 0, 1) := by decide +kernel
theorem dX8_strategy_6 : decode cX8_strategy 6 = .ok (.iload_n 2, 1) := by decide +kernel
theorem dX8_strategy_7 : decode cX8_strategy 7 = .ok (.invokevirtual 121, 3) := by decide +kernel
theorem dX8_strategy_10 : decode cX8_strategy 10 = .ok (.aload_n 0, 1) := by decide +kernel
theorem dX8_strategy_11 : decode cX8_strategy 11 = .ok (.iload_n 2, 1) := by decide +kernel
theorem dX8_strategy_12 : decode cX8_strategy 12 = .ok (.iload_n 3, 1) := by decide +kernel
theorem dX8_strategy_13 : decode cX8_strategy 13 = .ok (.invokevirtual 125, 3) := by decide +kernel
theorem dX8_strategy_16 : decode cX8_strategy 16 = .ok (.aload_n 0, 1) := by decide +kernel
theorem dX8_strategy_17 : decode cX8_strategy 17 = .ok (.iload_n 1, 1) := by decide +kernel
theorem dX8_strategy_18 : decode cX8_strategy 18 = .ok (.invokevirtual 167, 3) := by decide +kernel
theorem dX8_strategy_21 : decode cX8_strategy 21 = .ok (.aload_n 0, 1) := by decide +kernel
theorem dX8_strategy_22 : decode cX8_strategy 22 = .ok (.getfield 91, 3) := by decide +kernel
theorem dX8_strategy_25 : decode cX8_strategy 25 = .ok (.getfield 174, 3) := by decide +kernel
theorem dX8_strategy_28 : decode cX8_strategy 28 = .ok (.aload_n 0, 1) := by decide +kernel
theorem dX8_strategy_29 : decode cX8_strategy 29 = .ok (.getfield 66, 3) := by decide +kernel
theorem dX8_strategy_32 : decode cX8_strategy 32 = .ok (.iload_n 2, 1) := by decide +kernel
theorem dX8_strategy_33 : decode cX8_strategy 33 = .ok (.aaload, 1) := by decide +kernel
theorem dX8_strategy_34 : decode cX8_strategy 34 = .ok (.getfield 177, 3) := by decide +kernel
theorem dX8_strategy_37 : decode cX8_strategy 37 = .ok (.iload_n 3, 1) := by decide +kernel
theorem dX8_strategy_38 : decode cX8_strategy 38 = .ok (.aaload, 1) := by decide +kernel
theorem dX8_strategy_39 : decode cX8_strategy 39 = .ok (.invokevirtual 180, 3) := by decide +kernel
theorem dX8_strategy_42 : decode cX8_strategy 42 = .ok (.aload_n 0, 1) := by decide +kernel
theorem dX8_strategy_43 : decode cX8_strategy 43 = .ok (.getfield 91, 3) := by decide +kernel
theorem dX8_strategy_46 : decode cX8_strategy 46 = .ok (.getfield 184, 3) := by decide +kernel
theorem dX8_strategy_49 : decode cX8_strategy 49 = .ok (.aload_n 0, 1) := by decide +kernel
theorem dX8_strategy_50 : decode cX8_strategy 50 = .ok (.getfield 66, 3) := by decide +kernel
theorem dX8_strategy_53 : decode cX8_strategy 53 = .ok (.iload_n 2, 1) := by decide +kernel
theorem dX8_strategy_54 : decode cX8_strategy 54 = .ok (.aaload, 1) := by decide +kernel
theorem dX8_strategy_55 : decode cX8_strategy 55 = .ok (.getfield 187, 3) := by decide +kernel
theorem dX8_strategy_58 : decode cX8_strategy 58 = .ok (.invokevirtual 180, 3) := by decide +kernel
theorem dX8_strategy_61 : decode cX8_strategy 61 = .ok (.aload_n 0, 1) := by decide +kernel
theorem dX8_strategy_62 : decode cX8_strategy 62 = .ok (.getfield 91, 3) := by decide +kernel
theorem dX8_strategy_65 : decode cX8_strategy 65 = .ok (.aload_n 0, 1) := by decide +kernel
theorem dX8_strategy_66 : decode cX8_strategy 66 = .ok (.getfield 98, 3) := by decide +kernel
theorem dX8_strategy_69 : decode cX8_strategy 69 = .ok (.invokevirtual 190, 3) := by decide +kernel
theorem dX8_strategy_72 : decode cX8_strategy 72 = .ok (.aload_n 0, 1) := by decide +kernel
theorem dX8_strategy_73 : decode cX8_strategy 73 = .ok (.getfield 91, 3) := by decide +kernel
theorem dX8_strategy_76 : decode cX8_strategy 76 = .ok (.getfield 174, 3) := by decide +kernel
theorem dX8_strategy_79 : decode cX8_strategy 79 = .ok (.getfield 194, 3) := by decide +kernel
theorem dX8_strategy_82 : decode cX8_strategy 82 = .ok (.ireturn, 1) := by decide +kernel
theorem dX8_gets_0 : decode cX8_gets 0 = .ok (.aload_n 0, 1) := by decide +kernel
theorem dX8_gets_1 : decode cX8_gets 1 = .ok (.iload_n 1, 1) := by decide +kernel
theorem dX8_gets_2 : decode cX8_gets 2 = .ok (.invokevirtual 164, 3) := by decide +kernel
theorem dX8_gets_5 : decode cX8_gets 5 = .ok (.aload_n 0, 1) := by decide +kernel
theorem dX8_gets_6 : decode cX8_gets 6 = .ok (.iload_n 2, 1) := by decide +kernel
theorem dX8_gets_7 : decode cX8_gets 7 = .ok (.invokevirtual 121, 3) := by decide +kernel
theorem dX8_gets_10 : decode cX8_gets 10 = .ok (.iload_n 3, 1) := by decide +kernel
theorem dX8_gets_11 : decode cX8_gets 11 = .ok (.iconst (-1), 1) := by decide +kernel
theorem dX8_gets_12 : decode cX8_gets 12 = .ok (.if_icmp .eq 9, 3) := by decide +kernel
theorem dX8_gets_15 : decode cX8_gets 15 = .ok (.aload_n 0, 1) := by decide +kernel
theorem dX8_gets_16 : decode cX8_gets 16 = .ok (.iload_n 2, 1) := by decide +kernel
theorem dX8_gets_17 : decode cX8_gets 17 = .ok (.iload_n 3, 1) := by decide +kernel
theorem dX8_gets_18 : decode cX8_gets 18 = .ok (.invokevirtual 125, 3) := by decide +kernel
theorem dX8_gets_21 : decode cX8_gets 21 = .ok (.aload_n 0, 1) := by decide +kernel
theorem dX8_gets_22 : decode cX8_gets 22 = .ok (.iload_n 1, 1) := by decide +kernel
theorem dX8_gets_23 : decode cX8_gets 23 = .ok (.invokevirtual 167, 3) := by decide +kernel
theorem dX8_gets_26 : decode cX8_gets 26 = .ok (.iload_n 3, 1) := by decide +kernel
theorem dX8_gets_27 : decode cX8_gets 27 = .ok (.iconst (-1), 1) := by decide +kernel
theorem dX8_gets_28 : decode cX8_gets 28 = .ok (.if_icmp .ne 20, 3) := by decide +kernel
theorem dX8_gets_31 : decode cX8_gets 31 = .ok (.aload_n 0, 1) := by decide +kernel
theorem dX8_gets_32 : decode cX8_gets 32 = .ok (.iload_n 2, 1) := by decide +kernel
theorem dX8_gets_33 : decode cX8_gets 33 = .ok (.invokevirtual 197, 3) := by decide +kernel
theorem dX8_gets_36 : decode cX8_gets 36 = .ok (.aload_n 0, 1) := by decide +kernel
theorem dX8_gets_37 : decode cX8_gets 37 = .ok (.iload_n 2, 1) := by decide +kernel
theorem dX8_gets_38 : decode cX8_gets 38 = .ok (.aload_n 0, 1) := by decide +kernel
theorem dX8_gets_39 : decode cX8_gets 39 = .ok (.getfield 85, 3) := by decide +kernel
theorem dX8_gets_42 : decode cX8_gets 42 = .ok (.invokevirtual 200, 3) := by decide +kernel
theorem dX8_gets_45 : decode cX8_gets 45 = .ok (.goto 95, 3) := by decide +kernel
theorem dX8_gets_48 : decode cX8_gets 48 = .ok (.aload_n 0, 1) := by decide +kernel
theorem dX8_gets_49 : decode cX8_gets 49 = .ok (.getfield 91, 3) := by decide +kernel
theorem dX8_gets_52 : decode cX8_gets 52 = .ok (.getfield 174, 3) := by decide +kernel
theorem dX8_gets_55 : decode cX8_gets 55 = .ok (.invokevirtual 204, 3) := by decide +kernel
theorem dX8_gets_58 : decode cX8_gets 58 = .ok (.aload_n 0, 1) := by decide +kernel
theorem dX8_gets_59 : decode cX8_gets 59 = .ok (.getfield 16, 3) := by decide +kernel
theorem dX8_gets_62 : decode cX8_gets 62 = .ok (.iload_n 2, 1) := by decide +kernel
theorem dX8_gets_63 : decode cX8_gets 63 = .ok (.aaload, 1) := by decide +kernel
theorem dX8_gets_64 : decode cX8_gets 64 = .ok (.iload_n 3, 1) := by decide +kernel
theorem dX8_gets_65 : decode cX8_gets 65 = .ok (.aload_n 0, 1) := by decide +kernel
theorem dX8_gets_66 : decode cX8_gets 66 = .ok (.getfield 66, 3) := by decide +kernel
theorem dX8_gets_69 : decode cX8_gets 69 = .ok (.iconst 1, 1) := by decide +kernel
theorem dX8_gets_70 : decode cX8_gets 70 = .ok (.iload_n 2, 1) := by decide +kernel
theorem dX8_gets_71 : decode cX8_gets 71 = .ok (.isub, 1) := by decide +kernel
theorem dX8_gets_72 : decode cX8_gets 72 = .ok (.aaload, 1) := by decide +kernel
theorem dX8_gets_73 : decode cX8_gets 73 = .ok (.aload_n 0, 1) := by decide +kernel
theorem dX8_gets_74 : decode cX8_gets 74 = .ok (.getfield 91, 3) := by decide +kernel
theorem dX8_gets_77 : decode cX8_gets 77 = .ok (.getfield 174, 3) := by decide +kernel
theorem dX8_gets_80 : decode cX8_gets 80 = .ok (.aload_n 0, 1) := by decide +kernel
theorem dX8_gets_81 : decode cX8_gets 81 = .ok (.getfield 81, 3) := by decide +kernel
theorem dX8_gets_84 : decode cX8_gets 84 = .ok (.invokevirtual 207, 3) := by decide +kernel
theorem dX8_gets_87 : decode cX8_gets 87 = .ok (.aload_n 0, 1) := by decide +kernel
theorem dX8_gets_88 : decode cX8_gets 88 = .ok (.getfield 91, 3) := by decide +kernel
theorem dX8_gets_91 : decode cX8_gets 91 = .ok (.getfield 184, 3) := by decide +kernel
theorem dX8_gets_94 : decode cX8_gets 94 = .ok (.aload_n 0, 1) := by decide +kernel
theorem dX8_gets_95 : decode cX8_gets 95 = .ok (.getfield 16, 3) := by decide +kernel
theorem dX8_gets_98 : decode cX8_gets 98 = .ok (.iload_n 2, 1) := by decide +kernel
theorem dX8_gets_99 : decode cX8_gets 99 = .ok (.aaload, 1) := by decide +kernel
theorem dX8_gets_100 : decode cX8_gets 100 = .ok (.getfield 211, 3) := by decide +kernel
theorem dX8_gets_103 : decode cX8_gets 103 = .ok (.i2l, 1) := by decide +kernel
theorem dX8_gets_104 : decode cX8_gets 104 = .ok (.invokevirtual 214, 3) := by decide +kernel
theorem dX8_gets_107 : decode cX8_gets 107 = .ok (.aload_n 0, 1) := by decide +kernel
theorem dX8_gets_108 : decode cX8_gets 108 = .ok (.getfield 91, 3) := by decide +kernel
theorem dX8_gets_111 : decode cX8_gets 111 = .ok (.aload_n 0, 1) := by decide +kernel
theorem dX8_gets_112 : decode cX8_gets 112 = .ok (.getfield 66, 3) := by decide +kernel
theorem dX8_gets_115 : decode cX8_gets 115 = .ok (.iconst 1, 1) := by decide +kernel
theorem dX8_gets_116 : decode cX8_gets 116 = .ok (.iload_n 2, 1) := by decide +kernel
theorem dX8_gets_117 : decode cX8_gets 117 = .ok (.isub, 1) := by decide +kernel
theorem dX8_gets_118 : decode cX8_gets 118 = .ok (.aaload, 1) := by decide +kernel
theorem dX8_gets_119 : decode cX8_gets 119 = .ok (.getfield 187, 3) := by decide +kernel
theorem dX8_gets_122 : decode cX8_gets 122 = .ok (.aload_n 0, 1) := by decide +kernel
theorem dX8_gets_123 : decode cX8_gets 123 = .ok (.getfield 81, 3) := by decide +kernel
theorem dX8_gets_126 : decode cX8_gets 126 = .ok (.invokevirtual 218, 3) := by decide +kernel
theorem dX8_gets_129 : decode cX8_gets 129 = .ok (.aload_n 0, 1) := by decide +kernel
theorem dX8_gets_130 : decode cX8_gets 130 = .ok (.getfield 91, 3) := by decide +kernel
theorem dX8_gets_133 : decode cX8_gets 133 = .ok (.aload_n 0, 1) := by decide +kernel
theorem dX8_gets_134 : decode cX8_gets 134 = .ok (.getfield 98, 3) := by decide +kernel
theorem dX8_gets_137 : decode cX8_gets 137 = .ok (.invokevirtual 190, 3) := by decide +kernel
theorem dX8_gets_140 : decode cX8_gets 140 = .ok (.aload_n 0, 1) := by decide +kernel
theorem dX8_gets_141 : decode cX8_gets 141 = .ok (.getfield 91, 3) := by decide +kernel
theorem dX8_gets_144 : decode cX8_gets 144 = .ok (.getfield 174, 3) := by decide +kernel
theorem dX8_gets_147 : decode cX8_gets 147 = .ok (.getfield 194, 3) := by decide +kernel
theorem dX8_gets_150 : decode cX8_gets 150 = .ok (.ireturn, 1) := by decide +kernel
theorem dX8_replies_0 : decode cX8_replies 0 = .ok (.aload_n 0, 1) := by decide +kernel
theorem dX8_replies_1 : decode cX8_replies 1 = .ok (.iload_n 1, 1) := by decide +kernel
theorem dX8_replies_2 : decode cX8_replies 2 = .ok (.invokevirtual 164, 3) := by decide +kernel
theorem dX8_replies_5 : decode cX8_replies 5 = .ok (.aload_n 0, 1) := by decide +kernel
theorem dX8_replies_6 : decode cX8_replies 6 = .ok (.iload_n 2, 1) := by decide +kernel
theorem dX8_replies_7 : decode cX8_replies 7 = .ok (.invokevirtual 121, 3) := by decide +kernel
theorem dX8_replies_10 : decode cX8_replies 10 = .ok (.aload_n 0, 1) := by decide +kernel
theorem dX8_replies_11 : decode cX8_replies 11 = .ok (.iload_n 1, 1) := by decide +kernel
theorem dX8_replies_12 : decode cX8_replies 12 = .ok (.invokevirtual 167, 3) := by decide +kernel
theorem dX8_replies_15 : decode cX8_replies 15 = .ok (.aload_n 0, 1) := by decide +kernel
theorem dX8_replies_16 : decode cX8_replies 16 = .ok (.iload_n 2, 1) := by decide +kernel
theorem dX8_replies_17 : decode cX8_replies 17 = .ok (.invokevirtual 197, 3) := by decide +kernel
theorem dX8_replies_20 : decode cX8_replies 20 = .ok (.aload_n 0, 1) := by decide +kernel
theorem dX8_replies_21 : decode cX8_replies 21 = .ok (.iload_n 2, 1) := by decide +kernel
theorem dX8_replies_22 : decode cX8_replies 22 = .ok (.invokevirtual 222, 3) := by decide +kernel
theorem dX8_replies_25 : decode cX8_replies 25 = .ok (.istore_n 3, 1) := by decide +kernel
theorem dX8_replies_26 : decode cX8_replies 26 = .ok (.iload_n 3, 1) := by decide +kernel
theorem dX8_replies_27 : decode cX8_replies 27 = .ok (.invokestatic 225, 3) := by decide +kernel
theorem dX8_replies_30 : decode cX8_replies 30 = .ok (.istore 4, 2) := by decide +kernel
theorem dX8_replies_32 : decode cX8_replies 32 = .ok (.iload 4, 2) := by decide +kernel
theorem dX8_replies_34 : decode cX8_replies 34 = .ok (.bipush 6, 2) := by decide +kernel
theorem dX8_replies_36 : decode cX8_replies 36 = .ok (.if_icmp .ge 48, 3) := by decide +kernel
theorem dX8_replies_39 : decode cX8_replies 39 = .ok (.aload_n 0, 1) := by decide +kernel
theorem dX8_replies_40 : decode cX8_replies 40 = .ok (.getfield 81, 3) := by decide +kernel
theorem dX8_replies_43 : decode cX8_replies 43 = .ok (.aload_n 0, 1) := by decide +kernel
theorem dX8_replies_44 : decode cX8_replies 44 = .ok (.getfield 74, 3) := by decide +kernel
theorem dX8_replies_47 : decode cX8_replies 47 = .ok (.iload 4, 2) := by decide +kernel
theorem dX8_replies_49 : decode cX8_replies 49 = .ok (.aaload, 1) := by decide +kernel
theorem dX8_replies_50 : decode cX8_replies 50 = .ok (.aload_n 0, 1) := by decide +kernel
theorem dX8_replies_51 : decode cX8_replies 51 = .ok (.getfield 66, 3) := by decide +kernel
theorem dX8_replies_54 : decode cX8_replies 54 = .ok (.iload_n 2, 1) := by decide +kernel
theorem dX8_replies_55 : decode cX8_replies 55 = .ok (.aaload, 1) := by decide +kernel
theorem dX8_replies_56 : decode cX8_replies 56 = .ok (.getfield 187, 3) := by decide +kernel
theorem dX8_replies_59 : decode cX8_replies 59 = .ok (.invokevirtual 230, 3) := by decide +kernel
theorem dX8_replies_62 : decode cX8_replies 62 = .ok (.aload_n 0, 1) := by decide +kernel
theorem dX8_replies_63 : decode cX8_replies 63 = .ok (.getfield 81, 3) := by decide +kernel
theorem dX8_replies_66 : decode cX8_replies 66 = .ok (.aload_n 0, 1) := by decide +kernel
theorem dX8_replies_67 : decode cX8_replies 67 = .ok (.getfield 85, 3) := by decide +kernel
theorem dX8_replies_70 : decode cX8_replies 70 = .ok (.invokevirtual 233, 3) := by decide +kernel
theorem dX8_replies_73 : decode cX8_replies 73 = .ok (.aload_n 0, 1) := by decide +kernel
theorem dX8_replies_74 : decode cX8_replies 74 = .ok (.getfield 85, 3) := by decide +kernel
theorem dX8_replies_77 : decode cX8_replies 77 = .ok (.aload_n 0, 1) := by decide +kernel
theorem dX8_replies_78 : decode cX8_replies 78 = .ok (.getfield 81, 3) := by decide +kernel
theorem dX8_replies_81 : decode cX8_replies 81 = .ok (.invokevirtual 180, 3) := by decide +kernel
theorem dX8_replies_84 : decode cX8_replies 84 = .ok (.aload_n 0, 1) := by decide +kernel
theorem dX8_replies_85 : decode cX8_replies 85 = .ok (.iload_n 2, 1) := by decide +kernel
theorem dX8_replies_86 : decode cX8_replies 86 = .ok (.aload_n 0, 1) := by decide +kernel
theorem dX8_replies_87 : decode cX8_replies 87 = .ok (.getfield 85, 3) := by decide +kernel
theorem dX8_replies_90 : decode cX8_replies 90 = .ok (.invokevirtual 200, 3) := by decide +kernel
theorem dX8_replies_93 : decode cX8_replies 93 = .ok (.iload_n 3, 1) := by decide +kernel
theorem dX8_replies_94 : decode cX8_replies 94 = .ok (.ireturn, 1) := by decide +kernel
theorem dX8_judge_0 : decode cX8_judge 0 = .ok (.aload_n 0, 1) := by decide +kernel
theorem dX8_judge_1 : decode cX8_judge 1 = .ok (.iload_n 1, 1) := by decide +kernel
theorem dX8_judge_2 : decode cX8_judge 2 = .ok (.invokevirtual 164, 3) := by decide +kernel
theorem dX8_judge_5 : decode cX8_judge 5 = .ok (.aload_n 0, 1) := by decide +kernel
theorem dX8_judge_6 : decode cX8_judge 6 = .ok (.iload_n 1, 1) := by decide +kernel
theorem dX8_judge_7 : decode cX8_judge 7 = .ok (.invokevirtual 167, 3) := by decide +kernel
theorem dX8_judge_10 : decode cX8_judge 10 = .ok (.iconst 0, 1) := by decide +kernel
theorem dX8_judge_11 : decode cX8_judge 11 = .ok (.istore_n 2, 1) := by decide +kernel
theorem dX8_judge_12 : decode cX8_judge 12 = .ok (.iload_n 2, 1) := by decide +kernel
theorem dX8_judge_13 : decode cX8_judge 13 = .ok (.iconst 2, 1) := by decide +kernel
theorem dX8_judge_14 : decode cX8_judge 14 = .ok (.if_icmp .ge 36, 3) := by decide +kernel
theorem dX8_judge_17 : decode cX8_judge 17 = .ok (.aload_n 0, 1) := by decide +kernel
theorem dX8_judge_18 : decode cX8_judge 18 = .ok (.iload_n 2, 1) := by decide +kernel
theorem dX8_judge_19 : decode cX8_judge 19 = .ok (.invokevirtual 197, 3) := by decide +kernel
theorem dX8_judge_22 : decode cX8_judge 22 = .ok (.aload_n 0, 1) := by decide +kernel
theorem dX8_judge_23 : decode cX8_judge 23 = .ok (.getfield 66, 3) := by decide +kernel
theorem dX8_judge_26 : decode cX8_judge 26 = .ok (.iload_n 2, 1) := by decide +kernel
theorem dX8_judge_27 : decode cX8_judge 27 = .ok (.aaload, 1) := by decide +kernel
theorem dX8_judge_28 : decode cX8_judge 28 = .ok (.invokevirtual 170, 3) := by decide +kernel
theorem dX8_judge_31 : decode cX8_judge 31 = .ok (.aload_n 0, 1) := by decide +kernel
theorem dX8_judge_32 : decode cX8_judge 32 = .ok (.iload_n 2, 1) := by decide +kernel
theorem dX8_judge_33 : decode cX8_judge 33 = .ok (.invokevirtual 222, 3) := by decide +kernel
theorem dX8_judge_36 : decode cX8_judge 36 = .ok (.iconst (-1), 1) := by decide +kernel
theorem dX8_judge_37 : decode cX8_judge 37 = .ok (.ixor, 1) := by decide +kernel
theorem dX8_judge_38 : decode cX8_judge 38 = .ok (.iand, 1) := by decide +kernel
theorem dX8_judge_39 : decode cX8_judge 39 = .ok (.ifCond .eq 5, 3) := by decide +kernel
theorem dX8_judge_42 : decode cX8_judge 42 = .ok (.iconst 0, 1) := by decide +kernel
theorem dX8_judge_43 : decode cX8_judge 43 = .ok (.ireturn, 1) := by decide +kernel
theorem dX8_judge_44 : decode cX8_judge 44 = .ok (.iinc 2 1, 3) := by decide +kernel
theorem dX8_judge_47 : decode cX8_judge 47 = .ok (.goto (-35), 3) := by decide +kernel
theorem dX8_judge_50 : decode cX8_judge 50 = .ok (.iconst 1, 1) := by decide +kernel
theorem dX8_judge_51 : decode cX8_judge 51 = .ok (.ireturn, 1) := by decide +kernel
theorem dX8_index_0 : decode cX8_index 0 = .ok (.aload_n 0, 1) := by decide +kernel
theorem dX8_index_1 : decode cX8_index 1 = .ok (.getfield 59, 3) := by decide +kernel
theorem dX8_index_4 : decode cX8_index 4 = .ok (.ifCond .eq 22, 3) := by decide +kernel
theorem dX8_index_7 : decode cX8_index 7 = .ok (.aload_n 0, 1) := by decide +kernel
theorem dX8_index_8 : decode cX8_index 8 = .ok (.getfield 49, 3) := by decide +kernel
theorem dX8_index_11 : decode cX8_index 11 = .ok (.ifnull 15, 3) := by decide +kernel
theorem dX8_index_14 : decode cX8_index 14 = .ok (.iload_n 1, 1) := by decide +kernel
theorem dX8_index_15 : decode cX8_index 15 = .ok (.ifCond .lt 11, 3) := by decide +kernel
theorem dX8_index_18 : decode cX8_index 18 = .ok (.iload_n 1, 1) := by decide +kernel
theorem dX8_index_19 : decode cX8_index 19 = .ok (.aload_n 0, 1) := by decide +kernel
theorem dX8_index_20 : decode cX8_index 20 = .ok (.getfield 56, 3) := by decide +kernel
theorem dX8_index_23 : decode cX8_index 23 = .ok (.if_icmp .lt 13, 3) := by decide +kernel
theorem dX8_index_26 : decode cX8_index 26 = .ok (.new 144, 3) := by decide +kernel
theorem dX8_index_29 : decode cX8_index 29 = .ok (.dup, 1) := by decide +kernel
theorem dX8_index_30 : decode cX8_index 30 = .ok (.ldc 236, 2) := by decide +kernel
theorem dX8_index_32 : decode cX8_index 32 = .ok (.invokespecial 148, 3) := by decide +kernel
theorem dX8_index_35 : decode cX8_index 35 = .ok (.athrow, 1) := by decide +kernel
theorem dX8_index_36 : decode cX8_index 36 = .ok (.aload_n 0, 1) := by decide +kernel
theorem dX8_index_37 : decode cX8_index 37 = .ok (.getfield 53, 3) := by decide +kernel
theorem dX8_index_40 : decode cX8_index 40 = .ok (.iconst 0, 1) := by decide +kernel
theorem dX8_index_41 : decode cX8_index 41 = .ok (.aaload, 1) := by decide +kernel
theorem dX8_index_42 : decode cX8_index 42 = .ok (.iload_n 1, 1) := by decide +kernel
theorem dX8_index_43 : decode cX8_index 43 = .ok (.iaload, 1) := by decide +kernel
theorem dX8_index_44 : decode cX8_index 44 = .ok (.istore_n 2, 1) := by decide +kernel
theorem dX8_index_45 : decode cX8_index 45 = .ok (.aload_n 0, 1) := by decide +kernel
theorem dX8_index_46 : decode cX8_index 46 = .ok (.getfield 53, 3) := by decide +kernel
theorem dX8_index_49 : decode cX8_index 49 = .ok (.iconst 1, 1) := by decide +kernel
theorem dX8_index_50 : decode cX8_index 50 = .ok (.aaload, 1) := by decide +kernel
theorem dX8_index_51 : decode cX8_index 51 = .ok (.iload_n 1, 1) := by decide +kernel
theorem dX8_index_52 : decode cX8_index 52 = .ok (.iaload, 1) := by decide +kernel
theorem dX8_index_53 : decode cX8_index 53 = .ok (.istore_n 3, 1) := by decide +kernel
theorem dX8_index_54 : decode cX8_index 54 = .ok (.aload_n 0, 1) := by decide +kernel
theorem dX8_index_55 : decode cX8_index 55 = .ok (.getfield 49, 3) := by decide +kernel
theorem dX8_index_58 : decode cX8_index 58 = .ok (.iconst 0, 1) := by decide +kernel
theorem dX8_index_59 : decode cX8_index 59 = .ok (.aaload, 1) := by decide +kernel
theorem dX8_index_60 : decode cX8_index 60 = .ok (.iload_n 2, 1) := by decide +kernel
theorem dX8_index_61 : decode cX8_index 61 = .ok (.iload_n 3, 1) := by decide +kernel
theorem dX8_index_62 : decode cX8_index 62 = .ok (.invokevirtual 238, 3) := by decide +kernel
theorem dX8_index_65 : decode cX8_index 65 = .ok (.aload_n 0, 1) := by decide +kernel
theorem dX8_index_66 : decode cX8_index 66 = .ok (.getfield 49, 3) := by decide +kernel
theorem dX8_index_69 : decode cX8_index 69 = .ok (.iconst 1, 1) := by decide +kernel
theorem dX8_index_70 : decode cX8_index 70 = .ok (.aaload, 1) := by decide +kernel
theorem dX8_index_71 : decode cX8_index 71 = .ok (.iload_n 3, 1) := by decide +kernel
theorem dX8_index_72 : decode cX8_index 72 = .ok (.iload_n 2, 1) := by decide +kernel
theorem dX8_index_73 : decode cX8_index 73 = .ok (.invokevirtual 238, 3) := by decide +kernel
theorem dX8_index_76 : decode cX8_index 76 = .ok (.imul, 1) := by decide +kernel
