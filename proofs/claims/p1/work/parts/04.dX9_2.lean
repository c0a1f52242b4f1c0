theorem dX9_changed_22 : decode cX9_changed 22 = .ok (.iload_n 1, 1) := by decide +kernel
theorem dX9_changed_23 : decode cX9_changed 23 = .ok (.bipush 12, 2) := by decide +kernel
theorem dX9_changed_25 : decode cX9_changed 25 = .ok (.if_icmp .ge 16, 3) := by decide +kernel
theorem dX9_changed_28 : decode cX9_changed 28 = .ok (.aload_n 0, 1) := by decide +kernel
theorem dX9_changed_29 : decode cX9_changed 29 = .ok (.getfield 51, 3) := by decide +kernel
theorem dX9_changed_32 : decode cX9_changed 32 = .ok (.iload_n 1, 1) := by decide +kernel
theorem dX9_changed_33 : decode cX9_changed 33 = .ok (.iconst 1, 1) := by decide +kernel
theorem dX9_changed_34 : decode cX9_changed 34 = .ok (.bastore, 1) := by decide +kernel
theorem dX9_changed_35 : decode cX9_changed 35 = .ok (.iinc 1 1, 3) := by decide +kernel
theorem dX9_changed_38 : decode cX9_changed 38 = .ok (.goto (-16), 3) := by decide +kernel
theorem dX9_changed_41 : decode cX9_changed 41 = .ok (.iconst 0, 1) := by decide +kernel
theorem dX9_changed_42 : decode cX9_changed 42 = .ok (.istore_n 1, 1) := by decide +kernel
theorem dX9_changed_43 : decode cX9_changed 43 = .ok (.iload_n 1, 1) := by decide +kernel
theorem dX9_changed_44 : decode cX9_changed 44 = .ok (.iconst 2, 1) := by decide +kernel
theorem dX9_changed_45 : decode cX9_changed 45 = .ok (.if_icmp .ge 249, 3) := by decide +kernel
theorem dX9_changed_48 : decode cX9_changed 48 = .ok (.lconst 1, 1) := by decide +kernel
theorem dX9_changed_49 : decode cX9_changed 49 = .ok (.lstore_n 2, 1) := by decide +kernel
theorem dX9_changed_50 : decode cX9_changed 50 = .ok (.iconst 0, 1) := by decide +kernel
theorem dX9_changed_51 : decode cX9_changed 51 = .ok (.istore 4, 2) := by decide +kernel
theorem dX9_changed_53 : decode cX9_changed 53 = .ok (.iload 4, 2) := by decide +kernel
theorem dX9_changed_55 : decode cX9_changed 55 = .ok (.bipush 36, 2) := by decide +kernel
theorem dX9_changed_57 : decode cX9_changed 57 = .ok (.if_icmp .ge 70, 3) := by decide +kernel
theorem dX9_changed_60 : decode cX9_changed 60 = .ok (.aload_n 0, 1) := by decide +kernel
theorem dX9_changed_61 : decode cX9_changed 61 = .ok (.getfield 20, 3) := by decide +kernel
theorem dX9_changed_64 : decode cX9_changed 64 = .ok (.bipush 36, 2) := by decide +kernel
theorem dX9_changed_66 : decode cX9_changed 66 = .ok (.iload_n 1, 1) := by decide +kernel
theorem dX9_changed_67 : decode cX9_changed 67 = .ok (.imul, 1) := by decide +kernel
theorem dX9_changed_68 : decode cX9_changed 68 = .ok (.iload 4, 2) := by decide +kernel
theorem dX9_changed_70 : decode cX9_changed 70 = .ok (.iadd, 1) := by decide +kernel
theorem dX9_changed_71 : decode cX9_changed 71 = .ok (.iaload, 1) := by decide +kernel
theorem dX9_changed_72 : decode cX9_changed 72 = .ok (.i2l, 1) := by decide +kernel
theorem dX9_changed_73 : decode cX9_changed 73 = .ok (.aload_n 0, 1) := by decide +kernel
theorem dX9_changed_74 : decode cX9_changed 74 = .ok (.getfield 23, 3) := by decide +kernel
theorem dX9_changed_77 : decode cX9_changed 77 = .ok (.bipush 36, 2) := by decide +kernel
theorem dX9_changed_79 : decode cX9_changed 79 = .ok (.iload_n 1, 1) := by decide +kernel
theorem dX9_changed_80 : decode cX9_changed 80 = .ok (.imul, 1) := by decide +kernel
theorem dX9_changed_81 : decode cX9_changed 81 = .ok (.iload 4, 2) := by decide +kernel
theorem dX9_changed_83 : decode cX9_changed 83 = .ok (.iadd, 1) := by decide +kernel
theorem dX9_changed_84 : decode cX9_changed 84 = .ok (.iaload, 1) := by decide +kernel
theorem dX9_changed_85 : decode cX9_changed 85 = .ok (.i2l, 1) := by decide +kernel
theorem dX9_changed_86 : decode cX9_changed 86 = .ok (.invokestatic 139, 3) := by decide +kernel
theorem dX9_changed_89 : decode cX9_changed 89 = .ok (.lstore 5, 2) := by decide +kernel
theorem dX9_changed_91 : decode cX9_changed 91 = .ok (.aload_n 0, 1) := by decide +kernel
theorem dX9_changed_92 : decode cX9_changed 92 = .ok (.getfield 23, 3) := by decide +kernel
theorem dX9_changed_95 : decode cX9_changed 95 = .ok (.bipush 36, 2) := by decide +kernel
theorem dX9_changed_97 : decode cX9_changed 97 = .ok (.iload_n 1, 1) := by decide +kernel
theorem dX9_changed_98 : decode cX9_changed 98 = .ok (.imul, 1) := by decide +kernel
theorem dX9_changed_99 : decode cX9_changed 99 = .ok (.iload 4, 2) := by decide +kernel
theorem dX9_changed_101 : decode cX9_changed 101 = .ok (.iadd, 1) := by decide +kernel
theorem dX9_changed_102 : decode cX9_changed 102 = .ok (.iaload, 1) := by decide +kernel
theorem dX9_changed_103 : decode cX9_changed 103 = .ok (.i2l, 1) := by decide +kernel
theorem dX9_changed_104 : decode cX9_changed 104 = .ok (.lload 5, 2) := by decide +kernel
theorem dX9_changed_106 : decode cX9_changed 106 = .ok (.ldiv, 1) := by decide +kernel
theorem dX9_changed_107 : decode cX9_changed 107 = .ok (.lstore 7, 2) := by decide +kernel
theorem dX9_changed_109 : decode cX9_changed 109 = .ok (.lload_n 2, 1) := by decide +kernel
theorem dX9_changed_110 : decode cX9_changed 110 = .ok (.lload_n 2, 1) := by decide +kernel
theorem dX9_changed_111 : decode cX9_changed 111 = .ok (.lload 7, 2) := by decide +kernel
theorem dX9_changed_113 : decode cX9_changed 113 = .ok (.invokestatic 139, 3) := by decide +kernel
theorem dX9_changed_116 : decode cX9_changed 116 = .ok (.ldiv, 1) := by decide +kernel
theorem dX9_changed_117 : decode cX9_changed 117 = .ok (.lload 7, 2) := by decide +kernel
theorem dX9_changed_119 : decode cX9_changed 119 = .ok (.lmul, 1) := by decide +kernel
theorem dX9_changed_120 : decode cX9_changed 120 = .ok (.lstore_n 2, 1) := by decide +kernel
theorem dX9_changed_121 : decode cX9_changed 121 = .ok (.iinc 4 1, 3) := by decide +kernel
theorem dX9_changed_124 : decode cX9_changed 124 = .ok (.goto (-71), 3) := by decide +kernel
theorem dX9_changed_127 : decode cX9_changed 127 = .ok (.aload_n 0, 1) := by decide +kernel
theorem dX9_changed_128 : decode cX9_changed 128 = .ok (.getfield 55, 3) := by decide +kernel
theorem dX9_changed_131 : decode cX9_changed 131 = .ok (.iload_n 1, 1) := by decide +kernel
theorem dX9_changed_132 : decode cX9_changed 132 = .ok (.lload_n 2, 1) := by decide +kernel
theorem dX9_changed_133 : decode cX9_changed 133 = .ok (.lastore, 1) := by decide +kernel
theorem dX9_changed_134 : decode cX9_changed 134 = .ok (.aload_n 0, 1) := by decide +kernel
theorem dX9_changed_135 : decode cX9_changed 135 = .ok (.getfield 62, 3) := by decide +kernel
theorem dX9_changed_138 : decode cX9_changed 138 = .ok (.iload_n 1, 1) := by decide +kernel
theorem dX9_changed_139 : decode cX9_changed 139 = .ok (.ldc2_w 145, 3) := by decide +kernel
theorem dX9_changed_142 : decode cX9_changed 142 = .ok (.lastore, 1) := by decide +kernel
theorem dX9_changed_143 : decode cX9_changed 143 = .ok (.iconst 0, 1) := by decide +kernel
theorem dX9_changed_144 : decode cX9_changed 144 = .ok (.istore 4, 2) := by decide +kernel
theorem dX9_changed_146 : decode cX9_changed 146 = .ok (.iload 4, 2) := by decide +kernel
theorem dX9_changed_148 : decode cX9_changed 148 = .ok (.aload_n 0, 1) := by decide +kernel
theorem dX9_changed_149 : decode cX9_changed 149 = .ok (.getfield 120, 3) := by decide +kernel
theorem dX9_changed_152 : decode cX9_changed 152 = .ok (.if_icmp .ge 136, 3) := by decide +kernel
theorem dX9_changed_155 : decode cX9_changed 155 = .ok (.iconst 0, 1) := by decide +kernel
theorem dX9_changed_156 : decode cX9_changed 156 = .ok (.istore 5, 2) := by decide +kernel
theorem dX9_changed_158 : decode cX9_changed 158 = .ok (.iload 5, 2) := by decide +kernel
theorem dX9_changed_160 : decode cX9_changed 160 = .ok (.aload_n 0, 1) := by decide +kernel
theorem dX9_changed_161 : decode cX9_changed 161 = .ok (.getfield 123, 3) := by decide +kernel
theorem dX9_changed_164 : decode cX9_changed 164 = .ok (.if_icmp .ge 118, 3) := by decide +kernel
theorem dX9_changed_167 : decode cX9_changed 167 = .ok (.bipush 36, 2) := by decide +kernel
theorem dX9_changed_169 : decode cX9_changed 169 = .ok (.iload_n 1, 1) := by decide +kernel
theorem dX9_changed_170 : decode cX9_changed 170 = .ok (.imul, 1) := by decide +kernel
theorem dX9_changed_171 : decode cX9_changed 171 = .ok (.bipush 6, 2) := by decide +kernel
theorem dX9_changed_173 : decode cX9_changed 173 = .ok (.iload 4, 2) := by decide +kernel
theorem dX9_changed_175 : decode cX9_changed 175 = .ok (.imul, 1) := by decide +kernel
theorem dX9_changed_176 : decode cX9_changed 176 = .ok (.iadd, 1) := by decide +kernel
theorem dX9_changed_177 : decode cX9_changed 177 = .ok (.iload 5, 2) := by decide +kernel
theorem dX9_changed_179 : decode cX9_changed 179 = .ok (.iadd, 1) := by decide +kernel
theorem dX9_changed_180 : decode cX9_changed 180 = .ok (.istore 6, 2) := by decide +kernel
theorem dX9_changed_182 : decode cX9_changed 182 = .ok (.aload_n 0, 1) := by decide +kernel
theorem dX9_changed_183 : decode cX9_changed 183 = .ok (.getfield 59, 3) := by decide +kernel
theorem dX9_changed_186 : decode cX9_changed 186 = .ok (.iload 6, 2) := by decide +kernel
theorem dX9_changed_188 : decode cX9_changed 188 = .ok (.aload_n 0, 1) := by decide +kernel
theorem dX9_changed_189 : decode cX9_changed 189 = .ok (.getfield 20, 3) := by decide +kernel
theorem dX9_changed_192 : decode cX9_changed 192 = .ok (.iload 6, 2) := by decide +kernel
theorem dX9_changed_194 : decode cX9_changed 194 = .ok (.iaload, 1) := by decide +kernel
theorem dX9_changed_195 : decode cX9_changed 195 = .ok (.i2l, 1) := by decide +kernel
theorem dX9_changed_196 : decode cX9_changed 196 = .ok (.lload_n 2, 1) := by decide +kernel
theorem dX9_changed_197 : decode cX9_changed 197 = .ok (.aload_n 0, 1) := by decide +kernel
theorem dX9_changed_198 : decode cX9_changed 198 = .ok (.getfield 23, 3) := by decide +kernel
theorem dX9_changed_201 : decode cX9_changed 201 = .ok (.iload 6, 2) := by decide +kernel
theorem dX9_changed_203 : decode cX9_changed 203 = .ok (.iaload, 1) := by decide +kernel
theorem dX9_changed_204 : decode cX9_changed 204 = .ok (.i2l, 1) := by decide +kernel
theorem dX9_changed_205 : decode cX9_changed 205 = .ok (.ldiv, 1) := by decide +kernel
theorem dX9_changed_206 : decode cX9_changed 206 = .ok (.lmul, 1) := by decide +kernel
theorem dX9_changed_207 : decode cX9_changed 207 = .ok (.aload_n 0, 1) := by decide +kernel
theorem dX9_changed_208 : decode cX9_changed 208 = .ok (.getfield 20, 3) := by decide +kernel
theorem dX9_changed_211 : decode cX9_changed 211 = .ok (.iload 6, 2) := by decide +kernel
theorem dX9_changed_213 : decode cX9_changed 213 = .ok (.iaload, 1) := by decide +kernel
theorem dX9_changed_214 : decode cX9_changed 214 = .ok (.i2l, 1) := by decide +kernel
theorem dX9_changed_215 : decode cX9_changed 215 = .ok (.lload_n 2, 1) := by decide +kernel
theorem dX9_changed_216 : decode cX9_changed 216 = .ok (.aload_n 0, 1) := by decide +kernel
theorem dX9_changed_217 : decode cX9_changed 217 = .ok (.getfield 23, 3) := by decide +kernel
theorem dX9_changed_220 : decode cX9_changed 220 = .ok (.iload 6, 2) := by decide +kernel
theorem dX9_changed_222 : decode cX9_changed 222 = .ok (.iaload, 1) := by decide +kernel
theorem dX9_changed_223 : decode cX9_changed 223 = .ok (.i2l, 1) := by decide +kernel
theorem dX9_changed_224 : decode cX9_changed 224 = .ok (.lrem, 1) := by decide +kernel
theorem dX9_changed_225 : decode cX9_changed 225 = .ok (.lmul, 1) := by decide +kernel
theorem dX9_changed_226 : decode cX9_changed 226 = .ok (.aload_n 0, 1) := by decide +kernel
theorem dX9_changed_227 : decode cX9_changed 227 = .ok (.getfield 23, 3) := by decide +kernel
theorem dX9_changed_230 : decode cX9_changed 230 = .ok (.iload 6, 2) := by decide +kernel
theorem dX9_changed_232 : decode cX9_changed 232 = .ok (.iaload, 1) := by decide +kernel
theorem dX9_changed_233 : decode cX9_changed 233 = .ok (.i2l, 1) := by decide +kernel
theorem dX9_changed_234 : decode cX9_changed 234 = .ok (.ldiv, 1) := by decide +kernel
theorem dX9_changed_235 : decode cX9_changed 235 = .ok (.ladd, 1) := by decide +kernel
theorem dX9_changed_236 : decode cX9_changed 236 = .ok (.lastore, 1) := by decide +kernel
theorem dX9_changed_237 : decode cX9_changed 237 = .ok (.aload_n 0, 1) := by decide +kernel
theorem dX9_changed_238 : decode cX9_changed 238 = .ok (.getfield 62, 3) := by decide +kernel
theorem dX9_changed_241 : decode cX9_changed 241 = .ok (.iload_n 1, 1) := by decide +kernel
theorem dX9_changed_242 : decode cX9_changed 242 = .ok (.aload_n 0, 1) := by decide +kernel
theorem dX9_changed_243 : decode cX9_changed 243 = .ok (.getfield 59, 3) := by decide +kernel
theorem dX9_changed_246 : decode cX9_changed 246 = .ok (.iload 6, 2) := by decide +kernel
theorem dX9_changed_248 : decode cX9_changed 248 = .ok (.laload, 1) := by decide +kernel
theorem dX9_changed_249 : decode cX9_changed 249 = .ok (.aload_n 0, 1) := by decide +kernel
theorem dX9_changed_250 : decode cX9_changed 250 = .ok (.getfield 62, 3) := by decide +kernel
theorem dX9_changed_253 : decode cX9_changed 253 = .ok (.iload_n 1, 1) := by decide +kernel
theorem dX9_changed_254 : decode cX9_changed 254 = .ok (.laload, 1) := by decide +kernel
theorem dX9_changed_255 : decode cX9_changed 255 = .ok (.lcmp, 1) := by decide +kernel
theorem dX9_changed_256 : decode cX9_changed 256 = .ok (.ifCond .ge 13, 3) := by decide +kernel
theorem dX9_changed_259 : decode cX9_changed 259 = .ok (.aload_n 0, 1) := by decide +kernel
theorem dX9_changed_260 : decode cX9_changed 260 = .ok (.getfield 59, 3) := by decide +kernel
theorem dX9_changed_263 : decode cX9_changed 263 = .ok (.iload 6, 2) := by decide +kernel
theorem dX9_changed_265 : decode cX9_changed 265 = .ok (.laload, 1) := by decide +kernel
theorem dX9_changed_266 : decode cX9_changed 266 = .ok (.goto 9, 3) := by decide +kernel
theorem dX9_changed_269 : decode cX9_changed 269 = .ok (.aload_n 0, 1) := by decide +kernel
theorem dX9_changed_270 : decode cX9_changed 270 = .ok (.getfield 62, 3) := by decide +kernel
theorem dX9_changed_273 : decode cX9_changed 273 = .ok (.iload_n 1, 1) := by decide +kernel
theorem dX9_changed_274 : decode cX9_changed 274 = .ok (.laload, 1) := by decide +kernel
theorem dX9_changed_275 : decode cX9_changed 275 = .ok (.lastore, 1) := by decide +kernel
theorem dX9_changed_276 : decode cX9_changed 276 = .ok (.iinc 5 1, 3) := by decide +kernel
theorem dX9_changed_279 : decode cX9_changed 279 = .ok (.goto (-121), 3) := by decide +kernel
theorem dX9_changed_282 : decode cX9_changed 282 = .ok (.iinc 4 1, 3) := by decide +kernel
theorem dX9_changed_285 : decode cX9_changed 285 = .ok (.goto (-139), 3) := by decide +kernel
theorem dX9_changed_288 : decode cX9_changed 288 = .ok (.iinc 1 1, 3) := by decide +kernel
theorem dX9_changed_291 : decode cX9_changed 291 = .ok (.goto (-248), 3) := by decide +kernel
theorem dX9_changed_294 : decode cX9_changed 294 = .ok (.return_, 1) := by decide +kernel
theorem dX9_hasPlayer_0 : decode cX9_hasPlayer 0 = .ok (.iload_n 1, 1) := by decide +kernel
theorem dX9_hasPlayer_1 : decode cX9_hasPlayer 1 = .ok (.ifCond .ne 17, 3) := by decide +kernel
theorem dX9_hasPlayer_4 : decode cX9_hasPlayer 4 = .ok (.iload_n 2, 1) := by decide +kernel
theorem dX9_hasPlayer_5 : decode cX9_hasPlayer 5 = .ok (.iconst 0, 1) := by decide +kernel
theorem dX9_hasPlayer_6 : decode cX9_hasPlayer 6 = .ok (.aload_n 0, 1) := by decide +kernel
theorem dX9_hasPlayer_7 : decode cX9_hasPlayer 7 = .ok (.getfield 120, 3) := by decide +kernel
theorem dX9_hasPlayer_10 : decode cX9_hasPlayer 10 = .ok (.iconst 1, 1) := by decide +kernel
theorem dX9_hasPlayer_11 : decode cX9_hasPlayer 11 = .ok (.isub, 1) := by decide +kernel
theorem dX9_hasPlayer_12 : decode cX9_hasPlayer 12 = .ok (.invokestatic 116, 3) := by decide +kernel
theorem dX9_hasPlayer_15 : decode cX9_hasPlayer 15 = .ok (.ifCond .ne 22, 3) := by decide +kernel
theorem dX9_hasPlayer_18 : decode cX9_hasPlayer 18 = .ok (.iload_n 1, 1) := by decide +kernel
theorem dX9_hasPlayer_19 : decode cX9_hasPlayer 19 = .ok (.iconst 1, 1) := by decide +kernel
theorem dX9_hasPlayer_20 : decode cX9_hasPlayer 20 = .ok (.if_icmp .ne 21, 3) := by decide +kernel
theorem dX9_hasPlayer_23 : decode cX9_hasPlayer 23 = .ok (.iload_n 2, 1) := by decide +kernel
theorem dX9_hasPlayer_24 : decode cX9_hasPlayer 24 = .ok (.iconst 0, 1) := by decide +kernel
theorem dX9_hasPlayer_25 : decode cX9_hasPlayer 25 = .ok (.aload_n 0, 1) := by decide +kernel
theorem dX9_hasPlayer_26 : decode cX9_hasPlayer 26 = .ok (.getfield 123, 3) := by decide +kernel
theorem dX9_hasPlayer_29 : decode cX9_hasPlayer 29 = .ok (.iconst 1, 1) := by decide +kernel
theorem dX9_hasPlayer_30 : decode cX9_hasPlayer 30 = .ok (.isub, 1) := by decide +kernel
theorem dX9_hasPlayer_31 : decode cX9_hasPlayer 31 = .ok (.invokestatic 116, 3) := by decide +kernel
theorem dX9_hasPlayer_34 : decode cX9_hasPlayer 34 = .ok (.ifCond .eq 7, 3) := by decide +kernel
theorem dX9_hasPlayer_37 : decode cX9_hasPlayer 37 = .ok (.iconst 1, 1) := by decide +kernel
theorem dX9_hasPlayer_38 : decode cX9_hasPlayer 38 = .ok (.goto 4, 3) := by decide +kernel
theorem dX9_hasPlayer_41 : decode cX9_hasPlayer 41 = .ok (.iconst 0, 1) := by decide +kernel
theorem dX9_hasPlayer_42 : decode cX9_hasPlayer 42 = .ok (.ireturn, 1) := by decide +kernel
theorem dX9_pay_0 : decode cX9_pay 0 = .ok (.iload_n 1, 1) := by decide +kernel
theorem dX9_pay_1 : decode cX9_pay 1 = .ok (.iconst 0, 1) := by decide +kernel
theorem dX9_pay_2 : decode cX9_pay 2 = .ok (.iconst 1, 1) := by decide +kernel
theorem dX9_pay_3 : decode cX9_pay 3 = .ok (.invokestatic 116, 3) := by decide +kernel
theorem dX9_pay_6 : decode cX9_pay 6 = .ok (.ifCond .eq 60, 3) := by decide +kernel
theorem dX9_pay_9 : decode cX9_pay 9 = .ok (.iload_n 2, 1) := by decide +kernel
theorem dX9_pay_10 : decode cX9_pay 10 = .ok (.iconst 0, 1) := by decide +kernel
theorem dX9_pay_11 : decode cX9_pay 11 = .ok (.aload_n 0, 1) := by decide +kernel
theorem dX9_pay_12 : decode cX9_pay 12 = .ok (.getfield 120, 3) := by decide +kernel
theorem dX9_pay_15 : decode cX9_pay 15 = .ok (.iconst 1, 1) := by decide +kernel
theorem dX9_pay_16 : decode cX9_pay 16 = .ok (.isub, 1) := by decide +kernel
theorem dX9_pay_17 : decode cX9_pay 17 = .ok (.invokestatic 116, 3) := by decide +kernel
theorem dX9_pay_20 : decode cX9_pay 20 = .ok (.ifCond .eq 46, 3) := by decide +kernel
theorem dX9_pay_23 : decode cX9_pay 23 = .ok (.iload_n 3, 1) := by decide +kernel
theorem dX9_pay_24 : decode cX9_pay 24 = .ok (.iconst 0, 1) := by decide +kernel
theorem dX9_pay_25 : decode cX9_pay 25 = .ok (.aload_n 0, 1) := by decide +kernel
theorem dX9_pay_26 : decode cX9_pay 26 = .ok (.getfield 123, 3) := by decide +kernel
theorem dX9_pay_29 : decode cX9_pay 29 = .ok (.iconst 1, 1) := by decide +kernel
theorem dX9_pay_30 : decode cX9_pay 30 = .ok (.isub, 1) := by decide +kernel
theorem dX9_pay_31 : decode cX9_pay 31 = .ok (.invokestatic 116, 3) := by decide +kernel
theorem dX9_pay_34 : decode cX9_pay 34 = .ok (.ifCond .eq 32, 3) := by decide +kernel
theorem dX9_pay_37 : decode cX9_pay 37 = .ok (.iload 4, 2) := by decide +kernel
theorem dX9_pay_39 : decode cX9_pay 39 = .ok (.sipush (-9999), 3) := by decide +kernel
theorem dX9_pay_42 : decode cX9_pay 42 = .ok (.sipush 9999, 3) := by decide +kernel
theorem dX9_pay_45 : decode cX9_pay 45 = .ok (.invokestatic 116, 3) := by decide +kernel
theorem dX9_pay_48 : decode cX9_pay 48 = .ok (.ifCond .eq 18, 3) := by decide +kernel
theorem dX9_pay_51 : decode cX9_pay 51 = .ok (.iload 5, 2) := by decide +kernel
theorem dX9_pay_53 : decode cX9_pay 53 = .ok (.iconst 1, 1) := by decide +kernel
theorem dX9_pay_54 : decode cX9_pay 54 = .ok (.bipush 12, 2) := by decide +kernel
theorem dX9_pay_56 : decode cX9_pay 56 = .ok (.invokestatic 116, 3) := by decide +kernel
theorem dX9_pay_59 : decode cX9_pay 59 = .ok (.ifCond .eq 7, 3) := by decide +kernel
theorem dX9_pay_62 : decode cX9_pay 62 = .ok (.iconst 1, 1) := by decide +kernel
theorem dX9_pay_63 : decode cX9_pay 63 = .ok (.goto 4, 3) := by decide +kernel
theorem dX9_pay_66 : decode cX9_pay 66 = .ok (.iconst 0, 1) := by decide +kernel
theorem dX9_pay_67 : decode cX9_pay 67 = .ok (.istore 6, 2) := by decide +kernel
theorem dX9_pay_69 : decode cX9_pay 69 = .ok (.aload_n 0, 1) := by decide +kernel
theorem dX9_pay_70 : decode cX9_pay 70 = .ok (.aload_n 0, 1) := by decide +kernel
theorem dX9_pay_71 : decode cX9_pay 71 = .ok (.getfield 120, 3) := by decide +kernel
theorem dX9_pay_74 : decode cX9_pay 74 = .ok (.ifCond .ne 7, 3) := by decide +kernel
theorem dX9_pay_77 : decode cX9_pay 77 = .ok (.iconst 1, 1) := by decide +kernel
theorem dX9_pay_78 : decode cX9_pay 78 = .ok (.goto 13, 3) := by decide +kernel
theorem dX9_pay_81 : decode cX9_pay 81 = .ok (.iload 6, 2) := by decide +kernel
theorem dX9_pay_83 : decode cX9_pay 83 = .ok (.ifCond .ne 7, 3) := by decide +kernel
theorem dX9_pay_86 : decode cX9_pay 86 = .ok (.iconst 2, 1) := by decide +kernel
theorem dX9_pay_87 : decode cX9_pay 87 = .ok (.goto 4, 3) := by decide +kernel
theorem dX9_pay_90 : decode cX9_pay 90 = .ok (.iconst 0, 1) := by decide +kernel
theorem dX9_pay_91 : decode cX9_pay 91 = .ok (.putfield 84, 3) := by decide +kernel
theorem dX9_pay_94 : decode cX9_pay 94 = .ok (.aload_n 0, 1) := by decide +kernel
theorem dX9_pay_95 : decode cX9_pay 95 = .ok (.getfield 84, 3) := by decide +kernel
theorem dX9_pay_98 : decode cX9_pay 98 = .ok (.ifCond .le 4, 3) := by decide +kernel
theorem dX9_pay_101 : decode cX9_pay 101 = .ok (.return_, 1) := by decide +kernel
theorem dX9_pay_102 : decode cX9_pay 102 = .ok (.aload_n 0, 1) := by decide +kernel
theorem dX9_pay_103 : decode cX9_pay 103 = .ok (.getfield 20, 3) := by decide +kernel
theorem dX9_pay_106 : decode cX9_pay 106 = .ok (.bipush 36, 2) := by decide +kernel
theorem dX9_pay_108 : decode cX9_pay 108 = .ok (.iload_n 1, 1) := by decide +kernel
theorem dX9_pay_109 : decode cX9_pay 109 = .ok (.imul, 1) := by decide +kernel
theorem dX9_pay_110 : decode cX9_pay 110 = .ok (.bipush 6, 2) := by decide +kernel
theorem dX9_pay_112 : decode cX9_pay 112 = .ok (.iload_n 2, 1) := by decide +kernel
theorem dX9_pay_113 : decode cX9_pay 113 = .ok (.imul, 1) := by decide +kernel
theorem dX9_pay_114 : decode cX9_pay 114 = .ok (.iadd, 1) := by decide +kernel
theorem dX9_pay_115 : decode cX9_pay 115 = .ok (.iload_n 3, 1) := by decide +kernel
theorem dX9_pay_116 : decode cX9_pay 116 = .ok (.iadd, 1) := by decide +kernel
theorem dX9_pay_117 : decode cX9_pay 117 = .ok (.iload 4, 2) := by decide +kernel
theorem dX9_pay_119 : decode cX9_pay 119 = .ok (.iastore, 1) := by decide +kernel
theorem dX9_pay_120 : decode cX9_pay 120 = .ok (.aload_n 0, 1) := by decide +kernel
theorem dX9_pay_121 : decode cX9_pay 121 = .ok (.getfield 23, 3) := by decide +kernel
theorem dX9_pay_124 : decode cX9_pay 124 = .ok (.bipush 36, 2) := by decide +kernel
theorem dX9_pay_126 : decode cX9_pay 126 = .ok (.iload_n 1, 1) := by decide +kernel
theorem dX9_pay_127 : decode cX9_pay 127 = .ok (.imul, 1) := by decide +kernel
theorem dX9_pay_128 : decode cX9_pay 128 = .ok (.bipush 6, 2) := by decide +kernel
theorem dX9_pay_130 : decode cX9_pay 130 = .ok (.iload_n 2, 1) := by decide +kernel
theorem dX9_pay_131 : decode cX9_pay 131 = .ok (.imul, 1) := by decide +kernel
theorem dX9_pay_132 : decode cX9_pay 132 = .ok (.iadd, 1) := by decide +kernel
theorem dX9_pay_133 : decode cX9_pay 133 = .ok (.iload_n 3, 1) := by decide +kernel
theorem dX9_pay_134 : decode cX9_pay 134 = .ok (.iadd, 1) := by decide +kernel
theorem dX9_pay_135 : decode cX9_pay 135 = .ok (.iload 5, 2) := by decide +kernel
theorem dX9_pay_137 : decode cX9_pay 137 = .ok (.iastore, 1) := by decide +kernel
theorem dX9_pay_138 : decode cX9_pay 138 = .ok (.aload_n 0, 1) := by decide +kernel
theorem dX9_pay_139 : decode cX9_pay 139 = .ok (.invokevirtual 126, 3) := by decide +kernel
theorem dX9_pay_142 : decode cX9_pay 142 = .ok (.return_, 1) := by decide +kernel
theorem dX9_entry_0 : decode cX9_entry 0 = .ok (.lconst 1, 1) := by decide +kernel
theorem dX9_entry_1 : decode cX9_entry 1 = .ok (.aload_n 0, 1) := by decide +kernel
theorem dX9_entry_2 : decode cX9_entry 2 = .ok (.getfield 59, 3) := by decide +kernel
theorem dX9_entry_5 : decode cX9_entry 5 = .ok (.bipush 36, 2) := by decide +kernel
theorem dX9_entry_7 : decode cX9_entry 7 = .ok (.iload_n 1, 1) := by decide +kernel
theorem dX9_entry_8 : decode cX9_entry 8 = .ok (.imul, 1) := by decide +kernel
theorem dX9_entry_9 : decode cX9_entry 9 = .ok (.bipush 6, 2) := by decide +kernel
theorem dX9_entry_11 : decode cX9_entry 11 = .ok (.iload_n 2, 1) := by decide +kernel
theorem dX9_entry_12 : decode cX9_entry 12 = .ok (.imul, 1) := by decide +kernel
theorem dX9_entry_13 : decode cX9_entry 13 = .ok (.iadd, 1) := by decide +kernel
theorem dX9_entry_14 : decode cX9_entry 14 = .ok (.iload_n 3, 1) := by decide +kernel
theorem dX9_entry_15 : decode cX9_entry 15 = .ok (.iadd, 1) := by decide +kernel
theorem dX9_entry_16 : decode cX9_entry 16 = .ok (.laload, 1) := by decide +kernel
theorem dX9_entry_17 : decode cX9_entry 17 = .ok (.ladd, 1) := by decide +kernel
theorem dX9_entry_18 : decode cX9_entry 18 = .ok (.aload_n 0, 1) := by decide +kernel
theorem dX9_entry_19 : decode cX9_entry 19 = .ok (.getfield 62, 3) := by decide +kernel
theorem dX9_entry_22 : decode cX9_entry 22 = .ok (.iload_n 1, 1) := by decide +kernel
theorem dX9_entry_23 : decode cX9_entry 23 = .ok (.laload, 1) := by decide +kernel
theorem dX9_entry_24 : decode cX9_entry 24 = .ok (.lsub, 1) := by decide +kernel
theorem dX9_entry_25 : decode cX9_entry 25 = .ok (.lreturn, 1) := by decide +kernel
theorem dX9_cell_0 : decode cX9_cell 0 = .ok (.iload_n 1, 1) := by decide +kernel
theorem dX9_cell_1 : decode cX9_cell 1 = .ok (.ifCond .ne 8, 3) := by decide +kernel
theorem dX9_cell_4 : decode cX9_cell 4 = .ok (.bipush 40, 2) := by decide +kernel
theorem dX9_cell_6 : decode cX9_cell 6 = .ok (.goto 6, 3) := by decide +kernel
theorem dX9_cell_9 : decode cX9_cell 9 = .ok (.sipush 140, 3) := by decide +kernel
theorem dX9_cell_12 : decode cX9_cell 12 = .ok (.bipush 13, 2) := by decide +kernel
theorem dX9_cell_14 : decode cX9_cell 14 = .ok (.iload_n 2, 1) := by decide +kernel
theorem dX9_cell_15 : decode cX9_cell 15 = .ok (.imul, 1) := by decide +kernel
theorem dX9_cell_16 : decode cX9_cell 16 = .ok (.iadd, 1) := by decide +kernel
theorem dX9_cell_17 : decode cX9_cell 17 = .ok (.iload_n 3, 1) := by decide +kernel
theorem dX9_cell_18 : decode cX9_cell 18 = .ok (.iadd, 1) := by decide +kernel
theorem dX9_cell_19 : decode cX9_cell 19 = .ok (.ireturn, 1) := by decide +kernel
theorem dX9_rowsOf_0 : decode cX9_rowsOf 0 = .ok (.iload_n 1, 1) := by decide +kernel
theorem dX9_rowsOf_1 : decode cX9_rowsOf 1 = .ok (.ifCond .ne 10, 3) := by decide +kernel
theorem dX9_rowsOf_4 : decode cX9_rowsOf 4 = .ok (.aload_n 0, 1) := by decide +kernel
theorem dX9_rowsOf_5 : decode cX9_rowsOf 5 = .ok (.getfield 123, 3) := by decide +kernel
theorem dX9_rowsOf_8 : decode cX9_rowsOf 8 = .ok (.goto 7, 3) := by decide +kernel
theorem dX9_rowsOf_11 : decode cX9_rowsOf 11 = .ok (.aload_n 0, 1) := by decide +kernel
theorem dX9_rowsOf_12 : decode cX9_rowsOf 12 = .ok (.getfield 120, 3) := by decide +kernel
theorem dX9_rowsOf_15 : decode cX9_rowsOf 15 = .ok (.ireturn, 1) := by decide +kernel
theorem dX9_beginTables_0 : decode cX9_beginTables 0 = .ok (.iconst 0, 1) := by decide +kernel
theorem dX9_beginTables_1 : decode cX9_beginTables 1 = .ok (.istore_n 1, 1) := by decide +kernel
theorem dX9_beginTables_2 : decode cX9_beginTables 2 = .ok (.iload_n 1, 1) := by decide +kernel
theorem dX9_beginTables_3 : decode cX9_beginTables 3 = .ok (.iconst 2, 1) := by decide +kernel
theorem dX9_beginTables_4 : decode cX9_beginTables 4 = .ok (.if_icmp .ge 207, 3) := by decide +kernel
theorem dX9_beginTables_7 : decode cX9_beginTables 7 = .ok (.iconst 0, 1) := by decide +kernel
theorem dX9_beginTables_8 : decode cX9_beginTables 8 = .ok (.istore_n 2, 1) := by decide +kernel
theorem dX9_beginTables_9 : decode cX9_beginTables 9 = .ok (.iload_n 2, 1) := by decide +kernel
theorem dX9_beginTables_10 : decode cX9_beginTables 10 = .ok (.aload_n 0, 1) := by decide +kernel
theorem dX9_beginTables_11 : decode cX9_beginTables 11 = .ok (.iload_n 1, 1) := by decide +kernel
theorem dX9_beginTables_12 : decode cX9_beginTables 12 = .ok (.invokevirtual 147, 3) := by decide +kernel
theorem dX9_beginTables_15 : decode cX9_beginTables 15 = .ok (.if_icmp .ge 190, 3) := by decide +kernel
theorem dX9_beginTables_18 : decode cX9_beginTables 18 = .ok (.iconst 0, 1) := by decide +kernel
theorem dX9_beginTables_19 : decode cX9_beginTables 19 = .ok (.istore_n 3, 1) := by decide +kernel
theorem dX9_beginTables_20 : decode cX9_beginTables 20 = .ok (.iload_n 3, 1) := by decide +kernel
theorem dX9_beginTables_21 : decode cX9_beginTables 21 = .ok (.aload_n 0, 1) := by decide +kernel
theorem dX9_beginTables_22 : decode cX9_beginTables 22 = .ok (.getfield 120, 3) := by decide +kernel
theorem dX9_beginTables_25 : decode cX9_beginTables 25 = .ok (.aload_n 0, 1) := by decide +kernel
theorem dX9_beginTables_26 : decode cX9_beginTables 26 = .ok (.getfield 123, 3) := by decide +kernel
theorem dX9_beginTables_29 : decode cX9_beginTables 29 = .ok (.iadd, 1) := by decide +kernel
theorem dX9_beginTables_30 : decode cX9_beginTables 30 = .ok (.if_icmp .ge 124, 3) := by decide +kernel
theorem dX9_beginTables_33 : decode cX9_beginTables 33 = .ok (.iload_n 3, 1) := by decide +kernel
theorem dX9_beginTables_34 : decode cX9_beginTables 34 = .ok (.iload_n 1, 1) := by decide +kernel
theorem dX9_beginTables_35 : decode cX9_beginTables 35 = .ok (.ifCond .ne 12, 3) := by decide +kernel
theorem dX9_beginTables_38 : decode cX9_beginTables 38 = .ok (.aload_n 0, 1) := by decide +kernel
theorem dX9_beginTables_39 : decode cX9_beginTables 39 = .ok (.getfield 120, 3) := by decide +kernel
theorem dX9_beginTables_42 : decode cX9_beginTables 42 = .ok (.iload_n 2, 1) := by decide +kernel
theorem dX9_beginTables_43 : decode cX9_beginTables 43 = .ok (.iadd, 1) := by decide +kernel
theorem dX9_beginTables_44 : decode cX9_beginTables 44 = .ok (.goto 4, 3) := by decide +kernel
theorem dX9_beginTables_47 : decode cX9_beginTables 47 = .ok (.iload_n 2, 1) := by decide +kernel
theorem dX9_beginTables_48 : decode cX9_beginTables 48 = .ok (.if_icmp .ne 7, 3) := by decide +kernel
theorem dX9_beginTables_51 : decode cX9_beginTables 51 = .ok (.iconst 1, 1) := by decide +kernel
theorem dX9_beginTables_52 : decode cX9_beginTables 52 = .ok (.goto 4, 3) := by decide +kernel
theorem dX9_beginTables_55 : decode cX9_beginTables 55 = .ok (.iconst 0, 1) := by decide +kernel
theorem dX9_beginTables_56 : decode cX9_beginTables 56 = .ok (.istore 4, 2) := by decide +kernel
theorem dX9_beginTables_58 : decode cX9_beginTables 58 = .ok (.iload_n 1, 1) := by decide +kernel
theorem dX9_beginTables_59 : decode cX9_beginTables 59 = .ok (.ifCond .ne 19, 3) := by decide +kernel
theorem dX9_beginTables_62 : decode cX9_beginTables 62 = .ok (.iload_n 3, 1) := by decide +kernel
theorem dX9_beginTables_63 : decode cX9_beginTables 63 = .ok (.aload_n 0, 1) := by decide +kernel
theorem dX9_beginTables_64 : decode cX9_beginTables 64 = .ok (.getfield 120, 3) := by decide +kernel
theorem dX9_beginTables_67 : decode cX9_beginTables 67 = .ok (.if_icmp .ge 7, 3) := by decide +kernel
theorem dX9_beginTables_70 : decode cX9_beginTables 70 = .ok (.iconst 1, 1) := by decide +kernel
theorem dX9_beginTables_71 : decode cX9_beginTables 71 = .ok (.goto 20, 3) := by decide +kernel
theorem dX9_beginTables_74 : decode cX9_beginTables 74 = .ok (.iconst 0, 1) := by decide +kernel
theorem dX9_beginTables_75 : decode cX9_beginTables 75 = .ok (.goto 16, 3) := by decide +kernel
theorem dX9_beginTables_78 : decode cX9_beginTables 78 = .ok (.iload_n 3, 1) := by decide +kernel
theorem dX9_beginTables_79 : decode cX9_beginTables 79 = .ok (.aload_n 0, 1) := by decide +kernel
theorem dX9_beginTables_80 : decode cX9_beginTables 80 = .ok (.getfield 120, 3) := by decide +kernel
theorem dX9_beginTables_83 : decode cX9_beginTables 83 = .ok (.if_icmp .lt 7, 3) := by decide +kernel
theorem dX9_beginTables_86 : decode cX9_beginTables 86 = .ok (.iconst 1, 1) := by decide +kernel
theorem dX9_beginTables_87 : decode cX9_beginTables 87 = .ok (.goto 4, 3) := by decide +kernel
theorem dX9_beginTables_90 : decode cX9_beginTables 90 = .ok (.iconst 0, 1) := by decide +kernel
theorem dX9_beginTables_91 : decode cX9_beginTables 91 = .ok (.istore 5, 2) := by decide +kernel
theorem dX9_beginTables_93 : decode cX9_beginTables 93 = .ok (.aload_n 0, 1) := by decide +kernel
theorem dX9_beginTables_94 : decode cX9_beginTables 94 = .ok (.aload_n 0, 1) := by decide +kernel
theorem dX9_beginTables_95 : decode cX9_beginTables 95 = .ok (.iload_n 1, 1) := by decide +kernel
theorem dX9_beginTables_96 : decode cX9_beginTables 96 = .ok (.iload_n 2, 1) := by decide +kernel
theorem dX9_beginTables_97 : decode cX9_beginTables 97 = .ok (.iload_n 3, 1) := by decide +kernel
theorem dX9_beginTables_98 : decode cX9_beginTables 98 = .ok (.invokevirtual 151, 3) := by decide +kernel
theorem dX9_beginTables_101 : decode cX9_beginTables 101 = .ok (.iload 4, 2) := by decide +kernel
theorem dX9_beginTables_103 : decode cX9_beginTables 103 = .ok (.ifCond .eq 7, 3) := by decide +kernel
theorem dX9_beginTables_106 : decode cX9_beginTables 106 = .ok (.lconst 1, 1) := by decide +kernel
theorem dX9_beginTables_107 : decode cX9_beginTables 107 = .ok (.goto 38, 3) := by decide +kernel
theorem dX9_beginTables_110 : decode cX9_beginTables 110 = .ok (.iload 5, 2) := by decide +kernel
theorem dX9_beginTables_112 : decode cX9_beginTables 112 = .ok (.ifCond .eq 32, 3) := by decide +kernel
theorem dX9_beginTables_115 : decode cX9_beginTables 115 = .ok (.iload_n 1, 1) := by decide +kernel
theorem dX9_beginTables_116 : decode cX9_beginTables 116 = .ok (.ifCond .ne 13, 3) := by decide +kernel
theorem dX9_beginTables_119 : decode cX9_beginTables 119 = .ok (.aload_n 0, 1) := by decide +kernel
theorem dX9_beginTables_120 : decode cX9_beginTables 120 = .ok (.iconst 1, 1) := by decide +kernel
theorem dX9_beginTables_121 : decode cX9_beginTables 121 = .ok (.iload_n 3, 1) := by decide +kernel
theorem dX9_beginTables_122 : decode cX9_beginTables 122 = .ok (.iload_n 2, 1) := by decide +kernel
theorem dX9_beginTables_123 : decode cX9_beginTables 123 = .ok (.invokevirtual 155, 3) := by decide +kernel
theorem dX9_beginTables_126 : decode cX9_beginTables 126 = .ok (.goto 19, 3) := by decide +kernel
theorem dX9_beginTables_129 : decode cX9_beginTables 129 = .ok (.aload_n 0, 1) := by decide +kernel
theorem dX9_beginTables_130 : decode cX9_beginTables 130 = .ok (.iconst 0, 1) := by decide +kernel
theorem dX9_beginTables_131 : decode cX9_beginTables 131 = .ok (.iload_n 2, 1) := by decide +kernel
theorem dX9_beginTables_132 : decode cX9_beginTables 132 = .ok (.iload_n 3, 1) := by decide +kernel
theorem dX9_beginTables_133 : decode cX9_beginTables 133 = .ok (.aload_n 0, 1) := by decide +kernel
theorem dX9_beginTables_134 : decode cX9_beginTables 134 = .ok (.getfield 120, 3) := by decide +kernel
theorem dX9_beginTables_137 : decode cX9_beginTables 137 = .ok (.isub, 1) := by decide +kernel
theorem dX9_beginTables_138 : decode cX9_beginTables 138 = .ok (.invokevirtual 155, 3) := by decide +kernel
theorem dX9_beginTables_141 : decode cX9_beginTables 141 = .ok (.goto 4, 3) := by decide +kernel
theorem dX9_beginTables_144 : decode cX9_beginTables 144 = .ok (.lconst 0, 1) := by decide +kernel
theorem dX9_beginTables_145 : decode cX9_beginTables 145 = .ok (.invokevirtual 80, 3) := by decide +kernel
theorem dX9_beginTables_148 : decode cX9_beginTables 148 = .ok (.iinc 3 1, 3) := by decide +kernel
theorem dX9_beginTables_151 : decode cX9_beginTables 151 = .ok (.goto (-131), 3) := by decide +kernel
theorem dX9_beginTables_154 : decode cX9_beginTables 154 = .ok (.aload_n 0, 1) := by decide +kernel
theorem dX9_beginTables_155 : decode cX9_beginTables 155 = .ok (.aload_n 0, 1) := by decide +kernel
theorem dX9_beginTables_156 : decode cX9_beginTables 156 = .ok (.iload_n 1, 1) := by decide +kernel
theorem dX9_beginTables_157 : decode cX9_beginTables 157 = .ok (.iload_n 2, 1) := by decide +kernel
theorem dX9_beginTables_158 : decode cX9_beginTables 158 = .ok (.aload_n 0, 1) := by decide +kernel
theorem dX9_beginTables_159 : decode cX9_beginTables 159 = .ok (.getfield 120, 3) := by decide +kernel
theorem dX9_beginTables_162 : decode cX9_beginTables 162 = .ok (.aload_n 0, 1) := by decide +kernel
theorem dX9_beginTables_163 : decode cX9_beginTables 163 = .ok (.getfield 123, 3) := by decide +kernel
theorem dX9_beginTables_166 : decode cX9_beginTables 166 = .ok (.iadd, 1) := by decide +kernel
theorem dX9_beginTables_167 : decode cX9_beginTables 167 = .ok (.invokevirtual 151, 3) := by decide +kernel
theorem dX9_beginTables_170 : decode cX9_beginTables 170 = .ok (.lconst 1, 1) := by decide +kernel
theorem dX9_beginTables_171 : decode cX9_beginTables 171 = .ok (.invokevirtual 80, 3) := by decide +kernel
theorem dX9_beginTables_174 : decode cX9_beginTables 174 = .ok (.aload_n 0, 1) := by decide +kernel
theorem dX9_beginTables_175 : decode cX9_beginTables 175 = .ok (.getfield 48, 3) := by decide +kernel
theorem dX9_beginTables_178 : decode cX9_beginTables 178 = .ok (.bipush 6, 2) := by decide +kernel
theorem dX9_beginTables_180 : decode cX9_beginTables 180 = .ok (.iload_n 1, 1) := by decide +kernel
theorem dX9_beginTables_181 : decode cX9_beginTables 181 = .ok (.imul, 1) := by decide +kernel
theorem dX9_beginTables_182 : decode cX9_beginTables 182 = .ok (.iload_n 2, 1) := by decide +kernel
theorem dX9_beginTables_183 : decode cX9_beginTables 183 = .ok (.iadd, 1) := by decide +kernel
theorem dX9_beginTables_184 : decode cX9_beginTables 184 = .ok (.iload_n 1, 1) := by decide +kernel
theorem dX9_beginTables_185 : decode cX9_beginTables 185 = .ok (.ifCond .ne 12, 3) := by decide +kernel
theorem dX9_beginTables_188 : decode cX9_beginTables 188 = .ok (.aload_n 0, 1) := by decide +kernel
theorem dX9_beginTables_189 : decode cX9_beginTables 189 = .ok (.getfield 120, 3) := by decide +kernel
theorem dX9_beginTables_192 : decode cX9_beginTables 192 = .ok (.iload_n 2, 1) := by decide +kernel
theorem dX9_beginTables_193 : decode cX9_beginTables 193 = .ok (.iadd, 1) := by decide +kernel
theorem dX9_beginTables_194 : decode cX9_beginTables 194 = .ok (.goto 4, 3) := by decide +kernel
theorem dX9_beginTables_197 : decode cX9_beginTables 197 = .ok (.iload_n 2, 1) := by decide +kernel
theorem dX9_beginTables_198 : decode cX9_beginTables 198 = .ok (.iastore, 1) := by decide +kernel
theorem dX9_beginTables_199 : decode cX9_beginTables 199 = .ok (.iinc 2 1, 3) := by decide +kernel
theorem dX9_beginTables_202 : decode cX9_beginTables 202 = .ok (.goto (-193), 3) := by decide +kernel
theorem dX9_beginTables_205 : decode cX9_beginTables 205 = .ok (.iinc 1 1, 3) := by decide +kernel
theorem dX9_beginTables_208 : decode cX9_beginTables 208 = .ok (.goto (-206), 3) := by decide +kernel
theorem dX9_beginTables_211 : decode cX9_beginTables 211 = .ok (.aload_n 0, 1) := by decide +kernel
theorem dX9_beginTables_212 : decode cX9_beginTables 212 = .ok (.bipush 26, 2) := by decide +kernel
theorem dX9_beginTables_214 : decode cX9_beginTables 214 = .ok (.lconst 1, 1) := by decide +kernel
theorem dX9_beginTables_215 : decode cX9_beginTables 215 = .ok (.invokevirtual 80, 3) := by decide +kernel
theorem dX9_beginTables_218 : decode cX9_beginTables 218 = .ok (.aload_n 0, 1) := by decide +kernel
theorem dX9_beginTables_219 : decode cX9_beginTables 219 = .ok (.bipush 27, 2) := by decide +kernel
theorem dX9_beginTables_221 : decode cX9_beginTables 221 = .ok (.lconst 1, 1) := by decide +kernel
theorem dX9_beginTables_222 : decode cX9_beginTables 222 = .ok (.invokevirtual 80, 3) := by decide +kernel
theorem dX9_beginTables_225 : decode cX9_beginTables 225 = .ok (.return_, 1) := by decide +kernel
theorem dX9_isBefore_0 : decode cX9_isBefore 0 = .ok (.iload_n 1, 1) := by decide +kernel
theorem dX9_isBefore_1 : decode cX9_isBefore 1 = .ok (.ifCond .ne 10, 3) := by decide +kernel
theorem dX9_isBefore_4 : decode cX9_isBefore 4 = .ok (.aload_n 0, 1) := by decide +kernel
theorem dX9_isBefore_5 : decode cX9_isBefore 5 = .ok (.getfield 120, 3) := by decide +kernel
theorem dX9_isBefore_8 : decode cX9_isBefore 8 = .ok (.goto 4, 3) := by decide +kernel
theorem dX9_isBefore_11 : decode cX9_isBefore 11 = .ok (.iconst 0, 1) := by decide +kernel
theorem dX9_isBefore_12 : decode cX9_isBefore 12 = .ok (.istore 5, 2) := by decide +kernel
theorem dX9_isBefore_14 : decode cX9_isBefore 14 = .ok (.iconst (-1), 1) := by decide +kernel
theorem dX9_isBefore_15 : decode cX9_isBefore 15 = .ok (.istore 6, 2) := by decide +kernel
theorem dX9_isBefore_17 : decode cX9_isBefore 17 = .ok (.iload 6, 2) := by decide +kernel
theorem dX9_isBefore_19 : decode cX9_isBefore 19 = .ok (.aload_n 0, 1) := by decide +kernel
theorem dX9_isBefore_20 : decode cX9_isBefore 20 = .ok (.iload_n 1, 1) := by decide +kernel
theorem dX9_isBefore_21 : decode cX9_isBefore 21 = .ok (.invokevirtual 147, 3) := by decide +kernel
theorem dX9_isBefore_24 : decode cX9_isBefore 24 = .ok (.if_icmp .ge 99, 3) := by decide +kernel
theorem dX9_isBefore_27 : decode cX9_isBefore 27 = .ok (.iload 6, 2) := by decide +kernel
theorem dX9_isBefore_29 : decode cX9_isBefore 29 = .ok (.ifCond .ge 15, 3) := by decide +kernel
theorem dX9_isBefore_32 : decode cX9_isBefore 32 = .ok (.aload_n 0, 1) := by decide +kernel
theorem dX9_isBefore_33 : decode cX9_isBefore 33 = .ok (.getfield 120, 3) := by decide +kernel
theorem dX9_isBefore_36 : decode cX9_isBefore 36 = .ok (.aload_n 0, 1) := by decide +kernel
theorem dX9_isBefore_37 : decode cX9_isBefore 37 = .ok (.getfield 123, 3) := by decide +kernel
theorem dX9_isBefore_40 : decode cX9_isBefore 40 = .ok (.iadd, 1) := by decide +kernel
theorem dX9_isBefore_41 : decode cX9_isBefore 41 = .ok (.goto 8, 3) := by decide +kernel
theorem dX9_isBefore_44 : decode cX9_isBefore 44 = .ok (.iload 5, 2) := by decide +kernel
theorem dX9_isBefore_46 : decode cX9_isBefore 46 = .ok (.iload 6, 2) := by decide +kernel
theorem dX9_isBefore_48 : decode cX9_isBefore 48 = .ok (.iadd, 1) := by decide +kernel
theorem dX9_isBefore_49 : decode cX9_isBefore 49 = .ok (.istore 7, 2) := by decide +kernel
theorem dX9_isBefore_51 : decode cX9_isBefore 51 = .ok (.aload_n 0, 1) := by decide +kernel
theorem dX9_isBefore_52 : decode cX9_isBefore 52 = .ok (.aload_n 0, 1) := by decide +kernel
theorem dX9_isBefore_53 : decode cX9_isBefore 53 = .ok (.iload_n 1, 1) := by decide +kernel
theorem dX9_isBefore_54 : decode cX9_isBefore 54 = .ok (.iload_n 2, 1) := by decide +kernel
theorem dX9_isBefore_55 : decode cX9_isBefore 55 = .ok (.iload 7, 2) := by decide +kernel
theorem dX9_isBefore_57 : decode cX9_isBefore 57 = .ok (.invokevirtual 151, 3) := by decide +kernel
theorem dX9_isBefore_60 : decode cX9_isBefore 60 = .ok (.aload_n 0, 1) := by decide +kernel
theorem dX9_isBefore_61 : decode cX9_isBefore 61 = .ok (.iload_n 1, 1) := by decide +kernel
theorem dX9_isBefore_62 : decode cX9_isBefore 62 = .ok (.iload_n 3, 1) := by decide +kernel
theorem dX9_isBefore_63 : decode cX9_isBefore 63 = .ok (.iload 4, 2) := by decide +kernel
theorem dX9_isBefore_65 : decode cX9_isBefore 65 = .ok (.invokevirtual 151, 3) := by decide +kernel
theorem dX9_isBefore_68 : decode cX9_isBefore 68 = .ok (.iconst 0, 1) := by decide +kernel
theorem dX9_isBefore_69 : decode cX9_isBefore 69 = .ok (.invokevirtual 104, 3) := by decide +kernel
theorem dX9_isBefore_72 : decode cX9_isBefore 72 = .ok (.aload_n 0, 1) := by decide +kernel
theorem dX9_isBefore_73 : decode cX9_isBefore 73 = .ok (.aload_n 0, 1) := by decide +kernel
theorem dX9_isBefore_74 : decode cX9_isBefore 74 = .ok (.iload_n 1, 1) := by decide +kernel
theorem dX9_isBefore_75 : decode cX9_isBefore 75 = .ok (.iload_n 3, 1) := by decide +kernel
theorem dX9_isBefore_76 : decode cX9_isBefore 76 = .ok (.iload 7, 2) := by decide +kernel
theorem dX9_isBefore_78 : decode cX9_isBefore 78 = .ok (.invokevirtual 151, 3) := by decide +kernel
theorem dX9_isBefore_81 : decode cX9_isBefore 81 = .ok (.aload_n 0, 1) := by decide +kernel
theorem dX9_isBefore_82 : decode cX9_isBefore 82 = .ok (.iload_n 1, 1) := by decide +kernel
theorem dX9_isBefore_83 : decode cX9_isBefore 83 = .ok (.iload_n 2, 1) := by decide +kernel
theorem dX9_isBefore_84 : decode cX9_isBefore 84 = .ok (.iload 4, 2) := by decide +kernel
theorem dX9_isBefore_86 : decode cX9_isBefore 86 = .ok (.invokevirtual 151, 3) := by decide +kernel
theorem dX9_isBefore_89 : decode cX9_isBefore 89 = .ok (.iconst 1, 1) := by decide +kernel
theorem dX9_isBefore_90 : decode cX9_isBefore 90 = .ok (.invokevirtual 104, 3) := by decide +kernel
theorem dX9_isBefore_93 : decode cX9_isBefore 93 = .ok (.aload_n 0, 1) := by decide +kernel
theorem dX9_isBefore_94 : decode cX9_isBefore 94 = .ok (.iconst 0, 1) := by decide +kernel
theorem dX9_isBefore_95 : decode cX9_isBefore 95 = .ok (.iconst 1, 1) := by decide +kernel
theorem dX9_isBefore_96 : decode cX9_isBefore 96 = .ok (.invokevirtual 159, 3) := by decide +kernel
theorem dX9_isBefore_99 : decode cX9_isBefore 99 = .ok (.istore 8, 2) := by decide +kernel
theorem dX9_isBefore_101 : decode cX9_isBefore 101 = .ok (.iload 8, 2) := by decide +kernel
theorem dX9_isBefore_103 : decode cX9_isBefore 103 = .ok (.ifCond .eq 14, 3) := by decide +kernel
theorem dX9_isBefore_106 : decode cX9_isBefore 106 = .ok (.iload 8, 2) := by decide +kernel
theorem dX9_isBefore_108 : decode cX9_isBefore 108 = .ok (.ifCond .ge 7, 3) := by decide +kernel
theorem dX9_isBefore_111 : decode cX9_isBefore 111 = .ok (.iconst 1, 1) := by decide +kernel
theorem dX9_isBefore_112 : decode cX9_isBefore 112 = .ok (.goto 4, 3) := by decide +kernel
theorem dX9_isBefore_115 : decode cX9_isBefore 115 = .ok (.iconst 0, 1) := by decide +kernel
theorem dX9_isBefore_116 : decode cX9_isBefore 116 = .ok (.ireturn, 1) := by decide +kernel
theorem dX9_isBefore_117 : decode cX9_isBefore 117 = .ok (.iinc 6 1, 3) := by decide +kernel
theorem dX9_isBefore_120 : decode cX9_isBefore 120 = .ok (.goto (-103), 3) := by decide +kernel
theorem dX9_isBefore_123 : decode cX9_isBefore 123 = .ok (.iconst 0, 1) := by decide +kernel
theorem dX9_isBefore_124 : decode cX9_isBefore 124 = .ok (.ireturn, 1) := by decide +kernel
theorem dX9_enter_0 : decode cX9_enter 0 = .ok (.iconst (-1), 1) := by decide +kernel
theorem dX9_enter_1 : decode cX9_enter 1 = .ok (.istore_n 3, 1) := by decide +kernel
theorem dX9_enter_2 : decode cX9_enter 2 = .ok (.iconst 0, 1) := by decide +kernel
theorem dX9_enter_3 : decode cX9_enter 3 = .ok (.istore 4, 2) := by decide +kernel
theorem dX9_enter_5 : decode cX9_enter 5 = .ok (.iload 4, 2) := by decide +kernel
theorem dX9_enter_7 : decode cX9_enter 7 = .ok (.aload_n 0, 1) := by decide +kernel
theorem dX9_enter_8 : decode cX9_enter 8 = .ok (.iload_n 1, 1) := by decide +kernel
theorem dX9_enter_9 : decode cX9_enter 9 = .ok (.invokevirtual 147, 3) := by decide +kernel
theorem dX9_enter_12 : decode cX9_enter 12 = .ok (.if_icmp .ge 44, 3) := by decide +kernel
theorem dX9_enter_15 : decode cX9_enter 15 = .ok (.aload_n 0, 1) := by decide +kernel
theorem dX9_enter_16 : decode cX9_enter 16 = .ok (.getfield 17, 3) := by decide +kernel
theorem dX9_enter_19 : decode cX9_enter 19 = .ok (.aload_n 0, 1) := by decide +kernel
theorem dX9_enter_20 : decode cX9_enter 20 = .ok (.iload_n 1, 1) := by decide +kernel
theorem dX9_enter_21 : decode cX9_enter 21 = .ok (.iload 4, 2) := by decide +kernel
theorem dX9_enter_23 : decode cX9_enter 23 = .ok (.iload_n 2, 1) := by decide +kernel
theorem dX9_enter_24 : decode cX9_enter 24 = .ok (.invokevirtual 151, 3) := by decide +kernel
theorem dX9_enter_27 : decode cX9_enter 27 = .ok (.iaload, 1) := by decide +kernel
theorem dX9_enter_28 : decode cX9_enter 28 = .ok (.ifCond .le 22, 3) := by decide +kernel
theorem dX9_enter_31 : decode cX9_enter 31 = .ok (.iload_n 3, 1) := by decide +kernel
theorem dX9_enter_32 : decode cX9_enter 32 = .ok (.ifCond .lt 15, 3) := by decide +kernel
theorem dX9_enter_35 : decode cX9_enter 35 = .ok (.aload_n 0, 1) := by decide +kernel
theorem dX9_enter_36 : decode cX9_enter 36 = .ok (.iload_n 1, 1) := by decide +kernel
theorem dX9_enter_37 : decode cX9_enter 37 = .ok (.iload 4, 2) := by decide +kernel
theorem dX9_enter_39 : decode cX9_enter 39 = .ok (.iload_n 3, 1) := by decide +kernel
theorem dX9_enter_40 : decode cX9_enter 40 = .ok (.iload_n 2, 1) := by decide +kernel
theorem dX9_enter_41 : decode cX9_enter 41 = .ok (.invokevirtual 162, 3) := by decide +kernel
theorem dX9_enter_44 : decode cX9_enter 44 = .ok (.ifCond .eq 6, 3) := by decide +kernel
theorem dX9_enter_47 : decode cX9_enter 47 = .ok (.iload 4, 2) := by decide +kernel
theorem dX9_enter_49 : decode cX9_enter 49 = .ok (.istore_n 3, 1) := by decide +kernel
theorem dX9_enter_50 : decode cX9_enter 50 = .ok (.iinc 4 1, 3) := by decide +kernel
theorem dX9_enter_53 : decode cX9_enter 53 = .ok (.goto (-48), 3) := by decide +kernel
theorem dX9_enter_56 : decode cX9_enter 56 = .ok (.iload_n 1, 1) := by decide +kernel
theorem dX9_enter_57 : decode cX9_enter 57 = .ok (.ifCond .ne 8, 3) := by decide +kernel
theorem dX9_enter_60 : decode cX9_enter 60 = .ok (.bipush 26, 2) := by decide +kernel
theorem dX9_enter_62 : decode cX9_enter 62 = .ok (.goto 5, 3) := by decide +kernel
theorem dX9_enter_65 : decode cX9_enter 65 = .ok (.bipush 27, 2) := by decide +kernel
theorem dX9_enter_67 : decode cX9_enter 67 = .ok (.istore 4, 2) := by decide +kernel
theorem dX9_enter_69 : decode cX9_enter 69 = .ok (.aload_n 0, 1) := by decide +kernel
theorem dX9_enter_70 : decode cX9_enter 70 = .ok (.aload_n 0, 1) := by decide +kernel
theorem dX9_enter_71 : decode cX9_enter 71 = .ok (.iload_n 1, 1) := by decide +kernel
theorem dX9_enter_72 : decode cX9_enter 72 = .ok (.iload_n 3, 1) := by decide +kernel
theorem dX9_enter_73 : decode cX9_enter 73 = .ok (.iload_n 2, 1) := by decide +kernel
theorem dX9_enter_74 : decode cX9_enter 74 = .ok (.invokevirtual 151, 3) := by decide +kernel
theorem dX9_enter_77 : decode cX9_enter 77 = .ok (.bipush 18, 2) := by decide +kernel
theorem dX9_enter_79 : decode cX9_enter 79 = .ok (.invokevirtual 98, 3) := by decide +kernel
theorem dX9_enter_82 : decode cX9_enter 82 = .ok (.iconst 0, 1) := by decide +kernel
theorem dX9_enter_83 : decode cX9_enter 83 = .ok (.istore 5, 2) := by decide +kernel
theorem dX9_enter_85 : decode cX9_enter 85 = .ok (.iload 5, 2) := by decide +kernel
theorem dX9_enter_87 : decode cX9_enter 87 = .ok (.aload_n 0, 1) := by decide +kernel
theorem dX9_enter_88 : decode cX9_enter 88 = .ok (.iload_n 1, 1) := by decide +kernel
theorem dX9_enter_89 : decode cX9_enter 89 = .ok (.invokevirtual 147, 3) := by decide +kernel
theorem dX9_enter_92 : decode cX9_enter 92 = .ok (.if_icmp .ge 88, 3) := by decide +kernel
theorem dX9_enter_95 : decode cX9_enter 95 = .ok (.iload 5, 2) := by decide +kernel
theorem dX9_enter_97 : decode cX9_enter 97 = .ok (.iload_n 3, 1) := by decide +kernel
theorem dX9_enter_98 : decode cX9_enter 98 = .ok (.if_icmp .eq 76, 3) := by decide +kernel
theorem dX9_enter_101 : decode cX9_enter 101 = .ok (.aload_n 0, 1) := by decide +kernel
theorem dX9_enter_102 : decode cX9_enter 102 = .ok (.aload_n 0, 1) := by decide +kernel
theorem dX9_enter_103 : decode cX9_enter 103 = .ok (.iload_n 1, 1) := by decide +kernel
theorem dX9_enter_104 : decode cX9_enter 104 = .ok (.iload 5, 2) := by decide +kernel
theorem dX9_enter_106 : decode cX9_enter 106 = .ok (.iload_n 2, 1) := by decide +kernel
theorem dX9_enter_107 : decode cX9_enter 107 = .ok (.invokevirtual 151, 3) := by decide +kernel
theorem dX9_enter_110 : decode cX9_enter 110 = .ok (.bipush 19, 2) := by decide +kernel
theorem dX9_enter_112 : decode cX9_enter 112 = .ok (.invokevirtual 98, 3) := by decide +kernel
theorem dX9_enter_115 : decode cX9_enter 115 = .ok (.iconst 0, 1) := by decide +kernel
theorem dX9_enter_116 : decode cX9_enter 116 = .ok (.istore 6, 2) := by decide +kernel
theorem dX9_enter_118 : decode cX9_enter 118 = .ok (.iload 6, 2) := by decide +kernel
theorem dX9_enter_120 : decode cX9_enter 120 = .ok (.aload_n 0, 1) := by decide +kernel
theorem dX9_enter_121 : decode cX9_enter 121 = .ok (.getfield 120, 3) := by decide +kernel
theorem dX9_enter_124 : decode cX9_enter 124 = .ok (.aload_n 0, 1) := by decide +kernel
theorem dX9_enter_125 : decode cX9_enter 125 = .ok (.getfield 123, 3) := by decide +kernel
theorem dX9_enter_128 : decode cX9_enter 128 = .ok (.iadd, 1) := by decide +kernel
theorem dX9_enter_129 : decode cX9_enter 129 = .ok (.if_icmp .gt 45, 3) := by decide +kernel
theorem dX9_enter_132 : decode cX9_enter 132 = .ok (.aload_n 0, 1) := by decide +kernel
theorem dX9_enter_133 : decode cX9_enter 133 = .ok (.aload_n 0, 1) := by decide +kernel
theorem dX9_enter_134 : decode cX9_enter 134 = .ok (.iload_n 1, 1) := by decide +kernel
theorem dX9_enter_135 : decode cX9_enter 135 = .ok (.iload 5, 2) := by decide +kernel
theorem dX9_enter_137 : decode cX9_enter 137 = .ok (.iload 6, 2) := by decide +kernel
theorem dX9_enter_139 : decode cX9_enter 139 = .ok (.invokevirtual 151, 3) := by decide +kernel
theorem dX9_enter_142 : decode cX9_enter 142 = .ok (.bipush 18, 2) := by decide +kernel
theorem dX9_enter_144 : decode cX9_enter 144 = .ok (.bipush 19, 2) := by decide +kernel
theorem dX9_enter_146 : decode cX9_enter 146 = .ok (.aload_n 0, 1) := by decide +kernel
theorem dX9_enter_147 : decode cX9_enter 147 = .ok (.iload_n 1, 1) := by decide +kernel
theorem dX9_enter_148 : decode cX9_enter 148 = .ok (.iload_n 3, 1) := by decide +kernel
theorem dX9_enter_149 : decode cX9_enter 149 = .ok (.iload 6, 2) := by decide +kernel
theorem dX9_enter_151 : decode cX9_enter 151 = .ok (.invokevirtual 151, 3) := by decide +kernel
theorem dX9_enter_154 : decode cX9_enter 154 = .ok (.iload 4, 2) := by decide +kernel
theorem dX9_enter_156 : decode cX9_enter 156 = .ok (.aload_n 0, 1) := by decide +kernel
theorem dX9_enter_157 : decode cX9_enter 157 = .ok (.iload_n 1, 1) := by decide +kernel
theorem dX9_enter_158 : decode cX9_enter 158 = .ok (.iload 5, 2) := by decide +kernel
theorem dX9_enter_160 : decode cX9_enter 160 = .ok (.iload 6, 2) := by decide +kernel
theorem dX9_enter_162 : decode cX9_enter 162 = .ok (.invokevirtual 151, 3) := by decide +kernel
theorem dX9_enter_165 : decode cX9_enter 165 = .ok (.invokevirtual 166, 3) := by decide +kernel
theorem dX9_enter_168 : decode cX9_enter 168 = .ok (.iinc 6 1, 3) := by decide +kernel
theorem dX9_enter_171 : decode cX9_enter 171 = .ok (.goto (-53), 3) := by decide +kernel
theorem dX9_enter_174 : decode cX9_enter 174 = .ok (.iinc 5 1, 3) := by decide +kernel
theorem dX9_enter_177 : decode cX9_enter 177 = .ok (.goto (-92), 3) := by decide +kernel
theorem dX9_enter_180 : decode cX9_enter 180 = .ok (.aload_n 0, 1) := by decide +kernel
theorem dX9_enter_181 : decode cX9_enter 181 = .ok (.bipush 18, 2) := by decide +kernel
theorem dX9_enter_183 : decode cX9_enter 183 = .ok (.iload 4, 2) := by decide +kernel
theorem dX9_enter_185 : decode cX9_enter 185 = .ok (.invokevirtual 98, 3) := by decide +kernel
theorem dX9_enter_188 : decode cX9_enter 188 = .ok (.aload_n 0, 1) := by decide +kernel
theorem dX9_enter_189 : decode cX9_enter 189 = .ok (.getfield 48, 3) := by decide +kernel
theorem dX9_enter_192 : decode cX9_enter 192 = .ok (.bipush 6, 2) := by decide +kernel
theorem dX9_enter_194 : decode cX9_enter 194 = .ok (.iload_n 1, 1) := by decide +kernel
theorem dX9_enter_195 : decode cX9_enter 195 = .ok (.imul, 1) := by decide +kernel
theorem dX9_enter_196 : decode cX9_enter 196 = .ok (.iload_n 3, 1) := by decide +kernel
theorem dX9_enter_197 : decode cX9_enter 197 = .ok (.iadd, 1) := by decide +kernel
theorem dX9_enter_198 : decode cX9_enter 198 = .ok (.iaload, 1) := by decide +kernel
theorem dX9_enter_199 : decode cX9_enter 199 = .ok (.istore 5, 2) := by decide +kernel
theorem dX9_enter_201 : decode cX9_enter 201 = .ok (.aload_n 0, 1) := by decide +kernel
theorem dX9_enter_202 : decode cX9_enter 202 = .ok (.getfield 48, 3) := by decide +kernel
theorem dX9_enter_205 : decode cX9_enter 205 = .ok (.bipush 6, 2) := by decide +kernel
theorem dX9_enter_207 : decode cX9_enter 207 = .ok (.iload_n 1, 1) := by decide +kernel
theorem dX9_enter_208 : decode cX9_enter 208 = .ok (.imul, 1) := by decide +kernel
theorem dX9_enter_209 : decode cX9_enter 209 = .ok (.iload_n 3, 1) := by decide +kernel
theorem dX9_enter_210 : decode cX9_enter 210 = .ok (.iadd, 1) := by decide +kernel
theorem dX9_enter_211 : decode cX9_enter 211 = .ok (.iload_n 2, 1) := by decide +kernel
theorem dX9_enter_212 : decode cX9_enter 212 = .ok (.iastore, 1) := by decide +kernel
theorem dX9_enter_213 : decode cX9_enter 213 = .ok (.iload 5, 2) := by decide +kernel
theorem dX9_enter_215 : decode cX9_enter 215 = .ok (.ireturn, 1) := by decide +kernel
theorem dX9_run_0 : decode cX9_run 0 = .ok (.aload_n 0, 1) := by decide +kernel
theorem dX9_run_1 : decode cX9_run 1 = .ok (.aload_n 0, 1) := by decide +kernel
theorem dX9_run_2 : decode cX9_run 2 = .ok (.getfield 120, 3) := by decide +kernel
theorem dX9_run_5 : decode cX9_run 5 = .ok (.ifCond .ne 7, 3) := by decide +kernel
theorem dX9_run_8 : decode cX9_run 8 = .ok (.iconst 1, 1) := by decide +kernel
theorem dX9_run_9 : decode cX9_run 9 = .ok (.goto 27, 3) := by decide +kernel
theorem dX9_run_12 : decode cX9_run 12 = .ok (.iload_n 1, 1) := by decide +kernel
theorem dX9_run_13 : decode cX9_run 13 = .ok (.iconst 0, 1) := by decide +kernel
theorem dX9_run_14 : decode cX9_run 14 = .ok (.aload_n 0, 1) := by decide +kernel
theorem dX9_run_15 : decode cX9_run 15 = .ok (.getfield 120, 3) := by decide +kernel
theorem dX9_run_18 : decode cX9_run 18 = .ok (.aload_n 0, 1) := by decide +kernel
theorem dX9_run_19 : decode cX9_run 19 = .ok (.getfield 123, 3) := by decide +kernel
theorem dX9_run_22 : decode cX9_run 22 = .ok (.iadd, 1) := by decide +kernel
theorem dX9_run_23 : decode cX9_run 23 = .ok (.iconst 1, 1) := by decide +kernel
theorem dX9_run_24 : decode cX9_run 24 = .ok (.isub, 1) := by decide +kernel
theorem dX9_run_25 : decode cX9_run 25 = .ok (.invokestatic 116, 3) := by decide +kernel
theorem dX9_run_28 : decode cX9_run 28 = .ok (.ifCond .ne 7, 3) := by decide +kernel
theorem dX9_run_31 : decode cX9_run 31 = .ok (.iconst 2, 1) := by decide +kernel
theorem dX9_run_32 : decode cX9_run 32 = .ok (.goto 4, 3) := by decide +kernel
theorem dX9_run_35 : decode cX9_run 35 = .ok (.iconst 0, 1) := by decide +kernel
theorem dX9_run_36 : decode cX9_run 36 = .ok (.putfield 84, 3) := by decide +kernel
theorem dX9_run_39 : decode cX9_run 39 = .ok (.aload_n 0, 1) := by decide +kernel
theorem dX9_run_40 : decode cX9_run 40 = .ok (.getfield 84, 3) := by decide +kernel
theorem dX9_run_43 : decode cX9_run 43 = .ok (.ifCond .le 5, 3) := by decide +kernel
theorem dX9_run_46 : decode cX9_run 46 = .ok (.iconst 0, 1) := by decide +kernel
theorem dX9_run_47 : decode cX9_run 47 = .ok (.ireturn, 1) := by decide +kernel
theorem dX9_run_48 : decode cX9_run 48 = .ok (.aload_n 0, 1) := by decide +kernel
theorem dX9_run_49 : decode cX9_run 49 = .ok (.invokevirtual 170, 3) := by decide +kernel
theorem dX9_run_52 : decode cX9_run 52 = .ok (.aload_n 0, 1) := by decide +kernel
theorem dX9_run_53 : decode cX9_run 53 = .ok (.iconst 0, 1) := by decide +kernel
theorem dX9_run_54 : decode cX9_run 54 = .ok (.putfield 129, 3) := by decide +kernel
theorem dX9_run_57 : decode cX9_run 57 = .ok (.iload_n 1, 1) := by decide +kernel
theorem dX9_run_58 : decode cX9_run 58 = .ok (.aload_n 0, 1) := by decide +kernel
theorem dX9_run_59 : decode cX9_run 59 = .ok (.getfield 120, 3) := by decide +kernel
theorem dX9_run_62 : decode cX9_run 62 = .ok (.if_icmp .ge 7, 3) := by decide +kernel
theorem dX9_run_65 : decode cX9_run 65 = .ok (.iconst 0, 1) := by decide +kernel
theorem dX9_run_66 : decode cX9_run 66 = .ok (.goto 4, 3) := by decide +kernel
theorem dX9_run_69 : decode cX9_run 69 = .ok (.iconst 1, 1) := by decide +kernel
theorem dX9_run_70 : decode cX9_run 70 = .ok (.istore_n 2, 1) := by decide +kernel
theorem dX9_run_71 : decode cX9_run 71 = .ok (.iload_n 1, 1) := by decide +kernel
theorem dX9_run_72 : decode cX9_run 72 = .ok (.istore_n 3, 1) := by decide +kernel
theorem dX9_run_73 : decode cX9_run 73 = .ok (.iconst 1, 1) := by decide +kernel
theorem dX9_run_74 : decode cX9_run 74 = .ok (.istore 4, 2) := by decide +kernel
theorem dX9_run_76 : decode cX9_run 76 = .ok (.iload 4, 2) := by decide +kernel
theorem dX9_run_78 : decode cX9_run 78 = .ok (.ifCond .eq 75, 3) := by decide +kernel
theorem dX9_run_81 : decode cX9_run 81 = .ok (.aload_n 0, 1) := by decide +kernel
theorem dX9_run_82 : decode cX9_run 82 = .ok (.iload_n 2, 1) := by decide +kernel
theorem dX9_run_83 : decode cX9_run 83 = .ok (.iload_n 3, 1) := by decide +kernel
theorem dX9_run_84 : decode cX9_run 84 = .ok (.invokevirtual 173, 3) := by decide +kernel
theorem dX9_run_87 : decode cX9_run 87 = .ok (.istore 5, 2) := by decide +kernel
theorem dX9_run_89 : decode cX9_run 89 = .ok (.aload_n 0, 1) := by decide +kernel
theorem dX9_run_90 : decode cX9_run 90 = .ok (.getfield 36, 3) := by decide +kernel
theorem dX9_run_93 : decode cX9_run 93 = .ok (.aload_n 0, 1) := by decide +kernel
theorem dX9_run_94 : decode cX9_run 94 = .ok (.getfield 129, 3) := by decide +kernel
theorem dX9_run_97 : decode cX9_run 97 = .ok (.iload_n 3, 1) := by decide +kernel
theorem dX9_run_98 : decode cX9_run 98 = .ok (.iastore, 1) := by decide +kernel
theorem dX9_run_99 : decode cX9_run 99 = .ok (.aload_n 0, 1) := by decide +kernel
theorem dX9_run_100 : decode cX9_run 100 = .ok (.getfield 39, 3) := by decide +kernel
theorem dX9_run_103 : decode cX9_run 103 = .ok (.aload_n 0, 1) := by decide +kernel
theorem dX9_run_104 : decode cX9_run 104 = .ok (.getfield 129, 3) := by decide +kernel
theorem dX9_run_107 : decode cX9_run 107 = .ok (.iload 5, 2) := by decide +kernel
theorem dX9_run_109 : decode cX9_run 109 = .ok (.iastore, 1) := by decide +kernel
theorem dX9_run_110 : decode cX9_run 110 = .ok (.aload_n 0, 1) := by decide +kernel
theorem dX9_run_111 : decode cX9_run 111 = .ok (.getfield 42, 3) := by decide +kernel
theorem dX9_run_114 : decode cX9_run 114 = .ok (.aload_n 0, 1) := by decide +kernel
theorem dX9_run_115 : decode cX9_run 115 = .ok (.getfield 129, 3) := by decide +kernel
theorem dX9_run_118 : decode cX9_run 118 = .ok (.iload_n 2, 1) := by decide +kernel
theorem dX9_run_119 : decode cX9_run 119 = .ok (.iastore, 1) := by decide +kernel
theorem dX9_run_120 : decode cX9_run 120 = .ok (.aload_n 0, 1) := by decide +kernel
theorem dX9_run_121 : decode cX9_run 121 = .ok (.dup, 1) := by decide +kernel
theorem dX9_run_122 : decode cX9_run 122 = .ok (.getfield 129, 3) := by decide +kernel
theorem dX9_run_125 : decode cX9_run 125 = .ok (.iconst 1, 1) := by decide +kernel
theorem dX9_run_126 : decode cX9_run 126 = .ok (.iadd, 1) := by decide +kernel
theorem dX9_run_127 : decode cX9_run 127 = .ok (.putfield 129, 3) := by decide +kernel
theorem dX9_run_130 : decode cX9_run 130 = .ok (.iload 5, 2) := by decide +kernel
theorem dX9_run_132 : decode cX9_run 132 = .ok (.iload_n 1, 1) := by decide +kernel
