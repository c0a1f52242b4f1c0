theorem dX9_times_207 : decode cX9_times 207 = .ok (.iaload, 1) := by decide +kernel
theorem dX9_times_208 : decode cX9_times 208 = .ok (.imul, 1) := by decide +kernel
theorem dX9_times_209 : decode cX9_times 209 = .ok (.iastore, 1) := by decide +kernel
theorem dX9_times_210 : decode cX9_times 210 = .ok (.aload_n 0, 1) := by decide +kernel
theorem dX9_times_211 : decode cX9_times 211 = .ok (.iload_n 3, 1) := by decide +kernel
theorem dX9_times_212 : decode cX9_times 212 = .ok (.iload 4, 2) := by decide +kernel
theorem dX9_times_214 : decode cX9_times 214 = .ok (.invokevirtual 94, 3) := by decide +kernel
theorem dX9_times_217 : decode cX9_times 217 = .ok (.return_, 1) := by decide +kernel
theorem dX9_divide_0 : decode cX9_divide 0 = .ok (.aload_n 0, 1) := by decide +kernel
theorem dX9_divide_1 : decode cX9_divide 1 = .ok (.getfield 14, 3) := by decide +kernel
theorem dX9_divide_4 : decode cX9_divide 4 = .ok (.iload_n 1, 1) := by decide +kernel
theorem dX9_divide_5 : decode cX9_divide 5 = .ok (.iaload, 1) := by decide +kernel
theorem dX9_divide_6 : decode cX9_divide 6 = .ok (.istore 5, 2) := by decide +kernel
theorem dX9_divide_8 : decode cX9_divide 8 = .ok (.aload_n 0, 1) := by decide +kernel
theorem dX9_divide_9 : decode cX9_divide 9 = .ok (.getfield 14, 3) := by decide +kernel
theorem dX9_divide_12 : decode cX9_divide 12 = .ok (.iload_n 2, 1) := by decide +kernel
theorem dX9_divide_13 : decode cX9_divide 13 = .ok (.iaload, 1) := by decide +kernel
theorem dX9_divide_14 : decode cX9_divide 14 = .ok (.istore 6, 2) := by decide +kernel
theorem dX9_divide_16 : decode cX9_divide 16 = .ok (.aload_n 0, 1) := by decide +kernel
theorem dX9_divide_17 : decode cX9_divide 17 = .ok (.getfield 17, 3) := by decide +kernel
theorem dX9_divide_20 : decode cX9_divide 20 = .ok (.iload_n 1, 1) := by decide +kernel
theorem dX9_divide_21 : decode cX9_divide 21 = .ok (.iaload, 1) := by decide +kernel
theorem dX9_divide_22 : decode cX9_divide 22 = .ok (.aload_n 0, 1) := by decide +kernel
theorem dX9_divide_23 : decode cX9_divide 23 = .ok (.getfield 17, 3) := by decide +kernel
theorem dX9_divide_26 : decode cX9_divide 26 = .ok (.iload_n 2, 1) := by decide +kernel
theorem dX9_divide_27 : decode cX9_divide 27 = .ok (.iaload, 1) := by decide +kernel
theorem dX9_divide_28 : decode cX9_divide 28 = .ok (.imul, 1) := by decide +kernel
theorem dX9_divide_29 : decode cX9_divide 29 = .ok (.istore 7, 2) := by decide +kernel
theorem dX9_divide_31 : decode cX9_divide 31 = .ok (.aload_n 0, 1) := by decide +kernel
theorem dX9_divide_32 : decode cX9_divide 32 = .ok (.iload_n 1, 1) := by decide +kernel
theorem dX9_divide_33 : decode cX9_divide 33 = .ok (.iload_n 2, 1) := by decide +kernel
theorem dX9_divide_34 : decode cX9_divide 34 = .ok (.invokevirtual 89, 3) := by decide +kernel
theorem dX9_divide_37 : decode cX9_divide 37 = .ok (.ifCond .ge 45, 3) := by decide +kernel
theorem dX9_divide_40 : decode cX9_divide 40 = .ok (.aload_n 0, 1) := by decide +kernel
theorem dX9_divide_41 : decode cX9_divide 41 = .ok (.iload_n 1, 1) := by decide +kernel
theorem dX9_divide_42 : decode cX9_divide 42 = .ok (.iload 4, 2) := by decide +kernel
theorem dX9_divide_44 : decode cX9_divide 44 = .ok (.invokevirtual 98, 3) := by decide +kernel
theorem dX9_divide_47 : decode cX9_divide 47 = .ok (.aload_n 0, 1) := by decide +kernel
theorem dX9_divide_48 : decode cX9_divide 48 = .ok (.getfield 17, 3) := by decide +kernel
theorem dX9_divide_51 : decode cX9_divide 51 = .ok (.iload 4, 2) := by decide +kernel
theorem dX9_divide_53 : decode cX9_divide 53 = .ok (.aload_n 0, 1) := by decide +kernel
theorem dX9_divide_54 : decode cX9_divide 54 = .ok (.getfield 17, 3) := by decide +kernel
theorem dX9_divide_57 : decode cX9_divide 57 = .ok (.iload 4, 2) := by decide +kernel
theorem dX9_divide_59 : decode cX9_divide 59 = .ok (.iaload, 1) := by decide +kernel
theorem dX9_divide_60 : decode cX9_divide 60 = .ok (.ifCond .ge 7, 3) := by decide +kernel
theorem dX9_divide_63 : decode cX9_divide 63 = .ok (.iconst 1, 1) := by decide +kernel
theorem dX9_divide_64 : decode cX9_divide 64 = .ok (.goto 10, 3) := by decide +kernel
theorem dX9_divide_67 : decode cX9_divide 67 = .ok (.aload_n 0, 1) := by decide +kernel
theorem dX9_divide_68 : decode cX9_divide 68 = .ok (.getfield 17, 3) := by decide +kernel
theorem dX9_divide_71 : decode cX9_divide 71 = .ok (.iload 4, 2) := by decide +kernel
theorem dX9_divide_73 : decode cX9_divide 73 = .ok (.iaload, 1) := by decide +kernel
theorem dX9_divide_74 : decode cX9_divide 74 = .ok (.iastore, 1) := by decide +kernel
theorem dX9_divide_75 : decode cX9_divide 75 = .ok (.aload_n 0, 1) := by decide +kernel
theorem dX9_divide_76 : decode cX9_divide 76 = .ok (.iload_n 3, 1) := by decide +kernel
theorem dX9_divide_77 : decode cX9_divide 77 = .ok (.lconst 0, 1) := by decide +kernel
theorem dX9_divide_78 : decode cX9_divide 78 = .ok (.invokevirtual 80, 3) := by decide +kernel
theorem dX9_divide_81 : decode cX9_divide 81 = .ok (.return_, 1) := by decide +kernel
theorem dX9_divide_82 : decode cX9_divide 82 = .ok (.iconst 0, 1) := by decide +kernel
theorem dX9_divide_83 : decode cX9_divide 83 = .ok (.istore 8, 2) := by decide +kernel
theorem dX9_divide_85 : decode cX9_divide 85 = .ok (.aload_n 0, 1) := by decide +kernel
theorem dX9_divide_86 : decode cX9_divide 86 = .ok (.getfield 8, 3) := by decide +kernel
theorem dX9_divide_89 : decode cX9_divide 89 = .ok (.bipush 40, 2) := by decide +kernel
theorem dX9_divide_91 : decode cX9_divide 91 = .ok (.iload_n 2, 1) := by decide +kernel
theorem dX9_divide_92 : decode cX9_divide 92 = .ok (.imul, 1) := by decide +kernel
theorem dX9_divide_93 : decode cX9_divide 93 = .ok (.iload 6, 2) := by decide +kernel
theorem dX9_divide_95 : decode cX9_divide 95 = .ok (.iadd, 1) := by decide +kernel
theorem dX9_divide_96 : decode cX9_divide 96 = .ok (.iconst 1, 1) := by decide +kernel
theorem dX9_divide_97 : decode cX9_divide 97 = .ok (.isub, 1) := by decide +kernel
theorem dX9_divide_98 : decode cX9_divide 98 = .ok (.iaload, 1) := by decide +kernel
theorem dX9_divide_99 : decode cX9_divide 99 = .ok (.iload 8, 2) := by decide +kernel
theorem dX9_divide_101 : decode cX9_divide 101 = .ok (.ishl, 1) := by decide +kernel
theorem dX9_divide_102 : decode cX9_divide 102 = .ok (.ldc 101, 2) := by decide +kernel
theorem dX9_divide_104 : decode cX9_divide 104 = .ok (.if_icmp .ge 9, 3) := by decide +kernel
theorem dX9_divide_107 : decode cX9_divide 107 = .ok (.iinc 8 1, 3) := by decide +kernel
theorem dX9_divide_110 : decode cX9_divide 110 = .ok (.goto (-25), 3) := by decide +kernel
theorem dX9_divide_113 : decode cX9_divide 113 = .ok (.iconst 0, 1) := by decide +kernel
theorem dX9_divide_114 : decode cX9_divide 114 = .ok (.istore 9, 2) := by decide +kernel
theorem dX9_divide_116 : decode cX9_divide 116 = .ok (.iload 9, 2) := by decide +kernel
theorem dX9_divide_118 : decode cX9_divide 118 = .ok (.iload 5, 2) := by decide +kernel
theorem dX9_divide_120 : decode cX9_divide 120 = .ok (.if_icmp .gt 83, 3) := by decide +kernel
theorem dX9_divide_123 : decode cX9_divide 123 = .ok (.iload 9, 2) := by decide +kernel
theorem dX9_divide_125 : decode cX9_divide 125 = .ok (.iload 5, 2) := by decide +kernel
theorem dX9_divide_127 : decode cX9_divide 127 = .ok (.if_icmp .ge 18, 3) := by decide +kernel
theorem dX9_divide_130 : decode cX9_divide 130 = .ok (.aload_n 0, 1) := by decide +kernel
theorem dX9_divide_131 : decode cX9_divide 131 = .ok (.getfield 8, 3) := by decide +kernel
theorem dX9_divide_134 : decode cX9_divide 134 = .ok (.bipush 40, 2) := by decide +kernel
theorem dX9_divide_136 : decode cX9_divide 136 = .ok (.iload_n 1, 1) := by decide +kernel
theorem dX9_divide_137 : decode cX9_divide 137 = .ok (.imul, 1) := by decide +kernel
theorem dX9_divide_138 : decode cX9_divide 138 = .ok (.iload 9, 2) := by decide +kernel
theorem dX9_divide_140 : decode cX9_divide 140 = .ok (.iadd, 1) := by decide +kernel
theorem dX9_divide_141 : decode cX9_divide 141 = .ok (.iaload, 1) := by decide +kernel
theorem dX9_divide_142 : decode cX9_divide 142 = .ok (.goto 4, 3) := by decide +kernel
theorem dX9_divide_145 : decode cX9_divide 145 = .ok (.iconst 0, 1) := by decide +kernel
theorem dX9_divide_146 : decode cX9_divide 146 = .ok (.istore 10, 2) := by decide +kernel
theorem dX9_divide_148 : decode cX9_divide 148 = .ok (.iload 9, 2) := by decide +kernel
theorem dX9_divide_150 : decode cX9_divide 150 = .ok (.ifCond .le 20, 3) := by decide +kernel
theorem dX9_divide_153 : decode cX9_divide 153 = .ok (.aload_n 0, 1) := by decide +kernel
theorem dX9_divide_154 : decode cX9_divide 154 = .ok (.getfield 8, 3) := by decide +kernel
theorem dX9_divide_157 : decode cX9_divide 157 = .ok (.bipush 40, 2) := by decide +kernel
theorem dX9_divide_159 : decode cX9_divide 159 = .ok (.iload_n 1, 1) := by decide +kernel
theorem dX9_divide_160 : decode cX9_divide 160 = .ok (.imul, 1) := by decide +kernel
theorem dX9_divide_161 : decode cX9_divide 161 = .ok (.iload 9, 2) := by decide +kernel
theorem dX9_divide_163 : decode cX9_divide 163 = .ok (.iadd, 1) := by decide +kernel
theorem dX9_divide_164 : decode cX9_divide 164 = .ok (.iconst 1, 1) := by decide +kernel
theorem dX9_divide_165 : decode cX9_divide 165 = .ok (.isub, 1) := by decide +kernel
theorem dX9_divide_166 : decode cX9_divide 166 = .ok (.iaload, 1) := by decide +kernel
theorem dX9_divide_167 : decode cX9_divide 167 = .ok (.goto 4, 3) := by decide +kernel
theorem dX9_divide_170 : decode cX9_divide 170 = .ok (.iconst 0, 1) := by decide +kernel
theorem dX9_divide_171 : decode cX9_divide 171 = .ok (.istore 11, 2) := by decide +kernel
theorem dX9_divide_173 : decode cX9_divide 173 = .ok (.aload_n 0, 1) := by decide +kernel
theorem dX9_divide_174 : decode cX9_divide 174 = .ok (.getfield 65, 3) := by decide +kernel
theorem dX9_divide_177 : decode cX9_divide 177 = .ok (.iload 9, 2) := by decide +kernel
theorem dX9_divide_179 : decode cX9_divide 179 = .ok (.iload 10, 2) := by decide +kernel
theorem dX9_divide_181 : decode cX9_divide 181 = .ok (.iload 8, 2) := by decide +kernel
theorem dX9_divide_183 : decode cX9_divide 183 = .ok (.ishl, 1) := by decide +kernel
theorem dX9_divide_184 : decode cX9_divide 184 = .ok (.iload 11, 2) := by decide +kernel
theorem dX9_divide_186 : decode cX9_divide 186 = .ok (.bipush 16, 2) := by decide +kernel
theorem dX9_divide_188 : decode cX9_divide 188 = .ok (.iload 8, 2) := by decide +kernel
theorem dX9_divide_190 : decode cX9_divide 190 = .ok (.isub, 1) := by decide +kernel
theorem dX9_divide_191 : decode cX9_divide 191 = .ok (.ishr, 1) := by decide +kernel
theorem dX9_divide_192 : decode cX9_divide 192 = .ok (.ior, 1) := by decide +kernel
theorem dX9_divide_193 : decode cX9_divide 193 = .ok (.ldc 93, 2) := by decide +kernel
theorem dX9_divide_195 : decode cX9_divide 195 = .ok (.iand, 1) := by decide +kernel
theorem dX9_divide_196 : decode cX9_divide 196 = .ok (.iastore, 1) := by decide +kernel
theorem dX9_divide_197 : decode cX9_divide 197 = .ok (.iinc 9 1, 3) := by decide +kernel
theorem dX9_divide_200 : decode cX9_divide 200 = .ok (.goto (-84), 3) := by decide +kernel
theorem dX9_divide_203 : decode cX9_divide 203 = .ok (.iconst 0, 1) := by decide +kernel
theorem dX9_divide_204 : decode cX9_divide 204 = .ok (.istore 9, 2) := by decide +kernel
theorem dX9_divide_206 : decode cX9_divide 206 = .ok (.iload 9, 2) := by decide +kernel
theorem dX9_divide_208 : decode cX9_divide 208 = .ok (.iload 6, 2) := by decide +kernel
theorem dX9_divide_210 : decode cX9_divide 210 = .ok (.if_icmp .ge 68, 3) := by decide +kernel
theorem dX9_divide_213 : decode cX9_divide 213 = .ok (.iload 9, 2) := by decide +kernel
theorem dX9_divide_215 : decode cX9_divide 215 = .ok (.ifCond .le 20, 3) := by decide +kernel
theorem dX9_divide_218 : decode cX9_divide 218 = .ok (.aload_n 0, 1) := by decide +kernel
theorem dX9_divide_219 : decode cX9_divide 219 = .ok (.getfield 8, 3) := by decide +kernel
theorem dX9_divide_222 : decode cX9_divide 222 = .ok (.bipush 40, 2) := by decide +kernel
theorem dX9_divide_224 : decode cX9_divide 224 = .ok (.iload_n 2, 1) := by decide +kernel
theorem dX9_divide_225 : decode cX9_divide 225 = .ok (.imul, 1) := by decide +kernel
theorem dX9_divide_226 : decode cX9_divide 226 = .ok (.iload 9, 2) := by decide +kernel
theorem dX9_divide_228 : decode cX9_divide 228 = .ok (.iadd, 1) := by decide +kernel
theorem dX9_divide_229 : decode cX9_divide 229 = .ok (.iconst 1, 1) := by decide +kernel
theorem dX9_divide_230 : decode cX9_divide 230 = .ok (.isub, 1) := by decide +kernel
theorem dX9_divide_231 : decode cX9_divide 231 = .ok (.iaload, 1) := by decide +kernel
theorem dX9_divide_232 : decode cX9_divide 232 = .ok (.goto 4, 3) := by decide +kernel
theorem dX9_divide_235 : decode cX9_divide 235 = .ok (.iconst 0, 1) := by decide +kernel
theorem dX9_divide_236 : decode cX9_divide 236 = .ok (.istore 10, 2) := by decide +kernel
theorem dX9_divide_238 : decode cX9_divide 238 = .ok (.aload_n 0, 1) := by decide +kernel
theorem dX9_divide_239 : decode cX9_divide 239 = .ok (.getfield 68, 3) := by decide +kernel
theorem dX9_divide_242 : decode cX9_divide 242 = .ok (.iload 9, 2) := by decide +kernel
theorem dX9_divide_244 : decode cX9_divide 244 = .ok (.aload_n 0, 1) := by decide +kernel
theorem dX9_divide_245 : decode cX9_divide 245 = .ok (.getfield 8, 3) := by decide +kernel
theorem dX9_divide_248 : decode cX9_divide 248 = .ok (.bipush 40, 2) := by decide +kernel
theorem dX9_divide_250 : decode cX9_divide 250 = .ok (.iload_n 2, 1) := by decide +kernel
theorem dX9_divide_251 : decode cX9_divide 251 = .ok (.imul, 1) := by decide +kernel
theorem dX9_divide_252 : decode cX9_divide 252 = .ok (.iload 9, 2) := by decide +kernel
theorem dX9_divide_254 : decode cX9_divide 254 = .ok (.iadd, 1) := by decide +kernel
theorem dX9_divide_255 : decode cX9_divide 255 = .ok (.iaload, 1) := by decide +kernel
theorem dX9_divide_256 : decode cX9_divide 256 = .ok (.iload 8, 2) := by decide +kernel
theorem dX9_divide_258 : decode cX9_divide 258 = .ok (.ishl, 1) := by decide +kernel
theorem dX9_divide_259 : decode cX9_divide 259 = .ok (.iload 10, 2) := by decide +kernel
theorem dX9_divide_261 : decode cX9_divide 261 = .ok (.bipush 16, 2) := by decide +kernel
theorem dX9_divide_263 : decode cX9_divide 263 = .ok (.iload 8, 2) := by decide +kernel
theorem dX9_divide_265 : decode cX9_divide 265 = .ok (.isub, 1) := by decide +kernel
theorem dX9_divide_266 : decode cX9_divide 266 = .ok (.ishr, 1) := by decide +kernel
theorem dX9_divide_267 : decode cX9_divide 267 = .ok (.ior, 1) := by decide +kernel
theorem dX9_divide_268 : decode cX9_divide 268 = .ok (.ldc 93, 2) := by decide +kernel
theorem dX9_divide_270 : decode cX9_divide 270 = .ok (.iand, 1) := by decide +kernel
theorem dX9_divide_271 : decode cX9_divide 271 = .ok (.iastore, 1) := by decide +kernel
theorem dX9_divide_272 : decode cX9_divide 272 = .ok (.iinc 9 1, 3) := by decide +kernel
theorem dX9_divide_275 : decode cX9_divide 275 = .ok (.goto (-69), 3) := by decide +kernel
theorem dX9_divide_278 : decode cX9_divide 278 = .ok (.iload 5, 2) := by decide +kernel
theorem dX9_divide_280 : decode cX9_divide 280 = .ok (.iload 6, 2) := by decide +kernel
theorem dX9_divide_282 : decode cX9_divide 282 = .ok (.isub, 1) := by decide +kernel
theorem dX9_divide_283 : decode cX9_divide 283 = .ok (.istore 9, 2) := by decide +kernel
theorem dX9_divide_285 : decode cX9_divide 285 = .ok (.iload 9, 2) := by decide +kernel
theorem dX9_divide_287 : decode cX9_divide 287 = .ok (.ifCond .lt 396, 3) := by decide +kernel
theorem dX9_divide_290 : decode cX9_divide 290 = .ok (.aload_n 0, 1) := by decide +kernel
theorem dX9_divide_291 : decode cX9_divide 291 = .ok (.getfield 65, 3) := by decide +kernel
theorem dX9_divide_294 : decode cX9_divide 294 = .ok (.iload 9, 2) := by decide +kernel
theorem dX9_divide_296 : decode cX9_divide 296 = .ok (.iload 6, 2) := by decide +kernel
theorem dX9_divide_298 : decode cX9_divide 298 = .ok (.iadd, 1) := by decide +kernel
theorem dX9_divide_299 : decode cX9_divide 299 = .ok (.iaload, 1) := by decide +kernel
theorem dX9_divide_300 : decode cX9_divide 300 = .ok (.i2l, 1) := by decide +kernel
theorem dX9_divide_301 : decode cX9_divide 301 = .ok (.ldc2_w 102, 3) := by decide +kernel
theorem dX9_divide_304 : decode cX9_divide 304 = .ok (.lmul, 1) := by decide +kernel
theorem dX9_divide_305 : decode cX9_divide 305 = .ok (.aload_n 0, 1) := by decide +kernel
theorem dX9_divide_306 : decode cX9_divide 306 = .ok (.getfield 65, 3) := by decide +kernel
theorem dX9_divide_309 : decode cX9_divide 309 = .ok (.iload 9, 2) := by decide +kernel
theorem dX9_divide_311 : decode cX9_divide 311 = .ok (.iload 6, 2) := by decide +kernel
theorem dX9_divide_313 : decode cX9_divide 313 = .ok (.iadd, 1) := by decide +kernel
theorem dX9_divide_314 : decode cX9_divide 314 = .ok (.iconst 1, 1) := by decide +kernel
theorem dX9_divide_315 : decode cX9_divide 315 = .ok (.isub, 1) := by decide +kernel
theorem dX9_divide_316 : decode cX9_divide 316 = .ok (.iaload, 1) := by decide +kernel
theorem dX9_divide_317 : decode cX9_divide 317 = .ok (.i2l, 1) := by decide +kernel
theorem dX9_divide_318 : decode cX9_divide 318 = .ok (.ladd, 1) := by decide +kernel
theorem dX9_divide_319 : decode cX9_divide 319 = .ok (.lstore 10, 2) := by decide +kernel
theorem dX9_divide_321 : decode cX9_divide 321 = .ok (.lload 10, 2) := by decide +kernel
theorem dX9_divide_323 : decode cX9_divide 323 = .ok (.aload_n 0, 1) := by decide +kernel
theorem dX9_divide_324 : decode cX9_divide 324 = .ok (.getfield 68, 3) := by decide +kernel
theorem dX9_divide_327 : decode cX9_divide 327 = .ok (.iload 6, 2) := by decide +kernel
theorem dX9_divide_329 : decode cX9_divide 329 = .ok (.iconst 1, 1) := by decide +kernel
theorem dX9_divide_330 : decode cX9_divide 330 = .ok (.isub, 1) := by decide +kernel
theorem dX9_divide_331 : decode cX9_divide 331 = .ok (.iaload, 1) := by decide +kernel
theorem dX9_divide_332 : decode cX9_divide 332 = .ok (.i2l, 1) := by decide +kernel
theorem dX9_divide_333 : decode cX9_divide 333 = .ok (.ldiv, 1) := by decide +kernel
theorem dX9_divide_334 : decode cX9_divide 334 = .ok (.lstore 12, 2) := by decide +kernel
theorem dX9_divide_336 : decode cX9_divide 336 = .ok (.lload 10, 2) := by decide +kernel
theorem dX9_divide_338 : decode cX9_divide 338 = .ok (.aload_n 0, 1) := by decide +kernel
theorem dX9_divide_339 : decode cX9_divide 339 = .ok (.getfield 68, 3) := by decide +kernel
theorem dX9_divide_342 : decode cX9_divide 342 = .ok (.iload 6, 2) := by decide +kernel
theorem dX9_divide_344 : decode cX9_divide 344 = .ok (.iconst 1, 1) := by decide +kernel
theorem dX9_divide_345 : decode cX9_divide 345 = .ok (.isub, 1) := by decide +kernel
theorem dX9_divide_346 : decode cX9_divide 346 = .ok (.iaload, 1) := by decide +kernel
theorem dX9_divide_347 : decode cX9_divide 347 = .ok (.i2l, 1) := by decide +kernel
theorem dX9_divide_348 : decode cX9_divide 348 = .ok (.lrem, 1) := by decide +kernel
theorem dX9_divide_349 : decode cX9_divide 349 = .ok (.lstore 14, 2) := by decide +kernel
theorem dX9_divide_351 : decode cX9_divide 351 = .ok (.iload 6, 2) := by decide +kernel
theorem dX9_divide_353 : decode cX9_divide 353 = .ok (.iconst 1, 1) := by decide +kernel
theorem dX9_divide_354 : decode cX9_divide 354 = .ok (.if_icmp .le 16, 3) := by decide +kernel
theorem dX9_divide_357 : decode cX9_divide 357 = .ok (.aload_n 0, 1) := by decide +kernel
theorem dX9_divide_358 : decode cX9_divide 358 = .ok (.getfield 68, 3) := by decide +kernel
theorem dX9_divide_361 : decode cX9_divide 361 = .ok (.iload 6, 2) := by decide +kernel
theorem dX9_divide_363 : decode cX9_divide 363 = .ok (.iconst 2, 1) := by decide +kernel
theorem dX9_divide_364 : decode cX9_divide 364 = .ok (.isub, 1) := by decide +kernel
theorem dX9_divide_365 : decode cX9_divide 365 = .ok (.iaload, 1) := by decide +kernel
theorem dX9_divide_366 : decode cX9_divide 366 = .ok (.i2l, 1) := by decide +kernel
theorem dX9_divide_367 : decode cX9_divide 367 = .ok (.goto 4, 3) := by decide +kernel
theorem dX9_divide_370 : decode cX9_divide 370 = .ok (.lconst 0, 1) := by decide +kernel
theorem dX9_divide_371 : decode cX9_divide 371 = .ok (.lstore 16, 2) := by decide +kernel
theorem dX9_divide_373 : decode cX9_divide 373 = .ok (.lload 12, 2) := by decide +kernel
theorem dX9_divide_375 : decode cX9_divide 375 = .ok (.ldc2_w 102, 3) := by decide +kernel
theorem dX9_divide_378 : decode cX9_divide 378 = .ok (.lcmp, 1) := by decide +kernel
theorem dX9_divide_379 : decode cX9_divide 379 = .ok (.ifCond .ge 42, 3) := by decide +kernel
theorem dX9_divide_382 : decode cX9_divide 382 = .ok (.lload 12, 2) := by decide +kernel
theorem dX9_divide_384 : decode cX9_divide 384 = .ok (.lload 16, 2) := by decide +kernel
theorem dX9_divide_386 : decode cX9_divide 386 = .ok (.lmul, 1) := by decide +kernel
theorem dX9_divide_387 : decode cX9_divide 387 = .ok (.lload 14, 2) := by decide +kernel
theorem dX9_divide_389 : decode cX9_divide 389 = .ok (.ldc2_w 102, 3) := by decide +kernel
theorem dX9_divide_392 : decode cX9_divide 392 = .ok (.lmul, 1) := by decide +kernel
theorem dX9_divide_393 : decode cX9_divide 393 = .ok (.iload 6, 2) := by decide +kernel
theorem dX9_divide_395 : decode cX9_divide 395 = .ok (.iconst 1, 1) := by decide +kernel
theorem dX9_divide_396 : decode cX9_divide 396 = .ok (.if_icmp .le 19, 3) := by decide +kernel
theorem dX9_divide_399 : decode cX9_divide 399 = .ok (.aload_n 0, 1) := by decide +kernel
theorem dX9_divide_400 : decode cX9_divide 400 = .ok (.getfield 65, 3) := by decide +kernel
theorem dX9_divide_403 : decode cX9_divide 403 = .ok (.iload 9, 2) := by decide +kernel
theorem dX9_divide_405 : decode cX9_divide 405 = .ok (.iload 6, 2) := by decide +kernel
theorem dX9_divide_407 : decode cX9_divide 407 = .ok (.iadd, 1) := by decide +kernel
theorem dX9_divide_408 : decode cX9_divide 408 = .ok (.iconst 2, 1) := by decide +kernel
theorem dX9_divide_409 : decode cX9_divide 409 = .ok (.isub, 1) := by decide +kernel
theorem dX9_divide_410 : decode cX9_divide 410 = .ok (.iaload, 1) := by decide +kernel
theorem dX9_divide_411 : decode cX9_divide 411 = .ok (.i2l, 1) := by decide +kernel
theorem dX9_divide_412 : decode cX9_divide 412 = .ok (.goto 4, 3) := by decide +kernel
theorem dX9_divide_415 : decode cX9_divide 415 = .ok (.lconst 0, 1) := by decide +kernel
theorem dX9_divide_416 : decode cX9_divide 416 = .ok (.ladd, 1) := by decide +kernel
theorem dX9_divide_417 : decode cX9_divide 417 = .ok (.lcmp, 1) := by decide +kernel
theorem dX9_divide_418 : decode cX9_divide 418 = .ok (.ifCond .le 36, 3) := by decide +kernel
theorem dX9_divide_421 : decode cX9_divide 421 = .ok (.lload 12, 2) := by decide +kernel
theorem dX9_divide_423 : decode cX9_divide 423 = .ok (.lconst 1, 1) := by decide +kernel
theorem dX9_divide_424 : decode cX9_divide 424 = .ok (.lsub, 1) := by decide +kernel
theorem dX9_divide_425 : decode cX9_divide 425 = .ok (.lstore 12, 2) := by decide +kernel
theorem dX9_divide_427 : decode cX9_divide 427 = .ok (.lload 14, 2) := by decide +kernel
theorem dX9_divide_429 : decode cX9_divide 429 = .ok (.aload_n 0, 1) := by decide +kernel
theorem dX9_divide_430 : decode cX9_divide 430 = .ok (.getfield 68, 3) := by decide +kernel
theorem dX9_divide_433 : decode cX9_divide 433 = .ok (.iload 6, 2) := by decide +kernel
theorem dX9_divide_435 : decode cX9_divide 435 = .ok (.iconst 1, 1) := by decide +kernel
theorem dX9_divide_436 : decode cX9_divide 436 = .ok (.isub, 1) := by decide +kernel
theorem dX9_divide_437 : decode cX9_divide 437 = .ok (.iaload, 1) := by decide +kernel
theorem dX9_divide_438 : decode cX9_divide 438 = .ok (.i2l, 1) := by decide +kernel
theorem dX9_divide_439 : decode cX9_divide 439 = .ok (.ladd, 1) := by decide +kernel
theorem dX9_divide_440 : decode cX9_divide 440 = .ok (.lstore 14, 2) := by decide +kernel
theorem dX9_divide_442 : decode cX9_divide 442 = .ok (.lload 14, 2) := by decide +kernel
theorem dX9_divide_444 : decode cX9_divide 444 = .ok (.ldc2_w 102, 3) := by decide +kernel
theorem dX9_divide_447 : decode cX9_divide 447 = .ok (.lcmp, 1) := by decide +kernel
theorem dX9_divide_448 : decode cX9_divide 448 = .ok (.ifCond .lt (-75), 3) := by decide +kernel
theorem dX9_divide_451 : decode cX9_divide 451 = .ok (.goto 3, 3) := by decide +kernel
theorem dX9_divide_454 : decode cX9_divide 454 = .ok (.lconst 0, 1) := by decide +kernel
theorem dX9_divide_455 : decode cX9_divide 455 = .ok (.lstore 18, 2) := by decide +kernel
theorem dX9_divide_457 : decode cX9_divide 457 = .ok (.iconst 0, 1) := by decide +kernel
theorem dX9_divide_458 : decode cX9_divide 458 = .ok (.istore 20, 2) := by decide +kernel
theorem dX9_divide_460 : decode cX9_divide 460 = .ok (.iload 20, 2) := by decide +kernel
theorem dX9_divide_462 : decode cX9_divide 462 = .ok (.iload 6, 2) := by decide +kernel
theorem dX9_divide_464 : decode cX9_divide 464 = .ok (.if_icmp .ge 62, 3) := by decide +kernel
theorem dX9_divide_467 : decode cX9_divide 467 = .ok (.aload_n 0, 1) := by decide +kernel
theorem dX9_divide_468 : decode cX9_divide 468 = .ok (.getfield 65, 3) := by decide +kernel
theorem dX9_divide_471 : decode cX9_divide 471 = .ok (.iload 9, 2) := by decide +kernel
theorem dX9_divide_473 : decode cX9_divide 473 = .ok (.iload 20, 2) := by decide +kernel
theorem dX9_divide_475 : decode cX9_divide 475 = .ok (.iadd, 1) := by decide +kernel
theorem dX9_divide_476 : decode cX9_divide 476 = .ok (.iaload, 1) := by decide +kernel
theorem dX9_divide_477 : decode cX9_divide 477 = .ok (.i2l, 1) := by decide +kernel
theorem dX9_divide_478 : decode cX9_divide 478 = .ok (.lload 12, 2) := by decide +kernel
theorem dX9_divide_480 : decode cX9_divide 480 = .ok (.aload_n 0, 1) := by decide +kernel
theorem dX9_divide_481 : decode cX9_divide 481 = .ok (.getfield 68, 3) := by decide +kernel
theorem dX9_divide_484 : decode cX9_divide 484 = .ok (.iload 20, 2) := by decide +kernel
theorem dX9_divide_486 : decode cX9_divide 486 = .ok (.iaload, 1) := by decide +kernel
theorem dX9_divide_487 : decode cX9_divide 487 = .ok (.i2l, 1) := by decide +kernel
theorem dX9_divide_488 : decode cX9_divide 488 = .ok (.lmul, 1) := by decide +kernel
theorem dX9_divide_489 : decode cX9_divide 489 = .ok (.lsub, 1) := by decide +kernel
theorem dX9_divide_490 : decode cX9_divide 490 = .ok (.lload 18, 2) := by decide +kernel
theorem dX9_divide_492 : decode cX9_divide 492 = .ok (.lsub, 1) := by decide +kernel
theorem dX9_divide_493 : decode cX9_divide 493 = .ok (.lstore 21, 2) := by decide +kernel
theorem dX9_divide_495 : decode cX9_divide 495 = .ok (.aload_n 0, 1) := by decide +kernel
theorem dX9_divide_496 : decode cX9_divide 496 = .ok (.getfield 65, 3) := by decide +kernel
theorem dX9_divide_499 : decode cX9_divide 499 = .ok (.iload 9, 2) := by decide +kernel
theorem dX9_divide_501 : decode cX9_divide 501 = .ok (.iload 20, 2) := by decide +kernel
theorem dX9_divide_503 : decode cX9_divide 503 = .ok (.iadd, 1) := by decide +kernel
theorem dX9_divide_504 : decode cX9_divide 504 = .ok (.lload 21, 2) := by decide +kernel
theorem dX9_divide_506 : decode cX9_divide 506 = .ok (.ldc2_w 87, 3) := by decide +kernel
theorem dX9_divide_509 : decode cX9_divide 509 = .ok (.land, 1) := by decide +kernel
theorem dX9_divide_510 : decode cX9_divide 510 = .ok (.l2i, 1) := by decide +kernel
theorem dX9_divide_511 : decode cX9_divide 511 = .ok (.iastore, 1) := by decide +kernel
theorem dX9_divide_512 : decode cX9_divide 512 = .ok (.lload 21, 2) := by decide +kernel
theorem dX9_divide_514 : decode cX9_divide 514 = .ok (.bipush 16, 2) := by decide +kernel
theorem dX9_divide_516 : decode cX9_divide 516 = .ok (.lshr, 1) := by decide +kernel
theorem dX9_divide_517 : decode cX9_divide 517 = .ok (.lneg, 1) := by decide +kernel
theorem dX9_divide_518 : decode cX9_divide 518 = .ok (.lstore 18, 2) := by decide +kernel
theorem dX9_divide_520 : decode cX9_divide 520 = .ok (.iinc 20 1, 3) := by decide +kernel
theorem dX9_divide_523 : decode cX9_divide 523 = .ok (.goto (-63), 3) := by decide +kernel
theorem dX9_divide_526 : decode cX9_divide 526 = .ok (.aload_n 0, 1) := by decide +kernel
theorem dX9_divide_527 : decode cX9_divide 527 = .ok (.getfield 65, 3) := by decide +kernel
theorem dX9_divide_530 : decode cX9_divide 530 = .ok (.iload 9, 2) := by decide +kernel
theorem dX9_divide_532 : decode cX9_divide 532 = .ok (.iload 6, 2) := by decide +kernel
theorem dX9_divide_534 : decode cX9_divide 534 = .ok (.iadd, 1) := by decide +kernel
theorem dX9_divide_535 : decode cX9_divide 535 = .ok (.iaload, 1) := by decide +kernel
theorem dX9_divide_536 : decode cX9_divide 536 = .ok (.i2l, 1) := by decide +kernel
theorem dX9_divide_537 : decode cX9_divide 537 = .ok (.lload 18, 2) := by decide +kernel
theorem dX9_divide_539 : decode cX9_divide 539 = .ok (.lsub, 1) := by decide +kernel
theorem dX9_divide_540 : decode cX9_divide 540 = .ok (.lstore 20, 2) := by decide +kernel
theorem dX9_divide_542 : decode cX9_divide 542 = .ok (.aload_n 0, 1) := by decide +kernel
theorem dX9_divide_543 : decode cX9_divide 543 = .ok (.getfield 65, 3) := by decide +kernel
theorem dX9_divide_546 : decode cX9_divide 546 = .ok (.iload 9, 2) := by decide +kernel
theorem dX9_divide_548 : decode cX9_divide 548 = .ok (.iload 6, 2) := by decide +kernel
theorem dX9_divide_550 : decode cX9_divide 550 = .ok (.iadd, 1) := by decide +kernel
theorem dX9_divide_551 : decode cX9_divide 551 = .ok (.lload 20, 2) := by decide +kernel
theorem dX9_divide_553 : decode cX9_divide 553 = .ok (.ldc2_w 87, 3) := by decide +kernel
theorem dX9_divide_556 : decode cX9_divide 556 = .ok (.land, 1) := by decide +kernel
theorem dX9_divide_557 : decode cX9_divide 557 = .ok (.l2i, 1) := by decide +kernel
theorem dX9_divide_558 : decode cX9_divide 558 = .ok (.iastore, 1) := by decide +kernel
theorem dX9_divide_559 : decode cX9_divide 559 = .ok (.lload 20, 2) := by decide +kernel
theorem dX9_divide_561 : decode cX9_divide 561 = .ok (.lconst 0, 1) := by decide +kernel
theorem dX9_divide_562 : decode cX9_divide 562 = .ok (.lcmp, 1) := by decide +kernel
theorem dX9_divide_563 : decode cX9_divide 563 = .ok (.ifCond .ge 99, 3) := by decide +kernel
theorem dX9_divide_566 : decode cX9_divide 566 = .ok (.lload 12, 2) := by decide +kernel
theorem dX9_divide_568 : decode cX9_divide 568 = .ok (.lconst 1, 1) := by decide +kernel
theorem dX9_divide_569 : decode cX9_divide 569 = .ok (.lsub, 1) := by decide +kernel
theorem dX9_divide_570 : decode cX9_divide 570 = .ok (.lstore 12, 2) := by decide +kernel
theorem dX9_divide_572 : decode cX9_divide 572 = .ok (.iconst 0, 1) := by decide +kernel
theorem dX9_divide_573 : decode cX9_divide 573 = .ok (.istore 22, 2) := by decide +kernel
theorem dX9_divide_575 : decode cX9_divide 575 = .ok (.iconst 0, 1) := by decide +kernel
theorem dX9_divide_576 : decode cX9_divide 576 = .ok (.istore 23, 2) := by decide +kernel
theorem dX9_divide_578 : decode cX9_divide 578 = .ok (.iload 23, 2) := by decide +kernel
theorem dX9_divide_580 : decode cX9_divide 580 = .ok (.iload 6, 2) := by decide +kernel
theorem dX9_divide_582 : decode cX9_divide 582 = .ok (.if_icmp .ge 54, 3) := by decide +kernel
theorem dX9_divide_585 : decode cX9_divide 585 = .ok (.aload_n 0, 1) := by decide +kernel
theorem dX9_divide_586 : decode cX9_divide 586 = .ok (.getfield 65, 3) := by decide +kernel
theorem dX9_divide_589 : decode cX9_divide 589 = .ok (.iload 9, 2) := by decide +kernel
theorem dX9_divide_591 : decode cX9_divide 591 = .ok (.iload 23, 2) := by decide +kernel
theorem dX9_divide_593 : decode cX9_divide 593 = .ok (.iadd, 1) := by decide +kernel
theorem dX9_divide_594 : decode cX9_divide 594 = .ok (.iaload, 1) := by decide +kernel
theorem dX9_divide_595 : decode cX9_divide 595 = .ok (.aload_n 0, 1) := by decide +kernel
theorem dX9_divide_596 : decode cX9_divide 596 = .ok (.getfield 68, 3) := by decide +kernel
theorem dX9_divide_599 : decode cX9_divide 599 = .ok (.iload 23, 2) := by decide +kernel
theorem dX9_divide_601 : decode cX9_divide 601 = .ok (.iaload, 1) := by decide +kernel
theorem dX9_divide_602 : decode cX9_divide 602 = .ok (.iadd, 1) := by decide +kernel
theorem dX9_divide_603 : decode cX9_divide 603 = .ok (.iload 22, 2) := by decide +kernel
theorem dX9_divide_605 : decode cX9_divide 605 = .ok (.iadd, 1) := by decide +kernel
theorem dX9_divide_606 : decode cX9_divide 606 = .ok (.istore 24, 2) := by decide +kernel
theorem dX9_divide_608 : decode cX9_divide 608 = .ok (.aload_n 0, 1) := by decide +kernel
theorem dX9_divide_609 : decode cX9_divide 609 = .ok (.getfield 65, 3) := by decide +kernel
theorem dX9_divide_612 : decode cX9_divide 612 = .ok (.iload 9, 2) := by decide +kernel
theorem dX9_divide_614 : decode cX9_divide 614 = .ok (.iload 23, 2) := by decide +kernel
theorem dX9_divide_616 : decode cX9_divide 616 = .ok (.iadd, 1) := by decide +kernel
theorem dX9_divide_617 : decode cX9_divide 617 = .ok (.iload 24, 2) := by decide +kernel
theorem dX9_divide_619 : decode cX9_divide 619 = .ok (.ldc 93, 2) := by decide +kernel
theorem dX9_divide_621 : decode cX9_divide 621 = .ok (.iand, 1) := by decide +kernel
theorem dX9_divide_622 : decode cX9_divide 622 = .ok (.iastore, 1) := by decide +kernel
theorem dX9_divide_623 : decode cX9_divide 623 = .ok (.iload 24, 2) := by decide +kernel
theorem dX9_divide_625 : decode cX9_divide 625 = .ok (.bipush 16, 2) := by decide +kernel
theorem dX9_divide_627 : decode cX9_divide 627 = .ok (.ishr, 1) := by decide +kernel
theorem dX9_divide_628 : decode cX9_divide 628 = .ok (.istore 22, 2) := by decide +kernel
theorem dX9_divide_630 : decode cX9_divide 630 = .ok (.iinc 23 1, 3) := by decide +kernel
theorem dX9_divide_633 : decode cX9_divide 633 = .ok (.goto (-55), 3) := by decide +kernel
theorem dX9_divide_636 : decode cX9_divide 636 = .ok (.aload_n 0, 1) := by decide +kernel
theorem dX9_divide_637 : decode cX9_divide 637 = .ok (.getfield 65, 3) := by decide +kernel
theorem dX9_divide_640 : decode cX9_divide 640 = .ok (.iload 9, 2) := by decide +kernel
theorem dX9_divide_642 : decode cX9_divide 642 = .ok (.iload 6, 2) := by decide +kernel
theorem dX9_divide_644 : decode cX9_divide 644 = .ok (.iadd, 1) := by decide +kernel
theorem dX9_divide_645 : decode cX9_divide 645 = .ok (.aload_n 0, 1) := by decide +kernel
theorem dX9_divide_646 : decode cX9_divide 646 = .ok (.getfield 65, 3) := by decide +kernel
theorem dX9_divide_649 : decode cX9_divide 649 = .ok (.iload 9, 2) := by decide +kernel
theorem dX9_divide_651 : decode cX9_divide 651 = .ok (.iload 6, 2) := by decide +kernel
theorem dX9_divide_653 : decode cX9_divide 653 = .ok (.iadd, 1) := by decide +kernel
theorem dX9_divide_654 : decode cX9_divide 654 = .ok (.iaload, 1) := by decide +kernel
theorem dX9_divide_655 : decode cX9_divide 655 = .ok (.iload 22, 2) := by decide +kernel
theorem dX9_divide_657 : decode cX9_divide 657 = .ok (.iadd, 1) := by decide +kernel
theorem dX9_divide_658 : decode cX9_divide 658 = .ok (.ldc 93, 2) := by decide +kernel
theorem dX9_divide_660 : decode cX9_divide 660 = .ok (.iand, 1) := by decide +kernel
theorem dX9_divide_661 : decode cX9_divide 661 = .ok (.iastore, 1) := by decide +kernel
theorem dX9_divide_662 : decode cX9_divide 662 = .ok (.aload_n 0, 1) := by decide +kernel
theorem dX9_divide_663 : decode cX9_divide 663 = .ok (.getfield 8, 3) := by decide +kernel
theorem dX9_divide_666 : decode cX9_divide 666 = .ok (.bipush 40, 2) := by decide +kernel
theorem dX9_divide_668 : decode cX9_divide 668 = .ok (.iload_n 3, 1) := by decide +kernel
theorem dX9_divide_669 : decode cX9_divide 669 = .ok (.imul, 1) := by decide +kernel
theorem dX9_divide_670 : decode cX9_divide 670 = .ok (.iload 9, 2) := by decide +kernel
theorem dX9_divide_672 : decode cX9_divide 672 = .ok (.iadd, 1) := by decide +kernel
theorem dX9_divide_673 : decode cX9_divide 673 = .ok (.lload 12, 2) := by decide +kernel
theorem dX9_divide_675 : decode cX9_divide 675 = .ok (.l2i, 1) := by decide +kernel
theorem dX9_divide_676 : decode cX9_divide 676 = .ok (.iastore, 1) := by decide +kernel
theorem dX9_divide_677 : decode cX9_divide 677 = .ok (.iinc 9 (-1), 3) := by decide +kernel
theorem dX9_divide_680 : decode cX9_divide 680 = .ok (.goto (-395), 3) := by decide +kernel
theorem dX9_divide_683 : decode cX9_divide 683 = .ok (.iconst 0, 1) := by decide +kernel
theorem dX9_divide_684 : decode cX9_divide 684 = .ok (.istore 9, 2) := by decide +kernel
theorem dX9_divide_686 : decode cX9_divide 686 = .ok (.iload 9, 2) := by decide +kernel
theorem dX9_divide_688 : decode cX9_divide 688 = .ok (.iload 6, 2) := by decide +kernel
theorem dX9_divide_690 : decode cX9_divide 690 = .ok (.if_icmp .ge 51, 3) := by decide +kernel
theorem dX9_divide_693 : decode cX9_divide 693 = .ok (.aload_n 0, 1) := by decide +kernel
theorem dX9_divide_694 : decode cX9_divide 694 = .ok (.getfield 8, 3) := by decide +kernel
theorem dX9_divide_697 : decode cX9_divide 697 = .ok (.bipush 40, 2) := by decide +kernel
theorem dX9_divide_699 : decode cX9_divide 699 = .ok (.iload 4, 2) := by decide +kernel
theorem dX9_divide_701 : decode cX9_divide 701 = .ok (.imul, 1) := by decide +kernel
theorem dX9_divide_702 : decode cX9_divide 702 = .ok (.iload 9, 2) := by decide +kernel
theorem dX9_divide_704 : decode cX9_divide 704 = .ok (.iadd, 1) := by decide +kernel
theorem dX9_divide_705 : decode cX9_divide 705 = .ok (.aload_n 0, 1) := by decide +kernel
theorem dX9_divide_706 : decode cX9_divide 706 = .ok (.getfield 65, 3) := by decide +kernel
theorem dX9_divide_709 : decode cX9_divide 709 = .ok (.iload 9, 2) := by decide +kernel
theorem dX9_divide_711 : decode cX9_divide 711 = .ok (.iaload, 1) := by decide +kernel
theorem dX9_divide_712 : decode cX9_divide 712 = .ok (.iload 8, 2) := by decide +kernel
theorem dX9_divide_714 : decode cX9_divide 714 = .ok (.ishr, 1) := by decide +kernel
theorem dX9_divide_715 : decode cX9_divide 715 = .ok (.aload_n 0, 1) := by decide +kernel
theorem dX9_divide_716 : decode cX9_divide 716 = .ok (.getfield 65, 3) := by decide +kernel
theorem dX9_divide_719 : decode cX9_divide 719 = .ok (.iload 9, 2) := by decide +kernel
theorem dX9_divide_721 : decode cX9_divide 721 = .ok (.iconst 1, 1) := by decide +kernel
theorem dX9_divide_722 : decode cX9_divide 722 = .ok (.iadd, 1) := by decide +kernel
theorem dX9_divide_723 : decode cX9_divide 723 = .ok (.iaload, 1) := by decide +kernel
theorem dX9_divide_724 : decode cX9_divide 724 = .ok (.bipush 16, 2) := by decide +kernel
theorem dX9_divide_726 : decode cX9_divide 726 = .ok (.iload 8, 2) := by decide +kernel
theorem dX9_divide_728 : decode cX9_divide 728 = .ok (.isub, 1) := by decide +kernel
theorem dX9_divide_729 : decode cX9_divide 729 = .ok (.ishl, 1) := by decide +kernel
theorem dX9_divide_730 : decode cX9_divide 730 = .ok (.ior, 1) := by decide +kernel
theorem dX9_divide_731 : decode cX9_divide 731 = .ok (.ldc 93, 2) := by decide +kernel
theorem dX9_divide_733 : decode cX9_divide 733 = .ok (.iand, 1) := by decide +kernel
theorem dX9_divide_734 : decode cX9_divide 734 = .ok (.iastore, 1) := by decide +kernel
theorem dX9_divide_735 : decode cX9_divide 735 = .ok (.iinc 9 1, 3) := by decide +kernel
theorem dX9_divide_738 : decode cX9_divide 738 = .ok (.goto (-52), 3) := by decide +kernel
theorem dX9_divide_741 : decode cX9_divide 741 = .ok (.aload_n 0, 1) := by decide +kernel
theorem dX9_divide_742 : decode cX9_divide 742 = .ok (.getfield 17, 3) := by decide +kernel
theorem dX9_divide_745 : decode cX9_divide 745 = .ok (.iload_n 3, 1) := by decide +kernel
theorem dX9_divide_746 : decode cX9_divide 746 = .ok (.iload 7, 2) := by decide +kernel
theorem dX9_divide_748 : decode cX9_divide 748 = .ok (.iastore, 1) := by decide +kernel
theorem dX9_divide_749 : decode cX9_divide 749 = .ok (.aload_n 0, 1) := by decide +kernel
theorem dX9_divide_750 : decode cX9_divide 750 = .ok (.iload_n 3, 1) := by decide +kernel
theorem dX9_divide_751 : decode cX9_divide 751 = .ok (.iload 5, 2) := by decide +kernel
theorem dX9_divide_753 : decode cX9_divide 753 = .ok (.iload 6, 2) := by decide +kernel
theorem dX9_divide_755 : decode cX9_divide 755 = .ok (.isub, 1) := by decide +kernel
theorem dX9_divide_756 : decode cX9_divide 756 = .ok (.iconst 1, 1) := by decide +kernel
theorem dX9_divide_757 : decode cX9_divide 757 = .ok (.iadd, 1) := by decide +kernel
theorem dX9_divide_758 : decode cX9_divide 758 = .ok (.invokevirtual 94, 3) := by decide +kernel
theorem dX9_divide_761 : decode cX9_divide 761 = .ok (.aload_n 0, 1) := by decide +kernel
theorem dX9_divide_762 : decode cX9_divide 762 = .ok (.getfield 17, 3) := by decide +kernel
theorem dX9_divide_765 : decode cX9_divide 765 = .ok (.iload 4, 2) := by decide +kernel
theorem dX9_divide_767 : decode cX9_divide 767 = .ok (.iconst 1, 1) := by decide +kernel
theorem dX9_divide_768 : decode cX9_divide 768 = .ok (.iastore, 1) := by decide +kernel
theorem dX9_divide_769 : decode cX9_divide 769 = .ok (.aload_n 0, 1) := by decide +kernel
theorem dX9_divide_770 : decode cX9_divide 770 = .ok (.iload 4, 2) := by decide +kernel
theorem dX9_divide_772 : decode cX9_divide 772 = .ok (.iload 6, 2) := by decide +kernel
theorem dX9_divide_774 : decode cX9_divide 774 = .ok (.invokevirtual 94, 3) := by decide +kernel
theorem dX9_divide_777 : decode cX9_divide 777 = .ok (.return_, 1) := by decide +kernel
theorem dX9_cross_0 : decode cX9_cross 0 = .ok (.aload_n 0, 1) := by decide +kernel
theorem dX9_cross_1 : decode cX9_cross 1 = .ok (.iload_n 1, 1) := by decide +kernel
theorem dX9_cross_2 : decode cX9_cross 2 = .ok (.iload_n 2, 1) := by decide +kernel
theorem dX9_cross_3 : decode cX9_cross 3 = .ok (.iconst 0, 1) := by decide +kernel
theorem dX9_cross_4 : decode cX9_cross 4 = .ok (.invokevirtual 104, 3) := by decide +kernel
theorem dX9_cross_7 : decode cX9_cross 7 = .ok (.aload_n 0, 1) := by decide +kernel
theorem dX9_cross_8 : decode cX9_cross 8 = .ok (.iload_n 3, 1) := by decide +kernel
theorem dX9_cross_9 : decode cX9_cross 9 = .ok (.iload 4, 2) := by decide +kernel
theorem dX9_cross_11 : decode cX9_cross 11 = .ok (.iconst 1, 1) := by decide +kernel
theorem dX9_cross_12 : decode cX9_cross 12 = .ok (.invokevirtual 104, 3) := by decide +kernel
theorem dX9_cross_15 : decode cX9_cross 15 = .ok (.aload_n 0, 1) := by decide +kernel
theorem dX9_cross_16 : decode cX9_cross 16 = .ok (.iconst 0, 1) := by decide +kernel
theorem dX9_cross_17 : decode cX9_cross 17 = .ok (.iconst 1, 1) := by decide +kernel
theorem dX9_cross_18 : decode cX9_cross 18 = .ok (.iconst 1, 1) := by decide +kernel
theorem dX9_cross_19 : decode cX9_cross 19 = .ok (.iconst 2, 1) := by decide +kernel
theorem dX9_cross_20 : decode cX9_cross 20 = .ok (.invokevirtual 108, 3) := by decide +kernel
theorem dX9_cross_23 : decode cX9_cross 23 = .ok (.aload_n 0, 1) := by decide +kernel
theorem dX9_cross_24 : decode cX9_cross 24 = .ok (.getfield 17, 3) := by decide +kernel
theorem dX9_cross_27 : decode cX9_cross 27 = .ok (.iconst 2, 1) := by decide +kernel
theorem dX9_cross_28 : decode cX9_cross 28 = .ok (.iaload, 1) := by decide +kernel
theorem dX9_cross_29 : decode cX9_cross 29 = .ok (.ifCond .ne 13, 3) := by decide +kernel
theorem dX9_cross_32 : decode cX9_cross 32 = .ok (.aload_n 0, 1) := by decide +kernel
theorem dX9_cross_33 : decode cX9_cross 33 = .ok (.iload 6, 2) := by decide +kernel
theorem dX9_cross_35 : decode cX9_cross 35 = .ok (.lconst 0, 1) := by decide +kernel
theorem dX9_cross_36 : decode cX9_cross 36 = .ok (.invokevirtual 80, 3) := by decide +kernel
theorem dX9_cross_39 : decode cX9_cross 39 = .ok (.goto 19, 3) := by decide +kernel
theorem dX9_cross_42 : decode cX9_cross 42 = .ok (.aload_n 0, 1) := by decide +kernel
theorem dX9_cross_43 : decode cX9_cross 43 = .ok (.iconst 2, 1) := by decide +kernel
theorem dX9_cross_44 : decode cX9_cross 44 = .ok (.iload 5, 2) := by decide +kernel
theorem dX9_cross_46 : decode cX9_cross 46 = .ok (.iconst 3, 1) := by decide +kernel
theorem dX9_cross_47 : decode cX9_cross 47 = .ok (.iconst 4, 1) := by decide +kernel
theorem dX9_cross_48 : decode cX9_cross 48 = .ok (.invokevirtual 112, 3) := by decide +kernel
theorem dX9_cross_51 : decode cX9_cross 51 = .ok (.aload_n 0, 1) := by decide +kernel
theorem dX9_cross_52 : decode cX9_cross 52 = .ok (.iconst 3, 1) := by decide +kernel
theorem dX9_cross_53 : decode cX9_cross 53 = .ok (.iload 6, 2) := by decide +kernel
theorem dX9_cross_55 : decode cX9_cross 55 = .ok (.invokevirtual 98, 3) := by decide +kernel
theorem dX9_cross_58 : decode cX9_cross 58 = .ok (.return_, 1) := by decide +kernel
theorem dX9_toHand_0 : decode cX9_toHand 0 = .ok (.aload_n 0, 1) := by decide +kernel
theorem dX9_toHand_1 : decode cX9_toHand 1 = .ok (.getfield 17, 3) := by decide +kernel
theorem dX9_toHand_4 : decode cX9_toHand 4 = .ok (.iload_n 1, 1) := by decide +kernel
theorem dX9_toHand_5 : decode cX9_toHand 5 = .ok (.iaload, 1) := by decide +kernel
theorem dX9_toHand_6 : decode cX9_toHand 6 = .ok (.ifCond .ne 19, 3) := by decide +kernel
theorem dX9_toHand_9 : decode cX9_toHand 9 = .ok (.aload_n 0, 1) := by decide +kernel
theorem dX9_toHand_10 : decode cX9_toHand 10 = .ok (.bipush 16, 2) := by decide +kernel
theorem dX9_toHand_12 : decode cX9_toHand 12 = .ok (.lconst 0, 1) := by decide +kernel
theorem dX9_toHand_13 : decode cX9_toHand 13 = .ok (.invokevirtual 80, 3) := by decide +kernel
theorem dX9_toHand_16 : decode cX9_toHand 16 = .ok (.aload_n 0, 1) := by decide +kernel
theorem dX9_toHand_17 : decode cX9_toHand 17 = .ok (.bipush 17, 2) := by decide +kernel
theorem dX9_toHand_19 : decode cX9_toHand 19 = .ok (.lconst 1, 1) := by decide +kernel
theorem dX9_toHand_20 : decode cX9_toHand 20 = .ok (.invokevirtual 80, 3) := by decide +kernel
theorem dX9_toHand_23 : decode cX9_toHand 23 = .ok (.iconst 0, 1) := by decide +kernel
theorem dX9_toHand_24 : decode cX9_toHand 24 = .ok (.ireturn, 1) := by decide +kernel
theorem dX9_toHand_25 : decode cX9_toHand 25 = .ok (.aload_n 0, 1) := by decide +kernel
theorem dX9_toHand_26 : decode cX9_toHand 26 = .ok (.iload_n 1, 1) := by decide +kernel
theorem dX9_toHand_27 : decode cX9_toHand 27 = .ok (.iconst 5, 1) := by decide +kernel
theorem dX9_toHand_28 : decode cX9_toHand 28 = .ok (.invokevirtual 98, 3) := by decide +kernel
theorem dX9_toHand_31 : decode cX9_toHand 31 = .ok (.aload_n 0, 1) := by decide +kernel
theorem dX9_toHand_32 : decode cX9_toHand 32 = .ok (.iload_n 2, 1) := by decide +kernel
theorem dX9_toHand_33 : decode cX9_toHand 33 = .ok (.bipush 6, 2) := by decide +kernel
theorem dX9_toHand_35 : decode cX9_toHand 35 = .ok (.invokevirtual 98, 3) := by decide +kernel
theorem dX9_toHand_38 : decode cX9_toHand 38 = .ok (.aload_n 0, 1) := by decide +kernel
theorem dX9_toHand_39 : decode cX9_toHand 39 = .ok (.getfield 17, 3) := by decide +kernel
theorem dX9_toHand_42 : decode cX9_toHand 42 = .ok (.bipush 6, 2) := by decide +kernel
theorem dX9_toHand_44 : decode cX9_toHand 44 = .ok (.iaload, 1) := by decide +kernel
theorem dX9_toHand_45 : decode cX9_toHand 45 = .ok (.ifCond .eq 32, 3) := by decide +kernel
theorem dX9_toHand_48 : decode cX9_toHand 48 = .ok (.aload_n 0, 1) := by decide +kernel
theorem dX9_toHand_49 : decode cX9_toHand 49 = .ok (.iconst 5, 1) := by decide +kernel
theorem dX9_toHand_50 : decode cX9_toHand 50 = .ok (.bipush 6, 2) := by decide +kernel
theorem dX9_toHand_52 : decode cX9_toHand 52 = .ok (.bipush 7, 2) := by decide +kernel
theorem dX9_toHand_54 : decode cX9_toHand 54 = .ok (.bipush 8, 2) := by decide +kernel
theorem dX9_toHand_56 : decode cX9_toHand 56 = .ok (.invokevirtual 112, 3) := by decide +kernel
theorem dX9_toHand_59 : decode cX9_toHand 59 = .ok (.aload_n 0, 1) := by decide +kernel
theorem dX9_toHand_60 : decode cX9_toHand 60 = .ok (.bipush 6, 2) := by decide +kernel
theorem dX9_toHand_62 : decode cX9_toHand 62 = .ok (.iconst 5, 1) := by decide +kernel
theorem dX9_toHand_63 : decode cX9_toHand 63 = .ok (.invokevirtual 98, 3) := by decide +kernel
theorem dX9_toHand_66 : decode cX9_toHand 66 = .ok (.aload_n 0, 1) := by decide +kernel
theorem dX9_toHand_67 : decode cX9_toHand 67 = .ok (.bipush 8, 2) := by decide +kernel
theorem dX9_toHand_69 : decode cX9_toHand 69 = .ok (.bipush 6, 2) := by decide +kernel
theorem dX9_toHand_71 : decode cX9_toHand 71 = .ok (.invokevirtual 98, 3) := by decide +kernel
theorem dX9_toHand_74 : decode cX9_toHand 74 = .ok (.goto (-36), 3) := by decide +kernel
theorem dX9_toHand_77 : decode cX9_toHand 77 = .ok (.aload_n 0, 1) := by decide +kernel
theorem dX9_toHand_78 : decode cX9_toHand 78 = .ok (.getfield 17, 3) := by decide +kernel
theorem dX9_toHand_81 : decode cX9_toHand 81 = .ok (.iload_n 1, 1) := by decide +kernel
theorem dX9_toHand_82 : decode cX9_toHand 82 = .ok (.iaload, 1) := by decide +kernel
theorem dX9_toHand_83 : decode cX9_toHand 83 = .ok (.aload_n 0, 1) := by decide +kernel
theorem dX9_toHand_84 : decode cX9_toHand 84 = .ok (.getfield 17, 3) := by decide +kernel
theorem dX9_toHand_87 : decode cX9_toHand 87 = .ok (.iload_n 2, 1) := by decide +kernel
theorem dX9_toHand_88 : decode cX9_toHand 88 = .ok (.iaload, 1) := by decide +kernel
theorem dX9_toHand_89 : decode cX9_toHand 89 = .ok (.imul, 1) := by decide +kernel
theorem dX9_toHand_90 : decode cX9_toHand 90 = .ok (.istore_n 3, 1) := by decide +kernel
theorem dX9_toHand_91 : decode cX9_toHand 91 = .ok (.aload_n 0, 1) := by decide +kernel
theorem dX9_toHand_92 : decode cX9_toHand 92 = .ok (.iload_n 1, 1) := by decide +kernel
theorem dX9_toHand_93 : decode cX9_toHand 93 = .ok (.iconst 5, 1) := by decide +kernel
theorem dX9_toHand_94 : decode cX9_toHand 94 = .ok (.bipush 7, 2) := by decide +kernel
theorem dX9_toHand_96 : decode cX9_toHand 96 = .ok (.bipush 8, 2) := by decide +kernel
theorem dX9_toHand_98 : decode cX9_toHand 98 = .ok (.invokevirtual 112, 3) := by decide +kernel
theorem dX9_toHand_101 : decode cX9_toHand 101 = .ok (.aload_n 0, 1) := by decide +kernel
theorem dX9_toHand_102 : decode cX9_toHand 102 = .ok (.iload_n 2, 1) := by decide +kernel
theorem dX9_toHand_103 : decode cX9_toHand 103 = .ok (.iconst 5, 1) := by decide +kernel
theorem dX9_toHand_104 : decode cX9_toHand 104 = .ok (.bipush 9, 2) := by decide +kernel
theorem dX9_toHand_106 : decode cX9_toHand 106 = .ok (.bipush 8, 2) := by decide +kernel
theorem dX9_toHand_108 : decode cX9_toHand 108 = .ok (.invokevirtual 112, 3) := by decide +kernel
theorem dX9_toHand_111 : decode cX9_toHand 111 = .ok (.aload_n 0, 1) := by decide +kernel
theorem dX9_toHand_112 : decode cX9_toHand 112 = .ok (.bipush 7, 2) := by decide +kernel
theorem dX9_toHand_114 : decode cX9_toHand 114 = .ok (.bipush 16, 2) := by decide +kernel
theorem dX9_toHand_116 : decode cX9_toHand 116 = .ok (.invokevirtual 98, 3) := by decide +kernel
theorem dX9_toHand_119 : decode cX9_toHand 119 = .ok (.aload_n 0, 1) := by decide +kernel
theorem dX9_toHand_120 : decode cX9_toHand 120 = .ok (.bipush 9, 2) := by decide +kernel
theorem dX9_toHand_122 : decode cX9_toHand 122 = .ok (.bipush 17, 2) := by decide +kernel
theorem dX9_toHand_124 : decode cX9_toHand 124 = .ok (.invokevirtual 98, 3) := by decide +kernel
theorem dX9_toHand_127 : decode cX9_toHand 127 = .ok (.aload_n 0, 1) := by decide +kernel
theorem dX9_toHand_128 : decode cX9_toHand 128 = .ok (.getfield 17, 3) := by decide +kernel
theorem dX9_toHand_131 : decode cX9_toHand 131 = .ok (.bipush 16, 2) := by decide +kernel
theorem dX9_toHand_133 : decode cX9_toHand 133 = .ok (.iload_n 3, 1) := by decide +kernel
theorem dX9_toHand_134 : decode cX9_toHand 134 = .ok (.iastore, 1) := by decide +kernel
theorem dX9_toHand_135 : decode cX9_toHand 135 = .ok (.aload_n 0, 1) := by decide +kernel
theorem dX9_toHand_136 : decode cX9_toHand 136 = .ok (.getfield 17, 3) := by decide +kernel
theorem dX9_toHand_139 : decode cX9_toHand 139 = .ok (.bipush 17, 2) := by decide +kernel
theorem dX9_toHand_141 : decode cX9_toHand 141 = .ok (.iconst 1, 1) := by decide +kernel
theorem dX9_toHand_142 : decode cX9_toHand 142 = .ok (.iastore, 1) := by decide +kernel
theorem dX9_toHand_143 : decode cX9_toHand 143 = .ok (.iload_n 3, 1) := by decide +kernel
theorem dX9_toHand_144 : decode cX9_toHand 144 = .ok (.ireturn, 1) := by decide +kernel
theorem dX9_in_0 : decode cX9_in 0 = .ok (.iload_n 0, 1) := by decide +kernel
theorem dX9_in_1 : decode cX9_in 1 = .ok (.iload_n 1, 1) := by decide +kernel
theorem dX9_in_2 : decode cX9_in 2 = .ok (.if_icmp .lt 12, 3) := by decide +kernel
theorem dX9_in_5 : decode cX9_in 5 = .ok (.iload_n 0, 1) := by decide +kernel
theorem dX9_in_6 : decode cX9_in 6 = .ok (.iload_n 2, 1) := by decide +kernel
theorem dX9_in_7 : decode cX9_in 7 = .ok (.if_icmp .gt 7, 3) := by decide +kernel
theorem dX9_in_10 : decode cX9_in 10 = .ok (.iconst 1, 1) := by decide +kernel
theorem dX9_in_11 : decode cX9_in 11 = .ok (.goto 4, 3) := by decide +kernel
theorem dX9_in_14 : decode cX9_in 14 = .ok (.iconst 0, 1) := by decide +kernel
theorem dX9_in_15 : decode cX9_in 15 = .ok (.ireturn, 1) := by decide +kernel
theorem dX9_common_0 : decode cX9_common 0 = .ok (.lload_n 0, 1) := by decide +kernel
theorem dX9_common_1 : decode cX9_common 1 = .ok (.lstore 4, 2) := by decide +kernel
theorem dX9_common_3 : decode cX9_common 3 = .ok (.lload_n 2, 1) := by decide +kernel
theorem dX9_common_4 : decode cX9_common 4 = .ok (.lstore 6, 2) := by decide +kernel
theorem dX9_common_6 : decode cX9_common 6 = .ok (.lload 6, 2) := by decide +kernel
theorem dX9_common_8 : decode cX9_common 8 = .ok (.lconst 0, 1) := by decide +kernel
theorem dX9_common_9 : decode cX9_common 9 = .ok (.lcmp, 1) := by decide +kernel
theorem dX9_common_10 : decode cX9_common 10 = .ok (.ifCond .eq 21, 3) := by decide +kernel
theorem dX9_common_13 : decode cX9_common 13 = .ok (.lload 4, 2) := by decide +kernel
theorem dX9_common_15 : decode cX9_common 15 = .ok (.lload 6, 2) := by decide +kernel
theorem dX9_common_17 : decode cX9_common 17 = .ok (.lrem, 1) := by decide +kernel
theorem dX9_common_18 : decode cX9_common 18 = .ok (.lstore 8, 2) := by decide +kernel
theorem dX9_common_20 : decode cX9_common 20 = .ok (.lload 6, 2) := by decide +kernel
theorem dX9_common_22 : decode cX9_common 22 = .ok (.lstore 4, 2) := by decide +kernel
theorem dX9_common_24 : decode cX9_common 24 = .ok (.lload 8, 2) := by decide +kernel
theorem dX9_common_26 : decode cX9_common 26 = .ok (.lstore 6, 2) := by decide +kernel
theorem dX9_common_28 : decode cX9_common 28 = .ok (.goto (-22), 3) := by decide +kernel
theorem dX9_common_31 : decode cX9_common 31 = .ok (.lload 4, 2) := by decide +kernel
theorem dX9_common_33 : decode cX9_common 33 = .ok (.lconst 0, 1) := by decide +kernel
theorem dX9_common_34 : decode cX9_common 34 = .ok (.lcmp, 1) := by decide +kernel
theorem dX9_common_35 : decode cX9_common 35 = .ok (.ifCond .ge 9, 3) := by decide +kernel
theorem dX9_common_38 : decode cX9_common 38 = .ok (.lload 4, 2) := by decide +kernel
theorem dX9_common_40 : decode cX9_common 40 = .ok (.lneg, 1) := by decide +kernel
theorem dX9_common_41 : decode cX9_common 41 = .ok (.goto 5, 3) := by decide +kernel
theorem dX9_common_44 : decode cX9_common 44 = .ok (.lload 4, 2) := by decide +kernel
theorem dX9_common_46 : decode cX9_common 46 = .ok (.lreturn, 1) := by decide +kernel
theorem dX9_game_0 : decode cX9_game 0 = .ok (.aload_n 0, 1) := by decide +kernel
theorem dX9_game_1 : decode cX9_game 1 = .ok (.iload_n 1, 1) := by decide +kernel
theorem dX9_game_2 : decode cX9_game 2 = .ok (.iconst 1, 1) := by decide +kernel
theorem dX9_game_3 : decode cX9_game 3 = .ok (.bipush 6, 2) := by decide +kernel
theorem dX9_game_5 : decode cX9_game 5 = .ok (.invokestatic 116, 3) := by decide +kernel
theorem dX9_game_8 : decode cX9_game 8 = .ok (.ifCond .eq 17, 3) := by decide +kernel
theorem dX9_game_11 : decode cX9_game 11 = .ok (.iload_n 2, 1) := by decide +kernel
theorem dX9_game_12 : decode cX9_game 12 = .ok (.iconst 1, 1) := by decide +kernel
theorem dX9_game_13 : decode cX9_game 13 = .ok (.bipush 6, 2) := by decide +kernel
theorem dX9_game_15 : decode cX9_game 15 = .ok (.invokestatic 116, 3) := by decide +kernel
theorem dX9_game_18 : decode cX9_game 18 = .ok (.ifCond .eq 7, 3) := by decide +kernel
theorem dX9_game_21 : decode cX9_game 21 = .ok (.iconst 0, 1) := by decide +kernel
theorem dX9_game_22 : decode cX9_game 22 = .ok (.goto 4, 3) := by decide +kernel
theorem dX9_game_25 : decode cX9_game 25 = .ok (.iconst 1, 1) := by decide +kernel
theorem dX9_game_26 : decode cX9_game 26 = .ok (.putfield 84, 3) := by decide +kernel
theorem dX9_game_29 : decode cX9_game 29 = .ok (.aload_n 0, 1) := by decide +kernel
theorem dX9_game_30 : decode cX9_game 30 = .ok (.getfield 84, 3) := by decide +kernel
theorem dX9_game_33 : decode cX9_game 33 = .ok (.ifCond .le 4, 3) := by decide +kernel
theorem dX9_game_36 : decode cX9_game 36 = .ok (.return_, 1) := by decide +kernel
theorem dX9_game_37 : decode cX9_game 37 = .ok (.aload_n 0, 1) := by decide +kernel
theorem dX9_game_38 : decode cX9_game 38 = .ok (.iload_n 1, 1) := by decide +kernel
theorem dX9_game_39 : decode cX9_game 39 = .ok (.putfield 120, 3) := by decide +kernel
theorem dX9_game_42 : decode cX9_game 42 = .ok (.aload_n 0, 1) := by decide +kernel
theorem dX9_game_43 : decode cX9_game 43 = .ok (.iload_n 2, 1) := by decide +kernel
theorem dX9_game_44 : decode cX9_game 44 = .ok (.putfield 123, 3) := by decide +kernel
theorem dX9_game_47 : decode cX9_game 47 = .ok (.iconst 0, 1) := by decide +kernel
theorem dX9_game_48 : decode cX9_game 48 = .ok (.istore_n 3, 1) := by decide +kernel
theorem dX9_game_49 : decode cX9_game 49 = .ok (.iload_n 3, 1) := by decide +kernel
theorem dX9_game_50 : decode cX9_game 50 = .ok (.bipush 72, 2) := by decide +kernel
theorem dX9_game_52 : decode cX9_game 52 = .ok (.if_icmp .ge 23, 3) := by decide +kernel
theorem dX9_game_55 : decode cX9_game 55 = .ok (.aload_n 0, 1) := by decide +kernel
theorem dX9_game_56 : decode cX9_game 56 = .ok (.getfield 20, 3) := by decide +kernel
theorem dX9_game_59 : decode cX9_game 59 = .ok (.iload_n 3, 1) := by decide +kernel
theorem dX9_game_60 : decode cX9_game 60 = .ok (.iconst 0, 1) := by decide +kernel
theorem dX9_game_61 : decode cX9_game 61 = .ok (.iastore, 1) := by decide +kernel
theorem dX9_game_62 : decode cX9_game 62 = .ok (.aload_n 0, 1) := by decide +kernel
theorem dX9_game_63 : decode cX9_game 63 = .ok (.getfield 23, 3) := by decide +kernel
theorem dX9_game_66 : decode cX9_game 66 = .ok (.iload_n 3, 1) := by decide +kernel
theorem dX9_game_67 : decode cX9_game 67 = .ok (.iconst 1, 1) := by decide +kernel
theorem dX9_game_68 : decode cX9_game 68 = .ok (.iastore, 1) := by decide +kernel
theorem dX9_game_69 : decode cX9_game 69 = .ok (.iinc 3 1, 3) := by decide +kernel
theorem dX9_game_72 : decode cX9_game 72 = .ok (.goto (-23), 3) := by decide +kernel
theorem dX9_game_75 : decode cX9_game 75 = .ok (.iconst 0, 1) := by decide +kernel
theorem dX9_game_76 : decode cX9_game 76 = .ok (.istore_n 3, 1) := by decide +kernel
theorem dX9_game_77 : decode cX9_game 77 = .ok (.iload_n 3, 1) := by decide +kernel
theorem dX9_game_78 : decode cX9_game 78 = .ok (.bipush 12, 2) := by decide +kernel
theorem dX9_game_80 : decode cX9_game 80 = .ok (.if_icmp .ge 23, 3) := by decide +kernel
theorem dX9_game_83 : decode cX9_game 83 = .ok (.aload_n 0, 1) := by decide +kernel
theorem dX9_game_84 : decode cX9_game 84 = .ok (.getfield 26, 3) := by decide +kernel
theorem dX9_game_87 : decode cX9_game 87 = .ok (.iload_n 3, 1) := by decide +kernel
theorem dX9_game_88 : decode cX9_game 88 = .ok (.iconst 0, 1) := by decide +kernel
theorem dX9_game_89 : decode cX9_game 89 = .ok (.iastore, 1) := by decide +kernel
theorem dX9_game_90 : decode cX9_game 90 = .ok (.aload_n 0, 1) := by decide +kernel
theorem dX9_game_91 : decode cX9_game 91 = .ok (.getfield 29, 3) := by decide +kernel
theorem dX9_game_94 : decode cX9_game 94 = .ok (.iload_n 3, 1) := by decide +kernel
theorem dX9_game_95 : decode cX9_game 95 = .ok (.iconst 1, 1) := by decide +kernel
theorem dX9_game_96 : decode cX9_game 96 = .ok (.iastore, 1) := by decide +kernel
theorem dX9_game_97 : decode cX9_game 97 = .ok (.iinc 3 1, 3) := by decide +kernel
theorem dX9_game_100 : decode cX9_game 100 = .ok (.goto (-23), 3) := by decide +kernel
theorem dX9_game_103 : decode cX9_game 103 = .ok (.aload_n 0, 1) := by decide +kernel
theorem dX9_game_104 : decode cX9_game 104 = .ok (.invokevirtual 126, 3) := by decide +kernel
theorem dX9_game_107 : decode cX9_game 107 = .ok (.return_, 1) := by decide +kernel
theorem dX9_changed_0 : decode cX9_changed 0 = .ok (.aload_n 0, 1) := by decide +kernel
theorem dX9_changed_1 : decode cX9_changed 1 = .ok (.iconst (-1), 1) := by decide +kernel
theorem dX9_changed_2 : decode cX9_changed 2 = .ok (.putfield 32, 3) := by decide +kernel
theorem dX9_changed_5 : decode cX9_changed 5 = .ok (.aload_n 0, 1) := by decide +kernel
theorem dX9_changed_6 : decode cX9_changed 6 = .ok (.iconst 0, 1) := by decide +kernel
theorem dX9_changed_7 : decode cX9_changed 7 = .ok (.putfield 129, 3) := by decide +kernel
theorem dX9_changed_10 : decode cX9_changed 10 = .ok (.aload_n 0, 1) := by decide +kernel
theorem dX9_changed_11 : decode cX9_changed 11 = .ok (.iconst 0, 1) := by decide +kernel
theorem dX9_changed_12 : decode cX9_changed 12 = .ok (.putfield 132, 3) := by decide +kernel
theorem dX9_changed_15 : decode cX9_changed 15 = .ok (.aload_n 0, 1) := by decide +kernel
theorem dX9_changed_16 : decode cX9_changed 16 = .ok (.iconst 0, 1) := by decide +kernel
theorem dX9_changed_17 : decode cX9_changed 17 = .ok (.putfield 136, 3) := by decide +kernel
theorem dX9_changed_20 : decode cX9_changed 20 = .ok (.iconst 0, 1) := by decide +kernel
theorem dX9_changed_21 : decode cX9_changed 21 = .ok (.istore_n 1, 1) := by decide +kernel
