theorem dX9_run_133 : decode cX9_run 133 = .ok (.if_icmp .eq 7, 3) := by decide +kernel
theorem dX9_run_136 : decode cX9_run 136 = .ok (.iconst 1, 1) := by decide +kernel
theorem dX9_run_137 : decode cX9_run 137 = .ok (.goto 4, 3) := by decide +kernel
theorem dX9_run_140 : decode cX9_run 140 = .ok (.iconst 0, 1) := by decide +kernel
theorem dX9_run_141 : decode cX9_run 141 = .ok (.istore 4, 2) := by decide +kernel
theorem dX9_run_143 : decode cX9_run 143 = .ok (.iload 5, 2) := by decide +kernel
theorem dX9_run_145 : decode cX9_run 145 = .ok (.istore_n 3, 1) := by decide +kernel
theorem dX9_run_146 : decode cX9_run 146 = .ok (.iconst 1, 1) := by decide +kernel
theorem dX9_run_147 : decode cX9_run 147 = .ok (.iload_n 2, 1) := by decide +kernel
theorem dX9_run_148 : decode cX9_run 148 = .ok (.isub, 1) := by decide +kernel
theorem dX9_run_149 : decode cX9_run 149 = .ok (.istore_n 2, 1) := by decide +kernel
theorem dX9_run_150 : decode cX9_run 150 = .ok (.goto (-74), 3) := by decide +kernel
theorem dX9_run_153 : decode cX9_run 153 = .ok (.aload_n 0, 1) := by decide +kernel
theorem dX9_run_154 : decode cX9_run 154 = .ok (.iload_n 1, 1) := by decide +kernel
theorem dX9_run_155 : decode cX9_run 155 = .ok (.putfield 32, 3) := by decide +kernel
theorem dX9_run_158 : decode cX9_run 158 = .ok (.iconst 0, 1) := by decide +kernel
theorem dX9_run_159 : decode cX9_run 159 = .ok (.istore 5, 2) := by decide +kernel
theorem dX9_run_161 : decode cX9_run 161 = .ok (.iload 5, 2) := by decide +kernel
theorem dX9_run_163 : decode cX9_run 163 = .ok (.bipush 12, 2) := by decide +kernel
theorem dX9_run_165 : decode cX9_run 165 = .ok (.if_icmp .ge 20, 3) := by decide +kernel
theorem dX9_run_168 : decode cX9_run 168 = .ok (.aload_n 0, 1) := by decide +kernel
theorem dX9_run_169 : decode cX9_run 169 = .ok (.sipush 300, 3) := by decide +kernel
theorem dX9_run_172 : decode cX9_run 172 = .ok (.iload 5, 2) := by decide +kernel
theorem dX9_run_174 : decode cX9_run 174 = .ok (.iadd, 1) := by decide +kernel
theorem dX9_run_175 : decode cX9_run 175 = .ok (.lconst 0, 1) := by decide +kernel
theorem dX9_run_176 : decode cX9_run 176 = .ok (.invokevirtual 80, 3) := by decide +kernel
theorem dX9_run_179 : decode cX9_run 179 = .ok (.iinc 5 1, 3) := by decide +kernel
theorem dX9_run_182 : decode cX9_run 182 = .ok (.goto (-21), 3) := by decide +kernel
theorem dX9_run_185 : decode cX9_run 185 = .ok (.iconst 0, 1) := by decide +kernel
theorem dX9_run_186 : decode cX9_run 186 = .ok (.istore 5, 2) := by decide +kernel
theorem dX9_run_188 : decode cX9_run 188 = .ok (.iload 5, 2) := by decide +kernel
theorem dX9_run_190 : decode cX9_run 190 = .ok (.iconst 2, 1) := by decide +kernel
theorem dX9_run_191 : decode cX9_run 191 = .ok (.if_icmp .ge 180, 3) := by decide +kernel
theorem dX9_run_194 : decode cX9_run 194 = .ok (.aload_n 0, 1) := by decide +kernel
theorem dX9_run_195 : decode cX9_run 195 = .ok (.sipush 312, 3) := by decide +kernel
theorem dX9_run_198 : decode cX9_run 198 = .ok (.iload 5, 2) := by decide +kernel
theorem dX9_run_200 : decode cX9_run 200 = .ok (.iadd, 1) := by decide +kernel
theorem dX9_run_201 : decode cX9_run 201 = .ok (.lconst 0, 1) := by decide +kernel
theorem dX9_run_202 : decode cX9_run 202 = .ok (.invokevirtual 80, 3) := by decide +kernel
theorem dX9_run_205 : decode cX9_run 205 = .ok (.iconst 0, 1) := by decide +kernel
theorem dX9_run_206 : decode cX9_run 206 = .ok (.istore 6, 2) := by decide +kernel
theorem dX9_run_208 : decode cX9_run 208 = .ok (.iload 6, 2) := by decide +kernel
theorem dX9_run_210 : decode cX9_run 210 = .ok (.aload_n 0, 1) := by decide +kernel
theorem dX9_run_211 : decode cX9_run 211 = .ok (.iload 5, 2) := by decide +kernel
theorem dX9_run_213 : decode cX9_run 213 = .ok (.invokevirtual 147, 3) := by decide +kernel
theorem dX9_run_216 : decode cX9_run 216 = .ok (.if_icmp .ge 149, 3) := by decide +kernel
theorem dX9_run_219 : decode cX9_run 219 = .ok (.aload_n 0, 1) := by decide +kernel
theorem dX9_run_220 : decode cX9_run 220 = .ok (.getfield 48, 3) := by decide +kernel
theorem dX9_run_223 : decode cX9_run 223 = .ok (.bipush 6, 2) := by decide +kernel
theorem dX9_run_225 : decode cX9_run 225 = .ok (.iload 5, 2) := by decide +kernel
theorem dX9_run_227 : decode cX9_run 227 = .ok (.imul, 1) := by decide +kernel
theorem dX9_run_228 : decode cX9_run 228 = .ok (.iload 6, 2) := by decide +kernel
theorem dX9_run_230 : decode cX9_run 230 = .ok (.iadd, 1) := by decide +kernel
theorem dX9_run_231 : decode cX9_run 231 = .ok (.iaload, 1) := by decide +kernel
theorem dX9_run_232 : decode cX9_run 232 = .ok (.istore 7, 2) := by decide +kernel
theorem dX9_run_234 : decode cX9_run 234 = .ok (.iload 5, 2) := by decide +kernel
theorem dX9_run_236 : decode cX9_run 236 = .ok (.ifCond .ne 20, 3) := by decide +kernel
theorem dX9_run_239 : decode cX9_run 239 = .ok (.iload 7, 2) := by decide +kernel
theorem dX9_run_241 : decode cX9_run 241 = .ok (.aload_n 0, 1) := by decide +kernel
theorem dX9_run_242 : decode cX9_run 242 = .ok (.getfield 120, 3) := by decide +kernel
theorem dX9_run_245 : decode cX9_run 245 = .ok (.if_icmp .ge 7, 3) := by decide +kernel
theorem dX9_run_248 : decode cX9_run 248 = .ok (.iconst 1, 1) := by decide +kernel
theorem dX9_run_249 : decode cX9_run 249 = .ok (.goto 21, 3) := by decide +kernel
theorem dX9_run_252 : decode cX9_run 252 = .ok (.iconst 0, 1) := by decide +kernel
theorem dX9_run_253 : decode cX9_run 253 = .ok (.goto 17, 3) := by decide +kernel
theorem dX9_run_256 : decode cX9_run 256 = .ok (.iload 7, 2) := by decide +kernel
theorem dX9_run_258 : decode cX9_run 258 = .ok (.aload_n 0, 1) := by decide +kernel
theorem dX9_run_259 : decode cX9_run 259 = .ok (.getfield 120, 3) := by decide +kernel
theorem dX9_run_262 : decode cX9_run 262 = .ok (.if_icmp .lt 7, 3) := by decide +kernel
theorem dX9_run_265 : decode cX9_run 265 = .ok (.iconst 1, 1) := by decide +kernel
theorem dX9_run_266 : decode cX9_run 266 = .ok (.goto 4, 3) := by decide +kernel
theorem dX9_run_269 : decode cX9_run 269 = .ok (.iconst 0, 1) := by decide +kernel
theorem dX9_run_270 : decode cX9_run 270 = .ok (.istore 8, 2) := by decide +kernel
theorem dX9_run_272 : decode cX9_run 272 = .ok (.iload 8, 2) := by decide +kernel
theorem dX9_run_274 : decode cX9_run 274 = .ok (.ifCond .eq 85, 3) := by decide +kernel
theorem dX9_run_277 : decode cX9_run 277 = .ok (.aload_n 0, 1) := by decide +kernel
theorem dX9_run_278 : decode cX9_run 278 = .ok (.aload_n 0, 1) := by decide +kernel
theorem dX9_run_279 : decode cX9_run 279 = .ok (.iload 5, 2) := by decide +kernel
theorem dX9_run_281 : decode cX9_run 281 = .ok (.iload 6, 2) := by decide +kernel
theorem dX9_run_283 : decode cX9_run 283 = .ok (.aload_n 0, 1) := by decide +kernel
theorem dX9_run_284 : decode cX9_run 284 = .ok (.getfield 120, 3) := by decide +kernel
theorem dX9_run_287 : decode cX9_run 287 = .ok (.aload_n 0, 1) := by decide +kernel
theorem dX9_run_288 : decode cX9_run 288 = .ok (.getfield 123, 3) := by decide +kernel
theorem dX9_run_291 : decode cX9_run 291 = .ok (.iadd, 1) := by decide +kernel
theorem dX9_run_292 : decode cX9_run 292 = .ok (.invokevirtual 151, 3) := by decide +kernel
theorem dX9_run_295 : decode cX9_run 295 = .ok (.sipush 300, 3) := by decide +kernel
theorem dX9_run_298 : decode cX9_run 298 = .ok (.bipush 6, 2) := by decide +kernel
theorem dX9_run_300 : decode cX9_run 300 = .ok (.iload 5, 2) := by decide +kernel
theorem dX9_run_302 : decode cX9_run 302 = .ok (.imul, 1) := by decide +kernel
theorem dX9_run_303 : decode cX9_run 303 = .ok (.iadd, 1) := by decide +kernel
theorem dX9_run_304 : decode cX9_run 304 = .ok (.iload 5, 2) := by decide +kernel
theorem dX9_run_306 : decode cX9_run 306 = .ok (.ifCond .ne 8, 3) := by decide +kernel
theorem dX9_run_309 : decode cX9_run 309 = .ok (.iload 7, 2) := by decide +kernel
theorem dX9_run_311 : decode cX9_run 311 = .ok (.goto 10, 3) := by decide +kernel
theorem dX9_run_314 : decode cX9_run 314 = .ok (.iload 7, 2) := by decide +kernel
theorem dX9_run_316 : decode cX9_run 316 = .ok (.aload_n 0, 1) := by decide +kernel
theorem dX9_run_317 : decode cX9_run 317 = .ok (.getfield 120, 3) := by decide +kernel
theorem dX9_run_320 : decode cX9_run 320 = .ok (.isub, 1) := by decide +kernel
theorem dX9_run_321 : decode cX9_run 321 = .ok (.iadd, 1) := by decide +kernel
theorem dX9_run_322 : decode cX9_run 322 = .ok (.invokevirtual 98, 3) := by decide +kernel
theorem dX9_run_325 : decode cX9_run 325 = .ok (.aload_n 0, 1) := by decide +kernel
theorem dX9_run_326 : decode cX9_run 326 = .ok (.sipush 312, 3) := by decide +kernel
theorem dX9_run_329 : decode cX9_run 329 = .ok (.iload 5, 2) := by decide +kernel
theorem dX9_run_331 : decode cX9_run 331 = .ok (.iadd, 1) := by decide +kernel
theorem dX9_run_332 : decode cX9_run 332 = .ok (.aload_n 0, 1) := by decide +kernel
theorem dX9_run_333 : decode cX9_run 333 = .ok (.iload 5, 2) := by decide +kernel
theorem dX9_run_335 : decode cX9_run 335 = .ok (.iload 6, 2) := by decide +kernel
theorem dX9_run_337 : decode cX9_run 337 = .ok (.aload_n 0, 1) := by decide +kernel
theorem dX9_run_338 : decode cX9_run 338 = .ok (.getfield 120, 3) := by decide +kernel
theorem dX9_run_341 : decode cX9_run 341 = .ok (.aload_n 0, 1) := by decide +kernel
theorem dX9_run_342 : decode cX9_run 342 = .ok (.getfield 123, 3) := by decide +kernel
theorem dX9_run_345 : decode cX9_run 345 = .ok (.iadd, 1) := by decide +kernel
theorem dX9_run_346 : decode cX9_run 346 = .ok (.invokevirtual 151, 3) := by decide +kernel
theorem dX9_run_349 : decode cX9_run 349 = .ok (.iconst 0, 1) := by decide +kernel
theorem dX9_run_350 : decode cX9_run 350 = .ok (.sipush 312, 3) := by decide +kernel
theorem dX9_run_353 : decode cX9_run 353 = .ok (.iload 5, 2) := by decide +kernel
theorem dX9_run_355 : decode cX9_run 355 = .ok (.iadd, 1) := by decide +kernel
theorem dX9_run_356 : decode cX9_run 356 = .ok (.invokevirtual 108, 3) := by decide +kernel
theorem dX9_run_359 : decode cX9_run 359 = .ok (.iinc 6 1, 3) := by decide +kernel
theorem dX9_run_362 : decode cX9_run 362 = .ok (.goto (-154), 3) := by decide +kernel
theorem dX9_run_365 : decode cX9_run 365 = .ok (.iinc 5 1, 3) := by decide +kernel
theorem dX9_run_368 : decode cX9_run 368 = .ok (.goto (-180), 3) := by decide +kernel
theorem dX9_run_371 : decode cX9_run 371 = .ok (.aload_n 0, 1) := by decide +kernel
theorem dX9_run_372 : decode cX9_run 372 = .ok (.getfield 129, 3) := by decide +kernel
theorem dX9_run_375 : decode cX9_run 375 = .ok (.ireturn, 1) := by decide +kernel
theorem dX9_step_0 : decode cX9_step 0 = .ok (.aload_n 0, 1) := by decide +kernel
theorem dX9_step_1 : decode cX9_step 1 = .ok (.aload_n 0, 1) := by decide +kernel
theorem dX9_step_2 : decode cX9_step 2 = .ok (.getfield 32, 3) := by decide +kernel
theorem dX9_step_5 : decode cX9_step 5 = .ok (.ifCond .ge 7, 3) := by decide +kernel
theorem dX9_step_8 : decode cX9_step 8 = .ok (.iconst 1, 1) := by decide +kernel
theorem dX9_step_9 : decode cX9_step 9 = .ok (.goto 35, 3) := by decide +kernel
theorem dX9_step_12 : decode cX9_step 12 = .ok (.iload_n 1, 1) := by decide +kernel
theorem dX9_step_13 : decode cX9_step 13 = .ok (.iconst 0, 1) := by decide +kernel
theorem dX9_step_14 : decode cX9_step 14 = .ok (.aload_n 0, 1) := by decide +kernel
theorem dX9_step_15 : decode cX9_step 15 = .ok (.getfield 129, 3) := by decide +kernel
theorem dX9_step_18 : decode cX9_step 18 = .ok (.iconst 1, 1) := by decide +kernel
theorem dX9_step_19 : decode cX9_step 19 = .ok (.isub, 1) := by decide +kernel
theorem dX9_step_20 : decode cX9_step 20 = .ok (.invokestatic 116, 3) := by decide +kernel
theorem dX9_step_23 : decode cX9_step 23 = .ok (.ifCond .ne 7, 3) := by decide +kernel
theorem dX9_step_26 : decode cX9_step 26 = .ok (.iconst 2, 1) := by decide +kernel
theorem dX9_step_27 : decode cX9_step 27 = .ok (.goto 17, 3) := by decide +kernel
theorem dX9_step_30 : decode cX9_step 30 = .ok (.iload_n 2, 1) := by decide +kernel
theorem dX9_step_31 : decode cX9_step 31 = .ok (.iconst 0, 1) := by decide +kernel
theorem dX9_step_32 : decode cX9_step 32 = .ok (.iconst 2, 1) := by decide +kernel
theorem dX9_step_33 : decode cX9_step 33 = .ok (.invokestatic 116, 3) := by decide +kernel
theorem dX9_step_36 : decode cX9_step 36 = .ok (.ifCond .ne 7, 3) := by decide +kernel
theorem dX9_step_39 : decode cX9_step 39 = .ok (.iconst 3, 1) := by decide +kernel
theorem dX9_step_40 : decode cX9_step 40 = .ok (.goto 4, 3) := by decide +kernel
theorem dX9_step_43 : decode cX9_step 43 = .ok (.iconst 0, 1) := by decide +kernel
theorem dX9_step_44 : decode cX9_step 44 = .ok (.putfield 84, 3) := by decide +kernel
theorem dX9_step_47 : decode cX9_step 47 = .ok (.aload_n 0, 1) := by decide +kernel
theorem dX9_step_48 : decode cX9_step 48 = .ok (.getfield 84, 3) := by decide +kernel
theorem dX9_step_51 : decode cX9_step 51 = .ok (.ifCond .le 7, 3) := by decide +kernel
theorem dX9_step_54 : decode cX9_step 54 = .ok (.iconst 0, 1) := by decide +kernel
theorem dX9_step_55 : decode cX9_step 55 = .ok (.goto 36, 3) := by decide +kernel
theorem dX9_step_58 : decode cX9_step 58 = .ok (.iload_n 2, 1) := by decide +kernel
theorem dX9_step_59 : decode cX9_step 59 = .ok (.ifCond .ne 12, 3) := by decide +kernel
theorem dX9_step_62 : decode cX9_step 62 = .ok (.aload_n 0, 1) := by decide +kernel
theorem dX9_step_63 : decode cX9_step 63 = .ok (.getfield 36, 3) := by decide +kernel
theorem dX9_step_66 : decode cX9_step 66 = .ok (.iload_n 1, 1) := by decide +kernel
theorem dX9_step_67 : decode cX9_step 67 = .ok (.iaload, 1) := by decide +kernel
theorem dX9_step_68 : decode cX9_step 68 = .ok (.goto 23, 3) := by decide +kernel
theorem dX9_step_71 : decode cX9_step 71 = .ok (.iload_n 2, 1) := by decide +kernel
theorem dX9_step_72 : decode cX9_step 72 = .ok (.iconst 1, 1) := by decide +kernel
theorem dX9_step_73 : decode cX9_step 73 = .ok (.if_icmp .ne 12, 3) := by decide +kernel
theorem dX9_step_76 : decode cX9_step 76 = .ok (.aload_n 0, 1) := by decide +kernel
theorem dX9_step_77 : decode cX9_step 77 = .ok (.getfield 39, 3) := by decide +kernel
theorem dX9_step_80 : decode cX9_step 80 = .ok (.iload_n 1, 1) := by decide +kernel
theorem dX9_step_81 : decode cX9_step 81 = .ok (.iaload, 1) := by decide +kernel
theorem dX9_step_82 : decode cX9_step 82 = .ok (.goto 9, 3) := by decide +kernel
theorem dX9_step_85 : decode cX9_step 85 = .ok (.aload_n 0, 1) := by decide +kernel
theorem dX9_step_86 : decode cX9_step 86 = .ok (.getfield 42, 3) := by decide +kernel
theorem dX9_step_89 : decode cX9_step 89 = .ok (.iload_n 1, 1) := by decide +kernel
theorem dX9_step_90 : decode cX9_step 90 = .ok (.iaload, 1) := by decide +kernel
theorem dX9_step_91 : decode cX9_step 91 = .ok (.ireturn, 1) := by decide +kernel
theorem dX9_weight_0 : decode cX9_weight 0 = .ok (.aload_n 0, 1) := by decide +kernel
theorem dX9_weight_1 : decode cX9_weight 1 = .ok (.aload_n 0, 1) := by decide +kernel
theorem dX9_weight_2 : decode cX9_weight 2 = .ok (.getfield 120, 3) := by decide +kernel
theorem dX9_weight_5 : decode cX9_weight 5 = .ok (.ifCond .ne 7, 3) := by decide +kernel
theorem dX9_weight_8 : decode cX9_weight 8 = .ok (.iconst 1, 1) := by decide +kernel
theorem dX9_weight_9 : decode cX9_weight 9 = .ok (.goto 40, 3) := by decide +kernel
theorem dX9_weight_12 : decode cX9_weight 12 = .ok (.aload_n 0, 1) := by decide +kernel
theorem dX9_weight_13 : decode cX9_weight 13 = .ok (.iload_n 1, 1) := by decide +kernel
theorem dX9_weight_14 : decode cX9_weight 14 = .ok (.iload_n 2, 1) := by decide +kernel
theorem dX9_weight_15 : decode cX9_weight 15 = .ok (.invokevirtual 176, 3) := by decide +kernel
theorem dX9_weight_18 : decode cX9_weight 18 = .ok (.ifCond .eq 26, 3) := by decide +kernel
theorem dX9_weight_21 : decode cX9_weight 21 = .ok (.iload_n 3, 1) := by decide +kernel
theorem dX9_weight_22 : decode cX9_weight 22 = .ok (.iconst 0, 1) := by decide +kernel
theorem dX9_weight_23 : decode cX9_weight 23 = .ok (.sipush 999, 3) := by decide +kernel
theorem dX9_weight_26 : decode cX9_weight 26 = .ok (.invokestatic 116, 3) := by decide +kernel
theorem dX9_weight_29 : decode cX9_weight 29 = .ok (.ifCond .eq 15, 3) := by decide +kernel
theorem dX9_weight_32 : decode cX9_weight 32 = .ok (.iload 4, 2) := by decide +kernel
theorem dX9_weight_34 : decode cX9_weight 34 = .ok (.iconst 1, 1) := by decide +kernel
theorem dX9_weight_35 : decode cX9_weight 35 = .ok (.sipush 999, 3) := by decide +kernel
theorem dX9_weight_38 : decode cX9_weight 38 = .ok (.invokestatic 116, 3) := by decide +kernel
theorem dX9_weight_41 : decode cX9_weight 41 = .ok (.ifCond .ne 7, 3) := by decide +kernel
theorem dX9_weight_44 : decode cX9_weight 44 = .ok (.iconst 2, 1) := by decide +kernel
theorem dX9_weight_45 : decode cX9_weight 45 = .ok (.goto 4, 3) := by decide +kernel
theorem dX9_weight_48 : decode cX9_weight 48 = .ok (.iconst 0, 1) := by decide +kernel
theorem dX9_weight_49 : decode cX9_weight 49 = .ok (.putfield 84, 3) := by decide +kernel
theorem dX9_weight_52 : decode cX9_weight 52 = .ok (.aload_n 0, 1) := by decide +kernel
theorem dX9_weight_53 : decode cX9_weight 53 = .ok (.getfield 84, 3) := by decide +kernel
theorem dX9_weight_56 : decode cX9_weight 56 = .ok (.ifCond .ne 28, 3) := by decide +kernel
theorem dX9_weight_59 : decode cX9_weight 59 = .ok (.aload_n 0, 1) := by decide +kernel
theorem dX9_weight_60 : decode cX9_weight 60 = .ok (.getfield 26, 3) := by decide +kernel
theorem dX9_weight_63 : decode cX9_weight 63 = .ok (.bipush 6, 2) := by decide +kernel
theorem dX9_weight_65 : decode cX9_weight 65 = .ok (.iload_n 1, 1) := by decide +kernel
theorem dX9_weight_66 : decode cX9_weight 66 = .ok (.imul, 1) := by decide +kernel
theorem dX9_weight_67 : decode cX9_weight 67 = .ok (.iload_n 2, 1) := by decide +kernel
theorem dX9_weight_68 : decode cX9_weight 68 = .ok (.iadd, 1) := by decide +kernel
theorem dX9_weight_69 : decode cX9_weight 69 = .ok (.iload_n 3, 1) := by decide +kernel
theorem dX9_weight_70 : decode cX9_weight 70 = .ok (.iastore, 1) := by decide +kernel
theorem dX9_weight_71 : decode cX9_weight 71 = .ok (.aload_n 0, 1) := by decide +kernel
theorem dX9_weight_72 : decode cX9_weight 72 = .ok (.getfield 29, 3) := by decide +kernel
theorem dX9_weight_75 : decode cX9_weight 75 = .ok (.bipush 6, 2) := by decide +kernel
theorem dX9_weight_77 : decode cX9_weight 77 = .ok (.iload_n 1, 1) := by decide +kernel
theorem dX9_weight_78 : decode cX9_weight 78 = .ok (.imul, 1) := by decide +kernel
theorem dX9_weight_79 : decode cX9_weight 79 = .ok (.iload_n 2, 1) := by decide +kernel
theorem dX9_weight_80 : decode cX9_weight 80 = .ok (.iadd, 1) := by decide +kernel
theorem dX9_weight_81 : decode cX9_weight 81 = .ok (.iload 4, 2) := by decide +kernel
theorem dX9_weight_83 : decode cX9_weight 83 = .ok (.iastore, 1) := by decide +kernel
theorem dX9_weight_84 : decode cX9_weight 84 = .ok (.return_, 1) := by decide +kernel
theorem dX9_placeOf_0 : decode cX9_placeOf 0 = .ok (.aload_n 0, 1) := by decide +kernel
theorem dX9_placeOf_1 : decode cX9_placeOf 1 = .ok (.getfield 120, 3) := by decide +kernel
theorem dX9_placeOf_4 : decode cX9_placeOf 4 = .ok (.ifCond .eq 9, 3) := by decide +kernel
theorem dX9_placeOf_7 : decode cX9_placeOf 7 = .ok (.iload_n 1, 1) := by decide +kernel
theorem dX9_placeOf_8 : decode cX9_placeOf 8 = .ok (.bipush (-2), 2) := by decide +kernel
theorem dX9_placeOf_10 : decode cX9_placeOf 10 = .ok (.if_icmp .ge 5, 3) := by decide +kernel
theorem dX9_placeOf_13 : decode cX9_placeOf 13 = .ok (.iconst (-1), 1) := by decide +kernel
theorem dX9_placeOf_14 : decode cX9_placeOf 14 = .ok (.ireturn, 1) := by decide +kernel
theorem dX9_placeOf_15 : decode cX9_placeOf 15 = .ok (.iload_n 1, 1) := by decide +kernel
theorem dX9_placeOf_16 : decode cX9_placeOf 16 = .ok (.bipush (-2), 2) := by decide +kernel
theorem dX9_placeOf_18 : decode cX9_placeOf 18 = .ok (.if_icmp .ne 18, 3) := by decide +kernel
theorem dX9_placeOf_21 : decode cX9_placeOf 21 = .ok (.aload_n 0, 1) := by decide +kernel
theorem dX9_placeOf_22 : decode cX9_placeOf 22 = .ok (.invokevirtual 180, 3) := by decide +kernel
theorem dX9_placeOf_25 : decode cX9_placeOf 25 = .ok (.ifCond .eq 9, 3) := by decide +kernel
theorem dX9_placeOf_28 : decode cX9_placeOf 28 = .ok (.sipush 314, 3) := by decide +kernel
theorem dX9_placeOf_31 : decode cX9_placeOf 31 = .ok (.goto 4, 3) := by decide +kernel
theorem dX9_placeOf_34 : decode cX9_placeOf 34 = .ok (.iconst (-1), 1) := by decide +kernel
theorem dX9_placeOf_35 : decode cX9_placeOf 35 = .ok (.ireturn, 1) := by decide +kernel
theorem dX9_placeOf_36 : decode cX9_placeOf 36 = .ok (.iload_n 1, 1) := by decide +kernel
theorem dX9_placeOf_37 : decode cX9_placeOf 37 = .ok (.iconst (-1), 1) := by decide +kernel
theorem dX9_placeOf_38 : decode cX9_placeOf 38 = .ok (.if_icmp .ne 18, 3) := by decide +kernel
theorem dX9_placeOf_41 : decode cX9_placeOf 41 = .ok (.aload_n 0, 1) := by decide +kernel
theorem dX9_placeOf_42 : decode cX9_placeOf 42 = .ok (.getfield 32, 3) := by decide +kernel
theorem dX9_placeOf_45 : decode cX9_placeOf 45 = .ok (.ifCond .ge 7, 3) := by decide +kernel
theorem dX9_placeOf_48 : decode cX9_placeOf 48 = .ok (.iconst (-1), 1) := by decide +kernel
theorem dX9_placeOf_49 : decode cX9_placeOf 49 = .ok (.goto 6, 3) := by decide +kernel
theorem dX9_placeOf_52 : decode cX9_placeOf 52 = .ok (.sipush 300, 3) := by decide +kernel
theorem dX9_placeOf_55 : decode cX9_placeOf 55 = .ok (.ireturn, 1) := by decide +kernel
theorem dX9_placeOf_56 : decode cX9_placeOf 56 = .ok (.aload_n 0, 1) := by decide +kernel
theorem dX9_placeOf_57 : decode cX9_placeOf 57 = .ok (.getfield 132, 3) := by decide +kernel
theorem dX9_placeOf_60 : decode cX9_placeOf 60 = .ok (.ifCond .eq 11, 3) := by decide +kernel
theorem dX9_placeOf_63 : decode cX9_placeOf 63 = .ok (.iload_n 1, 1) := by decide +kernel
theorem dX9_placeOf_64 : decode cX9_placeOf 64 = .ok (.aload_n 0, 1) := by decide +kernel
theorem dX9_placeOf_65 : decode cX9_placeOf 65 = .ok (.getfield 136, 3) := by decide +kernel
theorem dX9_placeOf_68 : decode cX9_placeOf 68 = .ok (.if_icmp .lt 7, 3) := by decide +kernel
theorem dX9_placeOf_71 : decode cX9_placeOf 71 = .ok (.iconst (-1), 1) := by decide +kernel
theorem dX9_placeOf_72 : decode cX9_placeOf 72 = .ok (.goto 11, 3) := by decide +kernel
theorem dX9_placeOf_75 : decode cX9_placeOf 75 = .ok (.sipush 330, 3) := by decide +kernel
theorem dX9_placeOf_78 : decode cX9_placeOf 78 = .ok (.bipush 14, 2) := by decide +kernel
theorem dX9_placeOf_80 : decode cX9_placeOf 80 = .ok (.iload_n 1, 1) := by decide +kernel
theorem dX9_placeOf_81 : decode cX9_placeOf 81 = .ok (.imul, 1) := by decide +kernel
theorem dX9_placeOf_82 : decode cX9_placeOf 82 = .ok (.iadd, 1) := by decide +kernel
theorem dX9_placeOf_83 : decode cX9_placeOf 83 = .ok (.ireturn, 1) := by decide +kernel
theorem dX9_tell_0 : decode cX9_tell 0 = .ok (.iconst 1, 1) := by decide +kernel
theorem dX9_tell_1 : decode cX9_tell 1 = .ok (.istore_n 1, 1) := by decide +kernel
theorem dX9_tell_2 : decode cX9_tell 2 = .ok (.iconst 0, 1) := by decide +kernel
theorem dX9_tell_3 : decode cX9_tell 3 = .ok (.istore_n 2, 1) := by decide +kernel
theorem dX9_tell_4 : decode cX9_tell 4 = .ok (.iload_n 2, 1) := by decide +kernel
theorem dX9_tell_5 : decode cX9_tell 5 = .ok (.iconst 2, 1) := by decide +kernel
theorem dX9_tell_6 : decode cX9_tell 6 = .ok (.if_icmp .ge 236, 3) := by decide +kernel
theorem dX9_tell_9 : decode cX9_tell 9 = .ok (.iload_n 2, 1) := by decide +kernel
theorem dX9_tell_10 : decode cX9_tell 10 = .ok (.ifCond .ne 10, 3) := by decide +kernel
theorem dX9_tell_13 : decode cX9_tell 13 = .ok (.aload_n 0, 1) := by decide +kernel
theorem dX9_tell_14 : decode cX9_tell 14 = .ok (.getfield 120, 3) := by decide +kernel
theorem dX9_tell_17 : decode cX9_tell 17 = .ok (.goto 7, 3) := by decide +kernel
theorem dX9_tell_20 : decode cX9_tell 20 = .ok (.aload_n 0, 1) := by decide +kernel
theorem dX9_tell_21 : decode cX9_tell 21 = .ok (.getfield 123, 3) := by decide +kernel
theorem dX9_tell_24 : decode cX9_tell 24 = .ok (.istore_n 3, 1) := by decide +kernel
theorem dX9_tell_25 : decode cX9_tell 25 = .ok (.aload_n 0, 1) := by decide +kernel
theorem dX9_tell_26 : decode cX9_tell 26 = .ok (.bipush 28, 2) := by decide +kernel
theorem dX9_tell_28 : decode cX9_tell 28 = .ok (.lconst 1, 1) := by decide +kernel
theorem dX9_tell_29 : decode cX9_tell 29 = .ok (.invokevirtual 80, 3) := by decide +kernel
theorem dX9_tell_32 : decode cX9_tell 32 = .ok (.iconst 0, 1) := by decide +kernel
theorem dX9_tell_33 : decode cX9_tell 33 = .ok (.istore 4, 2) := by decide +kernel
theorem dX9_tell_35 : decode cX9_tell 35 = .ok (.iload 4, 2) := by decide +kernel
theorem dX9_tell_37 : decode cX9_tell 37 = .ok (.iload_n 3, 1) := by decide +kernel
theorem dX9_tell_38 : decode cX9_tell 38 = .ok (.if_icmp .ge 46, 3) := by decide +kernel
theorem dX9_tell_41 : decode cX9_tell 41 = .ok (.aload_n 0, 1) := by decide +kernel
theorem dX9_tell_42 : decode cX9_tell 42 = .ok (.bipush 10, 2) := by decide +kernel
theorem dX9_tell_44 : decode cX9_tell 44 = .ok (.aload_n 0, 1) := by decide +kernel
theorem dX9_tell_45 : decode cX9_tell 45 = .ok (.getfield 29, 3) := by decide +kernel
theorem dX9_tell_48 : decode cX9_tell 48 = .ok (.bipush 6, 2) := by decide +kernel
theorem dX9_tell_50 : decode cX9_tell 50 = .ok (.iload_n 2, 1) := by decide +kernel
theorem dX9_tell_51 : decode cX9_tell 51 = .ok (.imul, 1) := by decide +kernel
theorem dX9_tell_52 : decode cX9_tell 52 = .ok (.iload 4, 2) := by decide +kernel
theorem dX9_tell_54 : decode cX9_tell 54 = .ok (.iadd, 1) := by decide +kernel
theorem dX9_tell_55 : decode cX9_tell 55 = .ok (.iaload, 1) := by decide +kernel
theorem dX9_tell_56 : decode cX9_tell 56 = .ok (.i2l, 1) := by decide +kernel
theorem dX9_tell_57 : decode cX9_tell 57 = .ok (.invokevirtual 80, 3) := by decide +kernel
theorem dX9_tell_60 : decode cX9_tell 60 = .ok (.aload_n 0, 1) := by decide +kernel
theorem dX9_tell_61 : decode cX9_tell 61 = .ok (.bipush 28, 2) := by decide +kernel
theorem dX9_tell_63 : decode cX9_tell 63 = .ok (.bipush 10, 2) := by decide +kernel
theorem dX9_tell_65 : decode cX9_tell 65 = .ok (.bipush 11, 2) := by decide +kernel
theorem dX9_tell_67 : decode cX9_tell 67 = .ok (.invokevirtual 104, 3) := by decide +kernel
theorem dX9_tell_70 : decode cX9_tell 70 = .ok (.aload_n 0, 1) := by decide +kernel
theorem dX9_tell_71 : decode cX9_tell 71 = .ok (.bipush 11, 2) := by decide +kernel
theorem dX9_tell_73 : decode cX9_tell 73 = .ok (.bipush 28, 2) := by decide +kernel
theorem dX9_tell_75 : decode cX9_tell 75 = .ok (.invokevirtual 98, 3) := by decide +kernel
theorem dX9_tell_78 : decode cX9_tell 78 = .ok (.iinc 4 1, 3) := by decide +kernel
theorem dX9_tell_81 : decode cX9_tell 81 = .ok (.goto (-46), 3) := by decide +kernel
theorem dX9_tell_84 : decode cX9_tell 84 = .ok (.aload_n 0, 1) := by decide +kernel
theorem dX9_tell_85 : decode cX9_tell 85 = .ok (.bipush 29, 2) := by decide +kernel
theorem dX9_tell_87 : decode cX9_tell 87 = .ok (.lconst 0, 1) := by decide +kernel
theorem dX9_tell_88 : decode cX9_tell 88 = .ok (.invokevirtual 80, 3) := by decide +kernel
theorem dX9_tell_91 : decode cX9_tell 91 = .ok (.iconst 0, 1) := by decide +kernel
theorem dX9_tell_92 : decode cX9_tell 92 = .ok (.istore 4, 2) := by decide +kernel
theorem dX9_tell_94 : decode cX9_tell 94 = .ok (.iload 4, 2) := by decide +kernel
theorem dX9_tell_96 : decode cX9_tell 96 = .ok (.bipush 6, 2) := by decide +kernel
theorem dX9_tell_98 : decode cX9_tell 98 = .ok (.if_icmp .ge 106, 3) := by decide +kernel
theorem dX9_tell_101 : decode cX9_tell 101 = .ok (.sipush 314, 3) := by decide +kernel
theorem dX9_tell_104 : decode cX9_tell 104 = .ok (.bipush 6, 2) := by decide +kernel
theorem dX9_tell_106 : decode cX9_tell 106 = .ok (.iload_n 2, 1) := by decide +kernel
theorem dX9_tell_107 : decode cX9_tell 107 = .ok (.imul, 1) := by decide +kernel
theorem dX9_tell_108 : decode cX9_tell 108 = .ok (.iadd, 1) := by decide +kernel
theorem dX9_tell_109 : decode cX9_tell 109 = .ok (.iload 4, 2) := by decide +kernel
theorem dX9_tell_111 : decode cX9_tell 111 = .ok (.iadd, 1) := by decide +kernel
theorem dX9_tell_112 : decode cX9_tell 112 = .ok (.istore 5, 2) := by decide +kernel
theorem dX9_tell_114 : decode cX9_tell 114 = .ok (.aload_n 0, 1) := by decide +kernel
theorem dX9_tell_115 : decode cX9_tell 115 = .ok (.iload 5, 2) := by decide +kernel
theorem dX9_tell_117 : decode cX9_tell 117 = .ok (.lconst 0, 1) := by decide +kernel
theorem dX9_tell_118 : decode cX9_tell 118 = .ok (.invokevirtual 80, 3) := by decide +kernel
theorem dX9_tell_121 : decode cX9_tell 121 = .ok (.iload 4, 2) := by decide +kernel
theorem dX9_tell_123 : decode cX9_tell 123 = .ok (.iload_n 3, 1) := by decide +kernel
theorem dX9_tell_124 : decode cX9_tell 124 = .ok (.if_icmp .ge 74, 3) := by decide +kernel
theorem dX9_tell_127 : decode cX9_tell 127 = .ok (.aload_n 0, 1) := by decide +kernel
theorem dX9_tell_128 : decode cX9_tell 128 = .ok (.bipush 10, 2) := by decide +kernel
theorem dX9_tell_130 : decode cX9_tell 130 = .ok (.aload_n 0, 1) := by decide +kernel
theorem dX9_tell_131 : decode cX9_tell 131 = .ok (.getfield 29, 3) := by decide +kernel
theorem dX9_tell_134 : decode cX9_tell 134 = .ok (.bipush 6, 2) := by decide +kernel
theorem dX9_tell_136 : decode cX9_tell 136 = .ok (.iload_n 2, 1) := by decide +kernel
theorem dX9_tell_137 : decode cX9_tell 137 = .ok (.imul, 1) := by decide +kernel
theorem dX9_tell_138 : decode cX9_tell 138 = .ok (.iload 4, 2) := by decide +kernel
theorem dX9_tell_140 : decode cX9_tell 140 = .ok (.iadd, 1) := by decide +kernel
theorem dX9_tell_141 : decode cX9_tell 141 = .ok (.iaload, 1) := by decide +kernel
theorem dX9_tell_142 : decode cX9_tell 142 = .ok (.i2l, 1) := by decide +kernel
theorem dX9_tell_143 : decode cX9_tell 143 = .ok (.invokevirtual 80, 3) := by decide +kernel
theorem dX9_tell_146 : decode cX9_tell 146 = .ok (.aload_n 0, 1) := by decide +kernel
theorem dX9_tell_147 : decode cX9_tell 147 = .ok (.bipush 28, 2) := by decide +kernel
theorem dX9_tell_149 : decode cX9_tell 149 = .ok (.bipush 10, 2) := by decide +kernel
theorem dX9_tell_151 : decode cX9_tell 151 = .ok (.bipush 11, 2) := by decide +kernel
theorem dX9_tell_153 : decode cX9_tell 153 = .ok (.bipush 12, 2) := by decide +kernel
theorem dX9_tell_155 : decode cX9_tell 155 = .ok (.invokevirtual 112, 3) := by decide +kernel
theorem dX9_tell_158 : decode cX9_tell 158 = .ok (.aload_n 0, 1) := by decide +kernel
theorem dX9_tell_159 : decode cX9_tell 159 = .ok (.bipush 10, 2) := by decide +kernel
theorem dX9_tell_161 : decode cX9_tell 161 = .ok (.aload_n 0, 1) := by decide +kernel
theorem dX9_tell_162 : decode cX9_tell 162 = .ok (.getfield 26, 3) := by decide +kernel
theorem dX9_tell_165 : decode cX9_tell 165 = .ok (.bipush 6, 2) := by decide +kernel
theorem dX9_tell_167 : decode cX9_tell 167 = .ok (.iload_n 2, 1) := by decide +kernel
theorem dX9_tell_168 : decode cX9_tell 168 = .ok (.imul, 1) := by decide +kernel
theorem dX9_tell_169 : decode cX9_tell 169 = .ok (.iload 4, 2) := by decide +kernel
theorem dX9_tell_171 : decode cX9_tell 171 = .ok (.iadd, 1) := by decide +kernel
theorem dX9_tell_172 : decode cX9_tell 172 = .ok (.iaload, 1) := by decide +kernel
theorem dX9_tell_173 : decode cX9_tell 173 = .ok (.i2l, 1) := by decide +kernel
theorem dX9_tell_174 : decode cX9_tell 174 = .ok (.invokevirtual 80, 3) := by decide +kernel
theorem dX9_tell_177 : decode cX9_tell 177 = .ok (.aload_n 0, 1) := by decide +kernel
theorem dX9_tell_178 : decode cX9_tell 178 = .ok (.bipush 11, 2) := by decide +kernel
theorem dX9_tell_180 : decode cX9_tell 180 = .ok (.bipush 10, 2) := by decide +kernel
theorem dX9_tell_182 : decode cX9_tell 182 = .ok (.iload 5, 2) := by decide +kernel
theorem dX9_tell_184 : decode cX9_tell 184 = .ok (.invokevirtual 104, 3) := by decide +kernel
theorem dX9_tell_187 : decode cX9_tell 187 = .ok (.aload_n 0, 1) := by decide +kernel
theorem dX9_tell_188 : decode cX9_tell 188 = .ok (.bipush 29, 2) := by decide +kernel
theorem dX9_tell_190 : decode cX9_tell 190 = .ok (.iload 5, 2) := by decide +kernel
theorem dX9_tell_192 : decode cX9_tell 192 = .ok (.iconst 0, 1) := by decide +kernel
theorem dX9_tell_193 : decode cX9_tell 193 = .ok (.bipush 29, 2) := by decide +kernel
theorem dX9_tell_195 : decode cX9_tell 195 = .ok (.invokevirtual 108, 3) := by decide +kernel
theorem dX9_tell_198 : decode cX9_tell 198 = .ok (.iinc 4 1, 3) := by decide +kernel
theorem dX9_tell_201 : decode cX9_tell 201 = .ok (.goto (-107), 3) := by decide +kernel
theorem dX9_tell_204 : decode cX9_tell 204 = .ok (.aload_n 0, 1) := by decide +kernel
theorem dX9_tell_205 : decode cX9_tell 205 = .ok (.bipush 28, 2) := by decide +kernel
theorem dX9_tell_207 : decode cX9_tell 207 = .ok (.sipush 326, 3) := by decide +kernel
theorem dX9_tell_210 : decode cX9_tell 210 = .ok (.iload_n 2, 1) := by decide +kernel
theorem dX9_tell_211 : decode cX9_tell 211 = .ok (.iadd, 1) := by decide +kernel
theorem dX9_tell_212 : decode cX9_tell 212 = .ok (.invokevirtual 98, 3) := by decide +kernel
theorem dX9_tell_215 : decode cX9_tell 215 = .ok (.iload_n 1, 1) := by decide +kernel
theorem dX9_tell_216 : decode cX9_tell 216 = .ok (.ifCond .eq 18, 3) := by decide +kernel
theorem dX9_tell_219 : decode cX9_tell 219 = .ok (.aload_n 0, 1) := by decide +kernel
theorem dX9_tell_220 : decode cX9_tell 220 = .ok (.bipush 29, 2) := by decide +kernel
theorem dX9_tell_222 : decode cX9_tell 222 = .ok (.bipush 28, 2) := by decide +kernel
theorem dX9_tell_224 : decode cX9_tell 224 = .ok (.invokevirtual 159, 3) := by decide +kernel
theorem dX9_tell_227 : decode cX9_tell 227 = .ok (.ifCond .ne 7, 3) := by decide +kernel
theorem dX9_tell_230 : decode cX9_tell 230 = .ok (.iconst 1, 1) := by decide +kernel
theorem dX9_tell_231 : decode cX9_tell 231 = .ok (.goto 4, 3) := by decide +kernel
theorem dX9_tell_234 : decode cX9_tell 234 = .ok (.iconst 0, 1) := by decide +kernel
theorem dX9_tell_235 : decode cX9_tell 235 = .ok (.istore_n 1, 1) := by decide +kernel
theorem dX9_tell_236 : decode cX9_tell 236 = .ok (.iinc 2 1, 3) := by decide +kernel
theorem dX9_tell_239 : decode cX9_tell 239 = .ok (.goto (-235), 3) := by decide +kernel
theorem dX9_tell_242 : decode cX9_tell 242 = .ok (.iload_n 1, 1) := by decide +kernel
theorem dX9_tell_243 : decode cX9_tell 243 = .ok (.ireturn, 1) := by decide +kernel
theorem dX9_support_0 : decode cX9_support 0 = .ok (.aload_n 0, 1) := by decide +kernel
theorem dX9_support_1 : decode cX9_support 1 = .ok (.iload_n 1, 1) := by decide +kernel
theorem dX9_support_2 : decode cX9_support 2 = .ok (.invokevirtual 184, 3) := by decide +kernel
theorem dX9_support_5 : decode cX9_support 5 = .ok (.istore_n 3, 1) := by decide +kernel
theorem dX9_support_6 : decode cX9_support 6 = .ok (.aload_n 0, 1) := by decide +kernel
theorem dX9_support_7 : decode cX9_support 7 = .ok (.iload_n 3, 1) := by decide +kernel
theorem dX9_support_8 : decode cX9_support 8 = .ok (.ifCond .ge 7, 3) := by decide +kernel
theorem dX9_support_11 : decode cX9_support 11 = .ok (.iconst 1, 1) := by decide +kernel
theorem dX9_support_12 : decode cX9_support 12 = .ok (.goto 17, 3) := by decide +kernel
theorem dX9_support_15 : decode cX9_support 15 = .ok (.iload_n 2, 1) := by decide +kernel
theorem dX9_support_16 : decode cX9_support 16 = .ok (.iconst 0, 1) := by decide +kernel
theorem dX9_support_17 : decode cX9_support 17 = .ok (.iconst 1, 1) := by decide +kernel
theorem dX9_support_18 : decode cX9_support 18 = .ok (.invokestatic 116, 3) := by decide +kernel
theorem dX9_support_21 : decode cX9_support 21 = .ok (.ifCond .ne 7, 3) := by decide +kernel
theorem dX9_support_24 : decode cX9_support 24 = .ok (.iconst 2, 1) := by decide +kernel
theorem dX9_support_25 : decode cX9_support 25 = .ok (.goto 4, 3) := by decide +kernel
theorem dX9_support_28 : decode cX9_support 28 = .ok (.iconst 0, 1) := by decide +kernel
theorem dX9_support_29 : decode cX9_support 29 = .ok (.putfield 84, 3) := by decide +kernel
theorem dX9_support_32 : decode cX9_support 32 = .ok (.aload_n 0, 1) := by decide +kernel
theorem dX9_support_33 : decode cX9_support 33 = .ok (.getfield 84, 3) := by decide +kernel
theorem dX9_support_36 : decode cX9_support 36 = .ok (.ifCond .le 5, 3) := by decide +kernel
theorem dX9_support_39 : decode cX9_support 39 = .ok (.iconst 0, 1) := by decide +kernel
theorem dX9_support_40 : decode cX9_support 40 = .ok (.ireturn, 1) := by decide +kernel
theorem dX9_support_41 : decode cX9_support 41 = .ok (.iconst 0, 1) := by decide +kernel
theorem dX9_support_42 : decode cX9_support 42 = .ok (.istore 4, 2) := by decide +kernel
theorem dX9_support_44 : decode cX9_support 44 = .ok (.iconst 0, 1) := by decide +kernel
theorem dX9_support_45 : decode cX9_support 45 = .ok (.istore 5, 2) := by decide +kernel
theorem dX9_support_47 : decode cX9_support 47 = .ok (.iload 5, 2) := by decide +kernel
theorem dX9_support_49 : decode cX9_support 49 = .ok (.bipush 6, 2) := by decide +kernel
theorem dX9_support_51 : decode cX9_support 51 = .ok (.if_icmp .ge 39, 3) := by decide +kernel
theorem dX9_support_54 : decode cX9_support 54 = .ok (.iload 4, 2) := by decide +kernel
theorem dX9_support_56 : decode cX9_support 56 = .ok (.aload_n 0, 1) := by decide +kernel
theorem dX9_support_57 : decode cX9_support 57 = .ok (.getfield 17, 3) := by decide +kernel
theorem dX9_support_60 : decode cX9_support 60 = .ok (.iload_n 3, 1) := by decide +kernel
theorem dX9_support_61 : decode cX9_support 61 = .ok (.bipush 6, 2) := by decide +kernel
theorem dX9_support_63 : decode cX9_support 63 = .ok (.iload_n 2, 1) := by decide +kernel
theorem dX9_support_64 : decode cX9_support 64 = .ok (.imul, 1) := by decide +kernel
theorem dX9_support_65 : decode cX9_support 65 = .ok (.iadd, 1) := by decide +kernel
theorem dX9_support_66 : decode cX9_support 66 = .ok (.iload 5, 2) := by decide +kernel
theorem dX9_support_68 : decode cX9_support 68 = .ok (.iadd, 1) := by decide +kernel
theorem dX9_support_69 : decode cX9_support 69 = .ok (.iaload, 1) := by decide +kernel
theorem dX9_support_70 : decode cX9_support 70 = .ok (.ifCond .le 10, 3) := by decide +kernel
theorem dX9_support_73 : decode cX9_support 73 = .ok (.iconst 1, 1) := by decide +kernel
theorem dX9_support_74 : decode cX9_support 74 = .ok (.iload 5, 2) := by decide +kernel
theorem dX9_support_76 : decode cX9_support 76 = .ok (.ishl, 1) := by decide +kernel
theorem dX9_support_77 : decode cX9_support 77 = .ok (.goto 4, 3) := by decide +kernel
theorem dX9_support_80 : decode cX9_support 80 = .ok (.iconst 0, 1) := by decide +kernel
theorem dX9_support_81 : decode cX9_support 81 = .ok (.ior, 1) := by decide +kernel
theorem dX9_support_82 : decode cX9_support 82 = .ok (.istore 4, 2) := by decide +kernel
theorem dX9_support_84 : decode cX9_support 84 = .ok (.iinc 5 1, 3) := by decide +kernel
theorem dX9_support_87 : decode cX9_support 87 = .ok (.goto (-40), 3) := by decide +kernel
theorem dX9_support_90 : decode cX9_support 90 = .ok (.iload 4, 2) := by decide +kernel
theorem dX9_support_92 : decode cX9_support 92 = .ok (.ireturn, 1) := by decide +kernel
theorem dX9_strategy_0 : decode cX9_strategy 0 = .ok (.aload_n 0, 1) := by decide +kernel
theorem dX9_strategy_1 : decode cX9_strategy 1 = .ok (.iload_n 1, 1) := by decide +kernel
theorem dX9_strategy_2 : decode cX9_strategy 2 = .ok (.invokevirtual 184, 3) := by decide +kernel
theorem dX9_strategy_5 : decode cX9_strategy 5 = .ok (.istore 4, 2) := by decide +kernel
theorem dX9_strategy_7 : decode cX9_strategy 7 = .ok (.aload_n 0, 1) := by decide +kernel
theorem dX9_strategy_8 : decode cX9_strategy 8 = .ok (.iload 4, 2) := by decide +kernel
theorem dX9_strategy_10 : decode cX9_strategy 10 = .ok (.ifCond .ge 7, 3) := by decide +kernel
theorem dX9_strategy_13 : decode cX9_strategy 13 = .ok (.iconst 1, 1) := by decide +kernel
theorem dX9_strategy_14 : decode cX9_strategy 14 = .ok (.goto 17, 3) := by decide +kernel
theorem dX9_strategy_17 : decode cX9_strategy 17 = .ok (.aload_n 0, 1) := by decide +kernel
theorem dX9_strategy_18 : decode cX9_strategy 18 = .ok (.iload_n 2, 1) := by decide +kernel
theorem dX9_strategy_19 : decode cX9_strategy 19 = .ok (.iload_n 3, 1) := by decide +kernel
theorem dX9_strategy_20 : decode cX9_strategy 20 = .ok (.invokevirtual 176, 3) := by decide +kernel
theorem dX9_strategy_23 : decode cX9_strategy 23 = .ok (.ifCond .ne 7, 3) := by decide +kernel
theorem dX9_strategy_26 : decode cX9_strategy 26 = .ok (.iconst 2, 1) := by decide +kernel
theorem dX9_strategy_27 : decode cX9_strategy 27 = .ok (.goto 4, 3) := by decide +kernel
theorem dX9_strategy_30 : decode cX9_strategy 30 = .ok (.iconst 0, 1) := by decide +kernel
theorem dX9_strategy_31 : decode cX9_strategy 31 = .ok (.putfield 84, 3) := by decide +kernel
theorem dX9_strategy_34 : decode cX9_strategy 34 = .ok (.aload_n 0, 1) := by decide +kernel
theorem dX9_strategy_35 : decode cX9_strategy 35 = .ok (.getfield 84, 3) := by decide +kernel
theorem dX9_strategy_38 : decode cX9_strategy 38 = .ok (.ifCond .le 7, 3) := by decide +kernel
theorem dX9_strategy_41 : decode cX9_strategy 41 = .ok (.iconst 0, 1) := by decide +kernel
theorem dX9_strategy_42 : decode cX9_strategy 42 = .ok (.goto 23, 3) := by decide +kernel
theorem dX9_strategy_45 : decode cX9_strategy 45 = .ok (.aload_n 0, 1) := by decide +kernel
theorem dX9_strategy_46 : decode cX9_strategy 46 = .ok (.iload 4, 2) := by decide +kernel
theorem dX9_strategy_48 : decode cX9_strategy 48 = .ok (.bipush 6, 2) := by decide +kernel
theorem dX9_strategy_50 : decode cX9_strategy 50 = .ok (.iload_n 2, 1) := by decide +kernel
theorem dX9_strategy_51 : decode cX9_strategy 51 = .ok (.imul, 1) := by decide +kernel
theorem dX9_strategy_52 : decode cX9_strategy 52 = .ok (.iadd, 1) := by decide +kernel
theorem dX9_strategy_53 : decode cX9_strategy 53 = .ok (.iload_n 3, 1) := by decide +kernel
theorem dX9_strategy_54 : decode cX9_strategy 54 = .ok (.iadd, 1) := by decide +kernel
theorem dX9_strategy_55 : decode cX9_strategy 55 = .ok (.iload 4, 2) := by decide +kernel
theorem dX9_strategy_57 : decode cX9_strategy 57 = .ok (.bipush 12, 2) := by decide +kernel
theorem dX9_strategy_59 : decode cX9_strategy 59 = .ok (.iadd, 1) := by decide +kernel
theorem dX9_strategy_60 : decode cX9_strategy 60 = .ok (.iload_n 2, 1) := by decide +kernel
theorem dX9_strategy_61 : decode cX9_strategy 61 = .ok (.iadd, 1) := by decide +kernel
theorem dX9_strategy_62 : decode cX9_strategy 62 = .ok (.invokevirtual 187, 3) := by decide +kernel
theorem dX9_strategy_65 : decode cX9_strategy 65 = .ok (.ireturn, 1) := by decide +kernel
theorem dX9_rowGets_0 : decode cX9_rowGets 0 = .ok (.aload_n 0, 1) := by decide +kernel
theorem dX9_rowGets_1 : decode cX9_rowGets 1 = .ok (.bipush 29, 2) := by decide +kernel
theorem dX9_rowGets_3 : decode cX9_rowGets 3 = .ok (.lconst 0, 1) := by decide +kernel
theorem dX9_rowGets_4 : decode cX9_rowGets 4 = .ok (.invokevirtual 80, 3) := by decide +kernel
theorem dX9_rowGets_7 : decode cX9_rowGets 7 = .ok (.iconst 0, 1) := by decide +kernel
theorem dX9_rowGets_8 : decode cX9_rowGets 8 = .ok (.istore 5, 2) := by decide +kernel
theorem dX9_rowGets_10 : decode cX9_rowGets 10 = .ok (.iload 5, 2) := by decide +kernel
theorem dX9_rowGets_12 : decode cX9_rowGets 12 = .ok (.iload_n 2, 1) := by decide +kernel
theorem dX9_rowGets_13 : decode cX9_rowGets 13 = .ok (.ifCond .ne 10, 3) := by decide +kernel
theorem dX9_rowGets_16 : decode cX9_rowGets 16 = .ok (.aload_n 0, 1) := by decide +kernel
theorem dX9_rowGets_17 : decode cX9_rowGets 17 = .ok (.getfield 123, 3) := by decide +kernel
theorem dX9_rowGets_20 : decode cX9_rowGets 20 = .ok (.goto 7, 3) := by decide +kernel
theorem dX9_rowGets_23 : decode cX9_rowGets 23 = .ok (.aload_n 0, 1) := by decide +kernel
theorem dX9_rowGets_24 : decode cX9_rowGets 24 = .ok (.getfield 120, 3) := by decide +kernel
theorem dX9_rowGets_27 : decode cX9_rowGets 27 = .ok (.if_icmp .ge 76, 3) := by decide +kernel
theorem dX9_rowGets_30 : decode cX9_rowGets 30 = .ok (.aload_n 0, 1) := by decide +kernel
theorem dX9_rowGets_31 : decode cX9_rowGets 31 = .ok (.bipush 10, 2) := by decide +kernel
theorem dX9_rowGets_33 : decode cX9_rowGets 33 = .ok (.aload_n 0, 1) := by decide +kernel
theorem dX9_rowGets_34 : decode cX9_rowGets 34 = .ok (.getfield 59, 3) := by decide +kernel
theorem dX9_rowGets_37 : decode cX9_rowGets 37 = .ok (.bipush 36, 2) := by decide +kernel
theorem dX9_rowGets_39 : decode cX9_rowGets 39 = .ok (.iload_n 2, 1) := by decide +kernel
theorem dX9_rowGets_40 : decode cX9_rowGets 40 = .ok (.imul, 1) := by decide +kernel
theorem dX9_rowGets_41 : decode cX9_rowGets 41 = .ok (.iload_n 2, 1) := by decide +kernel
theorem dX9_rowGets_42 : decode cX9_rowGets 42 = .ok (.ifCond .ne 13, 3) := by decide +kernel
theorem dX9_rowGets_45 : decode cX9_rowGets 45 = .ok (.bipush 6, 2) := by decide +kernel
theorem dX9_rowGets_47 : decode cX9_rowGets 47 = .ok (.iload_n 3, 1) := by decide +kernel
theorem dX9_rowGets_48 : decode cX9_rowGets 48 = .ok (.imul, 1) := by decide +kernel
theorem dX9_rowGets_49 : decode cX9_rowGets 49 = .ok (.iload 5, 2) := by decide +kernel
theorem dX9_rowGets_51 : decode cX9_rowGets 51 = .ok (.iadd, 1) := by decide +kernel
theorem dX9_rowGets_52 : decode cX9_rowGets 52 = .ok (.goto 10, 3) := by decide +kernel
theorem dX9_rowGets_55 : decode cX9_rowGets 55 = .ok (.bipush 6, 2) := by decide +kernel
theorem dX9_rowGets_57 : decode cX9_rowGets 57 = .ok (.iload 5, 2) := by decide +kernel
theorem dX9_rowGets_59 : decode cX9_rowGets 59 = .ok (.imul, 1) := by decide +kernel
theorem dX9_rowGets_60 : decode cX9_rowGets 60 = .ok (.iload_n 3, 1) := by decide +kernel
theorem dX9_rowGets_61 : decode cX9_rowGets 61 = .ok (.iadd, 1) := by decide +kernel
theorem dX9_rowGets_62 : decode cX9_rowGets 62 = .ok (.iadd, 1) := by decide +kernel
theorem dX9_rowGets_63 : decode cX9_rowGets 63 = .ok (.laload, 1) := by decide +kernel
theorem dX9_rowGets_64 : decode cX9_rowGets 64 = .ok (.invokevirtual 80, 3) := by decide +kernel
theorem dX9_rowGets_67 : decode cX9_rowGets 67 = .ok (.aload_n 0, 1) := by decide +kernel
theorem dX9_rowGets_68 : decode cX9_rowGets 68 = .ok (.bipush 10, 2) := by decide +kernel
theorem dX9_rowGets_70 : decode cX9_rowGets 70 = .ok (.iload_n 1, 1) := by decide +kernel
theorem dX9_rowGets_71 : decode cX9_rowGets 71 = .ok (.bipush 6, 2) := by decide +kernel
theorem dX9_rowGets_73 : decode cX9_rowGets 73 = .ok (.iconst 1, 1) := by decide +kernel
theorem dX9_rowGets_74 : decode cX9_rowGets 74 = .ok (.iload_n 2, 1) := by decide +kernel
theorem dX9_rowGets_75 : decode cX9_rowGets 75 = .ok (.isub, 1) := by decide +kernel
theorem dX9_rowGets_76 : decode cX9_rowGets 76 = .ok (.imul, 1) := by decide +kernel
theorem dX9_rowGets_77 : decode cX9_rowGets 77 = .ok (.iadd, 1) := by decide +kernel
theorem dX9_rowGets_78 : decode cX9_rowGets 78 = .ok (.iload 5, 2) := by decide +kernel
theorem dX9_rowGets_80 : decode cX9_rowGets 80 = .ok (.iadd, 1) := by decide +kernel
theorem dX9_rowGets_81 : decode cX9_rowGets 81 = .ok (.bipush 11, 2) := by decide +kernel
theorem dX9_rowGets_83 : decode cX9_rowGets 83 = .ok (.invokevirtual 104, 3) := by decide +kernel
theorem dX9_rowGets_86 : decode cX9_rowGets 86 = .ok (.aload_n 0, 1) := by decide +kernel
theorem dX9_rowGets_87 : decode cX9_rowGets 87 = .ok (.bipush 29, 2) := by decide +kernel
theorem dX9_rowGets_89 : decode cX9_rowGets 89 = .ok (.bipush 11, 2) := by decide +kernel
theorem dX9_rowGets_91 : decode cX9_rowGets 91 = .ok (.iconst 0, 1) := by decide +kernel
theorem dX9_rowGets_92 : decode cX9_rowGets 92 = .ok (.bipush 29, 2) := by decide +kernel
theorem dX9_rowGets_94 : decode cX9_rowGets 94 = .ok (.invokevirtual 108, 3) := by decide +kernel
theorem dX9_rowGets_97 : decode cX9_rowGets 97 = .ok (.iinc 5 1, 3) := by decide +kernel
theorem dX9_rowGets_100 : decode cX9_rowGets 100 = .ok (.goto (-90), 3) := by decide +kernel
theorem dX9_rowGets_103 : decode cX9_rowGets 103 = .ok (.aload_n 0, 1) := by decide +kernel
theorem dX9_rowGets_104 : decode cX9_rowGets 104 = .ok (.bipush 29, 2) := by decide +kernel
theorem dX9_rowGets_106 : decode cX9_rowGets 106 = .ok (.iload 4, 2) := by decide +kernel
theorem dX9_rowGets_108 : decode cX9_rowGets 108 = .ok (.invokevirtual 98, 3) := by decide +kernel
theorem dX9_rowGets_111 : decode cX9_rowGets 111 = .ok (.return_, 1) := by decide +kernel
theorem dX9_ownGets_0 : decode cX9_ownGets 0 = .ok (.aload_n 0, 1) := by decide +kernel
theorem dX9_ownGets_1 : decode cX9_ownGets 1 = .ok (.bipush 28, 2) := by decide +kernel
theorem dX9_ownGets_3 : decode cX9_ownGets 3 = .ok (.lconst 0, 1) := by decide +kernel
theorem dX9_ownGets_4 : decode cX9_ownGets 4 = .ok (.invokevirtual 80, 3) := by decide +kernel
theorem dX9_ownGets_7 : decode cX9_ownGets 7 = .ok (.iconst 0, 1) := by decide +kernel
theorem dX9_ownGets_8 : decode cX9_ownGets 8 = .ok (.istore 4, 2) := by decide +kernel
theorem dX9_ownGets_10 : decode cX9_ownGets 10 = .ok (.iload 4, 2) := by decide +kernel
theorem dX9_ownGets_12 : decode cX9_ownGets 12 = .ok (.iload_n 2, 1) := by decide +kernel
theorem dX9_ownGets_13 : decode cX9_ownGets 13 = .ok (.ifCond .ne 10, 3) := by decide +kernel
theorem dX9_ownGets_16 : decode cX9_ownGets 16 = .ok (.aload_n 0, 1) := by decide +kernel
theorem dX9_ownGets_17 : decode cX9_ownGets 17 = .ok (.getfield 120, 3) := by decide +kernel
theorem dX9_ownGets_20 : decode cX9_ownGets 20 = .ok (.goto 7, 3) := by decide +kernel
theorem dX9_ownGets_23 : decode cX9_ownGets 23 = .ok (.aload_n 0, 1) := by decide +kernel
theorem dX9_ownGets_24 : decode cX9_ownGets 24 = .ok (.getfield 123, 3) := by decide +kernel
theorem dX9_ownGets_27 : decode cX9_ownGets 27 = .ok (.if_icmp .ge 47, 3) := by decide +kernel
theorem dX9_ownGets_30 : decode cX9_ownGets 30 = .ok (.aload_n 0, 1) := by decide +kernel
theorem dX9_ownGets_31 : decode cX9_ownGets 31 = .ok (.iload_n 1, 1) := by decide +kernel
theorem dX9_ownGets_32 : decode cX9_ownGets 32 = .ok (.iload_n 2, 1) := by decide +kernel
theorem dX9_ownGets_33 : decode cX9_ownGets 33 = .ok (.iload 4, 2) := by decide +kernel
theorem dX9_ownGets_35 : decode cX9_ownGets 35 = .ok (.bipush 20, 2) := by decide +kernel
theorem dX9_ownGets_37 : decode cX9_ownGets 37 = .ok (.invokevirtual 190, 3) := by decide +kernel
theorem dX9_ownGets_40 : decode cX9_ownGets 40 = .ok (.aload_n 0, 1) := by decide +kernel
theorem dX9_ownGets_41 : decode cX9_ownGets 41 = .ok (.bipush 20, 2) := by decide +kernel
theorem dX9_ownGets_43 : decode cX9_ownGets 43 = .ok (.iload_n 1, 1) := by decide +kernel
theorem dX9_ownGets_44 : decode cX9_ownGets 44 = .ok (.bipush 6, 2) := by decide +kernel
theorem dX9_ownGets_46 : decode cX9_ownGets 46 = .ok (.iload_n 2, 1) := by decide +kernel
theorem dX9_ownGets_47 : decode cX9_ownGets 47 = .ok (.imul, 1) := by decide +kernel
theorem dX9_ownGets_48 : decode cX9_ownGets 48 = .ok (.iadd, 1) := by decide +kernel
theorem dX9_ownGets_49 : decode cX9_ownGets 49 = .ok (.iload 4, 2) := by decide +kernel
theorem dX9_ownGets_51 : decode cX9_ownGets 51 = .ok (.iadd, 1) := by decide +kernel
theorem dX9_ownGets_52 : decode cX9_ownGets 52 = .ok (.bipush 11, 2) := by decide +kernel
theorem dX9_ownGets_54 : decode cX9_ownGets 54 = .ok (.invokevirtual 104, 3) := by decide +kernel
theorem dX9_ownGets_57 : decode cX9_ownGets 57 = .ok (.aload_n 0, 1) := by decide +kernel
theorem dX9_ownGets_58 : decode cX9_ownGets 58 = .ok (.bipush 28, 2) := by decide +kernel
theorem dX9_ownGets_60 : decode cX9_ownGets 60 = .ok (.bipush 11, 2) := by decide +kernel
theorem dX9_ownGets_62 : decode cX9_ownGets 62 = .ok (.iconst 0, 1) := by decide +kernel
theorem dX9_ownGets_63 : decode cX9_ownGets 63 = .ok (.bipush 28, 2) := by decide +kernel
theorem dX9_ownGets_65 : decode cX9_ownGets 65 = .ok (.invokevirtual 108, 3) := by decide +kernel
theorem dX9_ownGets_68 : decode cX9_ownGets 68 = .ok (.iinc 4 1, 3) := by decide +kernel
theorem dX9_ownGets_71 : decode cX9_ownGets 71 = .ok (.goto (-61), 3) := by decide +kernel
theorem dX9_ownGets_74 : decode cX9_ownGets 74 = .ok (.aload_n 0, 1) := by decide +kernel
theorem dX9_ownGets_75 : decode cX9_ownGets 75 = .ok (.bipush 28, 2) := by decide +kernel
theorem dX9_ownGets_77 : decode cX9_ownGets 77 = .ok (.iload_n 3, 1) := by decide +kernel
theorem dX9_ownGets_78 : decode cX9_ownGets 78 = .ok (.invokevirtual 98, 3) := by decide +kernel
theorem dX9_ownGets_81 : decode cX9_ownGets 81 = .ok (.return_, 1) := by decide +kernel
theorem dX9_gets_0 : decode cX9_gets 0 = .ok (.aload_n 0, 1) := by decide +kernel
theorem dX9_gets_1 : decode cX9_gets 1 = .ok (.iload_n 1, 1) := by decide +kernel
theorem dX9_gets_2 : decode cX9_gets 2 = .ok (.invokevirtual 184, 3) := by decide +kernel
theorem dX9_gets_5 : decode cX9_gets 5 = .ok (.istore 4, 2) := by decide +kernel
theorem dX9_gets_7 : decode cX9_gets 7 = .ok (.aload_n 0, 1) := by decide +kernel
theorem dX9_gets_8 : decode cX9_gets 8 = .ok (.iload 4, 2) := by decide +kernel
theorem dX9_gets_10 : decode cX9_gets 10 = .ok (.ifCond .ge 7, 3) := by decide +kernel
theorem dX9_gets_13 : decode cX9_gets 13 = .ok (.iconst 1, 1) := by decide +kernel
theorem dX9_gets_14 : decode cX9_gets 14 = .ok (.goto 31, 3) := by decide +kernel
theorem dX9_gets_17 : decode cX9_gets 17 = .ok (.iload_n 2, 1) := by decide +kernel
theorem dX9_gets_18 : decode cX9_gets 18 = .ok (.iconst 0, 1) := by decide +kernel
theorem dX9_gets_19 : decode cX9_gets 19 = .ok (.iconst 1, 1) := by decide +kernel
theorem dX9_gets_20 : decode cX9_gets 20 = .ok (.invokestatic 116, 3) := by decide +kernel
theorem dX9_gets_23 : decode cX9_gets 23 = .ok (.ifCond .eq 17, 3) := by decide +kernel
theorem dX9_gets_26 : decode cX9_gets 26 = .ok (.iload_n 3, 1) := by decide +kernel
theorem dX9_gets_27 : decode cX9_gets 27 = .ok (.iconst (-1), 1) := by decide +kernel
theorem dX9_gets_28 : decode cX9_gets 28 = .ok (.if_icmp .eq 16, 3) := by decide +kernel
theorem dX9_gets_31 : decode cX9_gets 31 = .ok (.aload_n 0, 1) := by decide +kernel
theorem dX9_gets_32 : decode cX9_gets 32 = .ok (.iload_n 2, 1) := by decide +kernel
theorem dX9_gets_33 : decode cX9_gets 33 = .ok (.iload_n 3, 1) := by decide +kernel
theorem dX9_gets_34 : decode cX9_gets 34 = .ok (.invokevirtual 176, 3) := by decide +kernel
theorem dX9_gets_37 : decode cX9_gets 37 = .ok (.ifCond .ne 7, 3) := by decide +kernel
theorem dX9_gets_40 : decode cX9_gets 40 = .ok (.iconst 2, 1) := by decide +kernel
theorem dX9_gets_41 : decode cX9_gets 41 = .ok (.goto 4, 3) := by decide +kernel
theorem dX9_gets_44 : decode cX9_gets 44 = .ok (.iconst 0, 1) := by decide +kernel
theorem dX9_gets_45 : decode cX9_gets 45 = .ok (.putfield 84, 3) := by decide +kernel
theorem dX9_gets_48 : decode cX9_gets 48 = .ok (.aload_n 0, 1) := by decide +kernel
theorem dX9_gets_49 : decode cX9_gets 49 = .ok (.getfield 84, 3) := by decide +kernel
theorem dX9_gets_52 : decode cX9_gets 52 = .ok (.ifCond .le 5, 3) := by decide +kernel
theorem dX9_gets_55 : decode cX9_gets 55 = .ok (.iconst 0, 1) := by decide +kernel
theorem dX9_gets_56 : decode cX9_gets 56 = .ok (.ireturn, 1) := by decide +kernel
theorem dX9_gets_57 : decode cX9_gets 57 = .ok (.aload_n 0, 1) := by decide +kernel
theorem dX9_gets_58 : decode cX9_gets 58 = .ok (.bipush 10, 2) := by decide +kernel
theorem dX9_gets_60 : decode cX9_gets 60 = .ok (.aload_n 0, 1) := by decide +kernel
theorem dX9_gets_61 : decode cX9_gets 61 = .ok (.getfield 55, 3) := by decide +kernel
theorem dX9_gets_64 : decode cX9_gets 64 = .ok (.iload_n 2, 1) := by decide +kernel
theorem dX9_gets_65 : decode cX9_gets 65 = .ok (.laload, 1) := by decide +kernel
theorem dX9_gets_66 : decode cX9_gets 66 = .ok (.invokevirtual 80, 3) := by decide +kernel
theorem dX9_gets_69 : decode cX9_gets 69 = .ok (.aload_n 0, 1) := by decide +kernel
theorem dX9_gets_70 : decode cX9_gets 70 = .ok (.bipush 10, 2) := by decide +kernel
theorem dX9_gets_72 : decode cX9_gets 72 = .ok (.iload 4, 2) := by decide +kernel
theorem dX9_gets_74 : decode cX9_gets 74 = .ok (.bipush 12, 2) := by decide +kernel
theorem dX9_gets_76 : decode cX9_gets 76 = .ok (.iadd, 1) := by decide +kernel
theorem dX9_gets_77 : decode cX9_gets 77 = .ok (.iconst 1, 1) := by decide +kernel
theorem dX9_gets_78 : decode cX9_gets 78 = .ok (.iadd, 1) := by decide +kernel
theorem dX9_gets_79 : decode cX9_gets 79 = .ok (.iload_n 2, 1) := by decide +kernel
theorem dX9_gets_80 : decode cX9_gets 80 = .ok (.isub, 1) := by decide +kernel
theorem dX9_gets_81 : decode cX9_gets 81 = .ok (.bipush 21, 2) := by decide +kernel
theorem dX9_gets_83 : decode cX9_gets 83 = .ok (.invokevirtual 104, 3) := by decide +kernel
theorem dX9_gets_86 : decode cX9_gets 86 = .ok (.iload_n 3, 1) := by decide +kernel
theorem dX9_gets_87 : decode cX9_gets 87 = .ok (.ifCond .lt 22, 3) := by decide +kernel
theorem dX9_gets_90 : decode cX9_gets 90 = .ok (.aload_n 0, 1) := by decide +kernel
theorem dX9_gets_91 : decode cX9_gets 91 = .ok (.iload 4, 2) := by decide +kernel
theorem dX9_gets_93 : decode cX9_gets 93 = .ok (.iload_n 2, 1) := by decide +kernel
theorem dX9_gets_94 : decode cX9_gets 94 = .ok (.iload_n 3, 1) := by decide +kernel
theorem dX9_gets_95 : decode cX9_gets 95 = .ok (.bipush 20, 2) := by decide +kernel
theorem dX9_gets_97 : decode cX9_gets 97 = .ok (.invokevirtual 190, 3) := by decide +kernel
theorem dX9_gets_100 : decode cX9_gets 100 = .ok (.aload_n 0, 1) := by decide +kernel
theorem dX9_gets_101 : decode cX9_gets 101 = .ok (.bipush 20, 2) := by decide +kernel
theorem dX9_gets_103 : decode cX9_gets 103 = .ok (.bipush 21, 2) := by decide +kernel
theorem dX9_gets_105 : decode cX9_gets 105 = .ok (.invokevirtual 187, 3) := by decide +kernel
theorem dX9_gets_108 : decode cX9_gets 108 = .ok (.ireturn, 1) := by decide +kernel
theorem dX9_gets_109 : decode cX9_gets 109 = .ok (.aload_n 0, 1) := by decide +kernel
theorem dX9_gets_110 : decode cX9_gets 110 = .ok (.bipush 21, 2) := by decide +kernel
theorem dX9_gets_112 : decode cX9_gets 112 = .ok (.iload 4, 2) := by decide +kernel
theorem dX9_gets_114 : decode cX9_gets 114 = .ok (.bipush 12, 2) := by decide +kernel
theorem dX9_gets_116 : decode cX9_gets 116 = .ok (.iadd, 1) := by decide +kernel
theorem dX9_gets_117 : decode cX9_gets 117 = .ok (.iload_n 2, 1) := by decide +kernel
theorem dX9_gets_118 : decode cX9_gets 118 = .ok (.iadd, 1) := by decide +kernel
theorem dX9_gets_119 : decode cX9_gets 119 = .ok (.bipush 23, 2) := by decide +kernel
theorem dX9_gets_121 : decode cX9_gets 121 = .ok (.invokevirtual 104, 3) := by decide +kernel
theorem dX9_gets_124 : decode cX9_gets 124 = .ok (.aload_n 0, 1) := by decide +kernel
theorem dX9_gets_125 : decode cX9_gets 125 = .ok (.iload 4, 2) := by decide +kernel
theorem dX9_gets_127 : decode cX9_gets 127 = .ok (.iload_n 2, 1) := by decide +kernel
theorem dX9_gets_128 : decode cX9_gets 128 = .ok (.bipush 25, 2) := by decide +kernel
theorem dX9_gets_130 : decode cX9_gets 130 = .ok (.invokevirtual 193, 3) := by decide +kernel
theorem dX9_gets_133 : decode cX9_gets 133 = .ok (.aload_n 0, 1) := by decide +kernel
theorem dX9_gets_134 : decode cX9_gets 134 = .ok (.bipush 25, 2) := by decide +kernel
theorem dX9_gets_136 : decode cX9_gets 136 = .ok (.bipush 23, 2) := by decide +kernel
theorem dX9_gets_138 : decode cX9_gets 138 = .ok (.invokevirtual 187, 3) := by decide +kernel
theorem dX9_gets_141 : decode cX9_gets 141 = .ok (.ireturn, 1) := by decide +kernel
theorem dX9_best_0 : decode cX9_best 0 = .ok (.iconst 0, 1) := by decide +kernel
theorem dX9_best_1 : decode cX9_best 1 = .ok (.istore_n 3, 1) := by decide +kernel
theorem dX9_best_2 : decode cX9_best 2 = .ok (.iconst 0, 1) := by decide +kernel
theorem dX9_best_3 : decode cX9_best 3 = .ok (.istore 4, 2) := by decide +kernel
theorem dX9_best_5 : decode cX9_best 5 = .ok (.iload 4, 2) := by decide +kernel
theorem dX9_best_7 : decode cX9_best 7 = .ok (.iload_n 2, 1) := by decide +kernel
theorem dX9_best_8 : decode cX9_best 8 = .ok (.ifCond .ne 10, 3) := by decide +kernel
theorem dX9_best_11 : decode cX9_best 11 = .ok (.aload_n 0, 1) := by decide +kernel
theorem dX9_best_12 : decode cX9_best 12 = .ok (.getfield 120, 3) := by decide +kernel
theorem dX9_best_15 : decode cX9_best 15 = .ok (.goto 7, 3) := by decide +kernel
theorem dX9_best_18 : decode cX9_best 18 = .ok (.aload_n 0, 1) := by decide +kernel
theorem dX9_best_19 : decode cX9_best 19 = .ok (.getfield 123, 3) := by decide +kernel
theorem dX9_best_22 : decode cX9_best 22 = .ok (.if_icmp .ge 68, 3) := by decide +kernel
theorem dX9_best_25 : decode cX9_best 25 = .ok (.aload_n 0, 1) := by decide +kernel
theorem dX9_best_26 : decode cX9_best 26 = .ok (.iload_n 1, 1) := by decide +kernel
theorem dX9_best_27 : decode cX9_best 27 = .ok (.iload_n 2, 1) := by decide +kernel
theorem dX9_best_28 : decode cX9_best 28 = .ok (.iload 4, 2) := by decide +kernel
theorem dX9_best_30 : decode cX9_best 30 = .ok (.bipush 22, 2) := by decide +kernel
theorem dX9_best_32 : decode cX9_best 32 = .ok (.invokevirtual 190, 3) := by decide +kernel
