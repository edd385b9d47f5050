/-! decode rows of the law's methods (as printed) -/
theorem dL_isList_0 : decode cL_isList 0 = .ok (.aload_n 1, 1) := by decide +kernel
theorem dL_isList_1 : decode cL_isList 1 = .ok (.sipush 140, 3) := by decide +kernel
theorem dL_isList_4 : decode cL_isList 4 = .ok (.iconst 3, 1) := by decide +kernel
theorem dL_isList_5 : decode cL_isList 5 = .ok (.iload_n 2, 1) := by decide +kernel
theorem dL_isList_6 : decode cL_isList 6 = .ok (.imul, 1) := by decide +kernel
theorem dL_isList_7 : decode cL_isList 7 = .ok (.iadd, 1) := by decide +kernel
theorem dL_isList_8 : decode cL_isList 8 = .ok (.iaload, 1) := by decide +kernel
theorem dL_isList_9 : decode cL_isList 9 = .ok (.istore_n 3, 1) := by decide +kernel
theorem dL_isList_10 : decode cL_isList 10 = .ok (.aload_n 1, 1) := by decide +kernel
theorem dL_isList_11 : decode cL_isList 11 = .ok (.sipush 141, 3) := by decide +kernel
theorem dL_isList_14 : decode cL_isList 14 = .ok (.iconst 3, 1) := by decide +kernel
theorem dL_isList_15 : decode cL_isList 15 = .ok (.iload_n 2, 1) := by decide +kernel
theorem dL_isList_16 : decode cL_isList 16 = .ok (.imul, 1) := by decide +kernel
theorem dL_isList_17 : decode cL_isList 17 = .ok (.iadd, 1) := by decide +kernel
theorem dL_isList_18 : decode cL_isList 18 = .ok (.iaload, 1) := by decide +kernel
theorem dL_isList_19 : decode cL_isList 19 = .ok (.istore 4, 2) := by decide +kernel
theorem dL_isList_21 : decode cL_isList 21 = .ok (.aload_n 1, 1) := by decide +kernel
theorem dL_isList_22 : decode cL_isList 22 = .ok (.sipush 142, 3) := by decide +kernel
theorem dL_isList_25 : decode cL_isList 25 = .ok (.iconst 3, 1) := by decide +kernel
theorem dL_isList_26 : decode cL_isList 26 = .ok (.iload_n 2, 1) := by decide +kernel
theorem dL_isList_27 : decode cL_isList 27 = .ok (.imul, 1) := by decide +kernel
theorem dL_isList_28 : decode cL_isList 28 = .ok (.iadd, 1) := by decide +kernel
theorem dL_isList_29 : decode cL_isList 29 = .ok (.iaload, 1) := by decide +kernel
theorem dL_isList_30 : decode cL_isList 30 = .ok (.istore 5, 2) := by decide +kernel
theorem dL_isList_32 : decode cL_isList 32 = .ok (.iconst 0, 1) := by decide +kernel
theorem dL_isList_33 : decode cL_isList 33 = .ok (.istore 6, 2) := by decide +kernel
theorem dL_isList_35 : decode cL_isList 35 = .ok (.bipush 24, 2) := by decide +kernel
theorem dL_isList_37 : decode cL_isList 37 = .ok (.newarray .int, 2) := by decide +kernel
theorem dL_isList_39 : decode cL_isList 39 = .ok (.astore 7, 2) := by decide +kernel
theorem dL_isList_41 : decode cL_isList 41 = .ok (.iconst 0, 1) := by decide +kernel
theorem dL_isList_42 : decode cL_isList 42 = .ok (.istore 8, 2) := by decide +kernel
theorem dL_isList_44 : decode cL_isList 44 = .ok (.iload 8, 2) := by decide +kernel
theorem dL_isList_46 : decode cL_isList 46 = .ok (.aload_n 1, 1) := by decide +kernel
theorem dL_isList_47 : decode cL_isList 47 = .ok (.iconst 0, 1) := by decide +kernel
theorem dL_isList_48 : decode cL_isList 48 = .ok (.iaload, 1) := by decide +kernel
theorem dL_isList_49 : decode cL_isList 49 = .ok (.if_icmp .ge 77, 3) := by decide +kernel
theorem dL_isList_52 : decode cL_isList 52 = .ok (.aload_n 0, 1) := by decide +kernel
theorem dL_isList_53 : decode cL_isList 53 = .ok (.bipush 11, 2) := by decide +kernel
theorem dL_isList_55 : decode cL_isList 55 = .ok (.iload_n 3, 1) := by decide +kernel
theorem dL_isList_56 : decode cL_isList 56 = .ok (.iload 8, 2) := by decide +kernel
theorem dL_isList_58 : decode cL_isList 58 = .ok (.invokestatic 211, 3) := by decide +kernel
theorem dL_isList_61 : decode cL_isList 61 = .ok (.iconst 1, 1) := by decide +kernel
theorem dL_isList_62 : decode cL_isList 62 = .ok (.if_icmp .ne 58, 3) := by decide +kernel
theorem dL_isList_65 : decode cL_isList 65 = .ok (.iload 6, 2) := by decide +kernel
theorem dL_isList_67 : decode cL_isList 67 = .ok (.istore 9, 2) := by decide +kernel
theorem dL_isList_69 : decode cL_isList 69 = .ok (.iload 9, 2) := by decide +kernel
theorem dL_isList_71 : decode cL_isList 71 = .ok (.ifCond .le 39, 3) := by decide +kernel
theorem dL_isList_74 : decode cL_isList 74 = .ok (.aload_n 0, 1) := by decide +kernel
theorem dL_isList_75 : decode cL_isList 75 = .ok (.iload 4, 2) := by decide +kernel
theorem dL_isList_77 : decode cL_isList 77 = .ok (.iload 8, 2) := by decide +kernel
theorem dL_isList_79 : decode cL_isList 79 = .ok (.aload 7, 2) := by decide +kernel
theorem dL_isList_81 : decode cL_isList 81 = .ok (.iload 9, 2) := by decide +kernel
theorem dL_isList_83 : decode cL_isList 83 = .ok (.iconst 1, 1) := by decide +kernel
theorem dL_isList_84 : decode cL_isList 84 = .ok (.isub, 1) := by decide +kernel
theorem dL_isList_85 : decode cL_isList 85 = .ok (.iaload, 1) := by decide +kernel
theorem dL_isList_86 : decode cL_isList 86 = .ok (.invokestatic 220, 3) := by decide +kernel
theorem dL_isList_89 : decode cL_isList 89 = .ok (.ifCond .eq 21, 3) := by decide +kernel
theorem dL_isList_92 : decode cL_isList 92 = .ok (.aload 7, 2) := by decide +kernel
theorem dL_isList_94 : decode cL_isList 94 = .ok (.iload 9, 2) := by decide +kernel
theorem dL_isList_96 : decode cL_isList 96 = .ok (.aload 7, 2) := by decide +kernel
theorem dL_isList_98 : decode cL_isList 98 = .ok (.iload 9, 2) := by decide +kernel
theorem dL_isList_100 : decode cL_isList 100 = .ok (.iconst 1, 1) := by decide +kernel
theorem dL_isList_101 : decode cL_isList 101 = .ok (.isub, 1) := by decide +kernel
theorem dL_isList_102 : decode cL_isList 102 = .ok (.iaload, 1) := by decide +kernel
theorem dL_isList_103 : decode cL_isList 103 = .ok (.iastore, 1) := by decide +kernel
theorem dL_isList_104 : decode cL_isList 104 = .ok (.iinc 9 (-1), 3) := by decide +kernel
theorem dL_isList_107 : decode cL_isList 107 = .ok (.goto (-38), 3) := by decide +kernel
theorem dL_isList_110 : decode cL_isList 110 = .ok (.aload 7, 2) := by decide +kernel
theorem dL_isList_112 : decode cL_isList 112 = .ok (.iload 9, 2) := by decide +kernel
theorem dL_isList_114 : decode cL_isList 114 = .ok (.iload 8, 2) := by decide +kernel
theorem dL_isList_116 : decode cL_isList 116 = .ok (.iastore, 1) := by decide +kernel
theorem dL_isList_117 : decode cL_isList 117 = .ok (.iinc 6 1, 3) := by decide +kernel
theorem dL_isList_120 : decode cL_isList 120 = .ok (.iinc 8 1, 3) := by decide +kernel
theorem dL_isList_123 : decode cL_isList 123 = .ok (.goto (-79), 3) := by decide +kernel
theorem dL_isList_126 : decode cL_isList 126 = .ok (.iconst 0, 1) := by decide +kernel
theorem dL_isList_127 : decode cL_isList 127 = .ok (.istore 8, 2) := by decide +kernel
theorem dL_isList_129 : decode cL_isList 129 = .ok (.iconst 0, 1) := by decide +kernel
theorem dL_isList_130 : decode cL_isList 130 = .ok (.istore 9, 2) := by decide +kernel
theorem dL_isList_132 : decode cL_isList 132 = .ok (.lconst 1, 1) := by decide +kernel
theorem dL_isList_133 : decode cL_isList 133 = .ok (.lstore 10, 2) := by decide +kernel
theorem dL_isList_135 : decode cL_isList 135 = .ok (.aload_n 0, 1) := by decide +kernel
theorem dL_isList_136 : decode cL_isList 136 = .ok (.bipush 12, 2) := by decide +kernel
theorem dL_isList_138 : decode cL_isList 138 = .ok (.iload_n 2, 1) := by decide +kernel
theorem dL_isList_139 : decode cL_isList 139 = .ok (.iconst 0, 1) := by decide +kernel
theorem dL_isList_140 : decode cL_isList 140 = .ok (.invokestatic 211, 3) := by decide +kernel
theorem dL_isList_143 : decode cL_isList 143 = .ok (.iload 6, 2) := by decide +kernel
theorem dL_isList_145 : decode cL_isList 145 = .ok (.if_icmp .ne 7, 3) := by decide +kernel
theorem dL_isList_148 : decode cL_isList 148 = .ok (.iconst 1, 1) := by decide +kernel
theorem dL_isList_149 : decode cL_isList 149 = .ok (.goto 4, 3) := by decide +kernel
theorem dL_isList_152 : decode cL_isList 152 = .ok (.iconst 0, 1) := by decide +kernel
theorem dL_isList_153 : decode cL_isList 153 = .ok (.istore 12, 2) := by decide +kernel
theorem dL_isList_155 : decode cL_isList 155 = .ok (.iconst 0, 1) := by decide +kernel
theorem dL_isList_156 : decode cL_isList 156 = .ok (.istore 13, 2) := by decide +kernel
theorem dL_isList_158 : decode cL_isList 158 = .ok (.iload 13, 2) := by decide +kernel
theorem dL_isList_160 : decode cL_isList 160 = .ok (.iload 6, 2) := by decide +kernel
theorem dL_isList_162 : decode cL_isList 162 = .ok (.if_icmp .ge 186, 3) := by decide +kernel
theorem dL_isList_165 : decode cL_isList 165 = .ok (.iload 12, 2) := by decide +kernel
theorem dL_isList_167 : decode cL_isList 167 = .ok (.ifCond .eq 181, 3) := by decide +kernel
theorem dL_isList_170 : decode cL_isList 170 = .ok (.aload_n 0, 1) := by decide +kernel
theorem dL_isList_171 : decode cL_isList 171 = .ok (.iconst 0, 1) := by decide +kernel
theorem dL_isList_172 : decode cL_isList 172 = .ok (.aload 7, 2) := by decide +kernel
theorem dL_isList_174 : decode cL_isList 174 = .ok (.iload 13, 2) := by decide +kernel
theorem dL_isList_176 : decode cL_isList 176 = .ok (.iaload, 1) := by decide +kernel
theorem dL_isList_177 : decode cL_isList 177 = .ok (.iconst 0, 1) := by decide +kernel
theorem dL_isList_178 : decode cL_isList 178 = .ok (.invokestatic 211, 3) := by decide +kernel
theorem dL_isList_181 : decode cL_isList 181 = .ok (.istore 14, 2) := by decide +kernel
theorem dL_isList_183 : decode cL_isList 183 = .ok (.iload 5, 2) := by decide +kernel
theorem dL_isList_185 : decode cL_isList 185 = .ok (.ifCond .eq 13, 3) := by decide +kernel
theorem dL_isList_188 : decode cL_isList 188 = .ok (.iload 9, 2) := by decide +kernel
theorem dL_isList_190 : decode cL_isList 190 = .ok (.iload 14, 2) := by decide +kernel
theorem dL_isList_192 : decode cL_isList 192 = .ok (.iadd, 1) := by decide +kernel
theorem dL_isList_193 : decode cL_isList 193 = .ok (.iload 5, 2) := by decide +kernel
theorem dL_isList_195 : decode cL_isList 195 = .ok (.if_icmp .gt 7, 3) := by decide +kernel
theorem dL_isList_198 : decode cL_isList 198 = .ok (.iconst 1, 1) := by decide +kernel
theorem dL_isList_199 : decode cL_isList 199 = .ok (.goto 4, 3) := by decide +kernel
theorem dL_isList_202 : decode cL_isList 202 = .ok (.iconst 0, 1) := by decide +kernel
theorem dL_isList_203 : decode cL_isList 203 = .ok (.istore 15, 2) := by decide +kernel
theorem dL_isList_205 : decode cL_isList 205 = .ok (.aload_n 0, 1) := by decide +kernel
theorem dL_isList_206 : decode cL_isList 206 = .ok (.bipush 15, 2) := by decide +kernel
theorem dL_isList_208 : decode cL_isList 208 = .ok (.iload_n 2, 1) := by decide +kernel
theorem dL_isList_209 : decode cL_isList 209 = .ok (.aload 7, 2) := by decide +kernel
theorem dL_isList_211 : decode cL_isList 211 = .ok (.iload 13, 2) := by decide +kernel
theorem dL_isList_213 : decode cL_isList 213 = .ok (.iaload, 1) := by decide +kernel
theorem dL_isList_214 : decode cL_isList 214 = .ok (.invokestatic 211, 3) := by decide +kernel
theorem dL_isList_217 : decode cL_isList 217 = .ok (.iload 15, 2) := by decide +kernel
theorem dL_isList_219 : decode cL_isList 219 = .ok (.invokestatic 147, 3) := by decide +kernel
theorem dL_isList_222 : decode cL_isList 222 = .ok (.if_icmp .ne 49, 3) := by decide +kernel
theorem dL_isList_225 : decode cL_isList 225 = .ok (.aload_n 0, 1) := by decide +kernel
theorem dL_isList_226 : decode cL_isList 226 = .ok (.bipush 16, 2) := by decide +kernel
theorem dL_isList_228 : decode cL_isList 228 = .ok (.iload_n 2, 1) := by decide +kernel
theorem dL_isList_229 : decode cL_isList 229 = .ok (.aload 7, 2) := by decide +kernel
theorem dL_isList_231 : decode cL_isList 231 = .ok (.iload 13, 2) := by decide +kernel
theorem dL_isList_233 : decode cL_isList 233 = .ok (.iaload, 1) := by decide +kernel
theorem dL_isList_234 : decode cL_isList 234 = .ok (.invokestatic 211, 3) := by decide +kernel
theorem dL_isList_237 : decode cL_isList 237 = .ok (.iload 15, 2) := by decide +kernel
theorem dL_isList_239 : decode cL_isList 239 = .ok (.invokestatic 147, 3) := by decide +kernel
theorem dL_isList_242 : decode cL_isList 242 = .ok (.if_icmp .ne 29, 3) := by decide +kernel
theorem dL_isList_245 : decode cL_isList 245 = .ok (.iload 15, 2) := by decide +kernel
theorem dL_isList_247 : decode cL_isList 247 = .ok (.ifCond .eq 20, 3) := by decide +kernel
theorem dL_isList_250 : decode cL_isList 250 = .ok (.aload_n 0, 1) := by decide +kernel
theorem dL_isList_251 : decode cL_isList 251 = .ok (.bipush 14, 2) := by decide +kernel
theorem dL_isList_253 : decode cL_isList 253 = .ok (.iload_n 2, 1) := by decide +kernel
theorem dL_isList_254 : decode cL_isList 254 = .ok (.iload 8, 2) := by decide +kernel
theorem dL_isList_256 : decode cL_isList 256 = .ok (.invokestatic 211, 3) := by decide +kernel
theorem dL_isList_259 : decode cL_isList 259 = .ok (.aload 7, 2) := by decide +kernel
theorem dL_isList_261 : decode cL_isList 261 = .ok (.iload 13, 2) := by decide +kernel
theorem dL_isList_263 : decode cL_isList 263 = .ok (.iaload, 1) := by decide +kernel
theorem dL_isList_264 : decode cL_isList 264 = .ok (.if_icmp .ne 7, 3) := by decide +kernel
theorem dL_isList_267 : decode cL_isList 267 = .ok (.iconst 1, 1) := by decide +kernel
theorem dL_isList_268 : decode cL_isList 268 = .ok (.goto 4, 3) := by decide +kernel
theorem dL_isList_271 : decode cL_isList 271 = .ok (.iconst 0, 1) := by decide +kernel
theorem dL_isList_272 : decode cL_isList 272 = .ok (.istore 12, 2) := by decide +kernel
theorem dL_isList_274 : decode cL_isList 274 = .ok (.iload 9, 2) := by decide +kernel
theorem dL_isList_276 : decode cL_isList 276 = .ok (.iload 15, 2) := by decide +kernel
theorem dL_isList_278 : decode cL_isList 278 = .ok (.ifCond .eq 8, 3) := by decide +kernel
theorem dL_isList_281 : decode cL_isList 281 = .ok (.iload 14, 2) := by decide +kernel
theorem dL_isList_283 : decode cL_isList 283 = .ok (.goto 4, 3) := by decide +kernel
theorem dL_isList_286 : decode cL_isList 286 = .ok (.iconst 0, 1) := by decide +kernel
theorem dL_isList_287 : decode cL_isList 287 = .ok (.iadd, 1) := by decide +kernel
theorem dL_isList_288 : decode cL_isList 288 = .ok (.istore 9, 2) := by decide +kernel
theorem dL_isList_290 : decode cL_isList 290 = .ok (.lload 10, 2) := by decide +kernel
theorem dL_isList_292 : decode cL_isList 292 = .ok (.iload 15, 2) := by decide +kernel
theorem dL_isList_294 : decode cL_isList 294 = .ok (.ifCond .eq 29, 3) := by decide +kernel
theorem dL_isList_297 : decode cL_isList 297 = .ok (.lload 10, 2) := by decide +kernel
theorem dL_isList_299 : decode cL_isList 299 = .ok (.ldc2_w 224, 3) := by decide +kernel
theorem dL_isList_302 : decode cL_isList 302 = .ok (.lcmp, 1) := by decide +kernel
theorem dL_isList_303 : decode cL_isList 303 = .ok (.ifCond .gt 20, 3) := by decide +kernel
theorem dL_isList_306 : decode cL_isList 306 = .ok (.aload_n 0, 1) := by decide +kernel
theorem dL_isList_307 : decode cL_isList 307 = .ok (.iconst 2, 1) := by decide +kernel
theorem dL_isList_308 : decode cL_isList 308 = .ok (.aload 7, 2) := by decide +kernel
theorem dL_isList_310 : decode cL_isList 310 = .ok (.iload 13, 2) := by decide +kernel
theorem dL_isList_312 : decode cL_isList 312 = .ok (.iaload, 1) := by decide +kernel
theorem dL_isList_313 : decode cL_isList 313 = .ok (.iconst 0, 1) := by decide +kernel
theorem dL_isList_314 : decode cL_isList 314 = .ok (.invokestatic 211, 3) := by decide +kernel
theorem dL_isList_317 : decode cL_isList 317 = .ok (.iconst 1, 1) := by decide +kernel
theorem dL_isList_318 : decode cL_isList 318 = .ok (.iadd, 1) := by decide +kernel
theorem dL_isList_319 : decode cL_isList 319 = .ok (.i2l, 1) := by decide +kernel
theorem dL_isList_320 : decode cL_isList 320 = .ok (.goto 4, 3) := by decide +kernel
theorem dL_isList_323 : decode cL_isList 323 = .ok (.lconst 1, 1) := by decide +kernel
theorem dL_isList_324 : decode cL_isList 324 = .ok (.lmul, 1) := by decide +kernel
theorem dL_isList_325 : decode cL_isList 325 = .ok (.lstore 10, 2) := by decide +kernel
theorem dL_isList_327 : decode cL_isList 327 = .ok (.iload 8, 2) := by decide +kernel
theorem dL_isList_329 : decode cL_isList 329 = .ok (.iload 15, 2) := by decide +kernel
theorem dL_isList_331 : decode cL_isList 331 = .ok (.ifCond .eq 7, 3) := by decide +kernel
theorem dL_isList_334 : decode cL_isList 334 = .ok (.iconst 1, 1) := by decide +kernel
theorem dL_isList_335 : decode cL_isList 335 = .ok (.goto 4, 3) := by decide +kernel
theorem dL_isList_338 : decode cL_isList 338 = .ok (.iconst 0, 1) := by decide +kernel
theorem dL_isList_339 : decode cL_isList 339 = .ok (.iadd, 1) := by decide +kernel
theorem dL_isList_340 : decode cL_isList 340 = .ok (.istore 8, 2) := by decide +kernel
theorem dL_isList_342 : decode cL_isList 342 = .ok (.iinc 13 1, 3) := by decide +kernel
theorem dL_isList_345 : decode cL_isList 345 = .ok (.goto (-187), 3) := by decide +kernel
theorem dL_isList_348 : decode cL_isList 348 = .ok (.iload 12, 2) := by decide +kernel
theorem dL_isList_350 : decode cL_isList 350 = .ok (.ifCond .eq 77, 3) := by decide +kernel
theorem dL_isList_353 : decode cL_isList 353 = .ok (.aload_n 0, 1) := by decide +kernel
theorem dL_isList_354 : decode cL_isList 354 = .ok (.bipush 13, 2) := by decide +kernel
theorem dL_isList_356 : decode cL_isList 356 = .ok (.iload_n 2, 1) := by decide +kernel
theorem dL_isList_357 : decode cL_isList 357 = .ok (.iconst 0, 1) := by decide +kernel
theorem dL_isList_358 : decode cL_isList 358 = .ok (.invokestatic 211, 3) := by decide +kernel
theorem dL_isList_361 : decode cL_isList 361 = .ok (.iload 8, 2) := by decide +kernel
theorem dL_isList_363 : decode cL_isList 363 = .ok (.if_icmp .ne 64, 3) := by decide +kernel
theorem dL_isList_366 : decode cL_isList 366 = .ok (.aload_n 0, 1) := by decide +kernel
theorem dL_isList_367 : decode cL_isList 367 = .ok (.bipush 14, 2) := by decide +kernel
theorem dL_isList_369 : decode cL_isList 369 = .ok (.iload_n 2, 1) := by decide +kernel
theorem dL_isList_370 : decode cL_isList 370 = .ok (.iload 8, 2) := by decide +kernel
theorem dL_isList_372 : decode cL_isList 372 = .ok (.invokestatic 211, 3) := by decide +kernel
theorem dL_isList_375 : decode cL_isList 375 = .ok (.sipush (-2001), 3) := by decide +kernel
theorem dL_isList_378 : decode cL_isList 378 = .ok (.if_icmp .ne 49, 3) := by decide +kernel
theorem dL_isList_381 : decode cL_isList 381 = .ok (.aload_n 0, 1) := by decide +kernel
theorem dL_isList_382 : decode cL_isList 382 = .ok (.bipush 17, 2) := by decide +kernel
theorem dL_isList_384 : decode cL_isList 384 = .ok (.iload_n 2, 1) := by decide +kernel
theorem dL_isList_385 : decode cL_isList 385 = .ok (.iconst 0, 1) := by decide +kernel
theorem dL_isList_386 : decode cL_isList 386 = .ok (.invokestatic 211, 3) := by decide +kernel
theorem dL_isList_389 : decode cL_isList 389 = .ok (.iload 9, 2) := by decide +kernel
theorem dL_isList_391 : decode cL_isList 391 = .ok (.if_icmp .ne 36, 3) := by decide +kernel
theorem dL_isList_394 : decode cL_isList 394 = .ok (.aload_n 0, 1) := by decide +kernel
theorem dL_isList_395 : decode cL_isList 395 = .ok (.bipush 20, 2) := by decide +kernel
theorem dL_isList_397 : decode cL_isList 397 = .ok (.iload_n 2, 1) := by decide +kernel
theorem dL_isList_398 : decode cL_isList 398 = .ok (.iconst 0, 1) := by decide +kernel
theorem dL_isList_399 : decode cL_isList 399 = .ok (.invokestatic 211, 3) := by decide +kernel
theorem dL_isList_402 : decode cL_isList 402 = .ok (.lload 10, 2) := by decide +kernel
theorem dL_isList_404 : decode cL_isList 404 = .ok (.ldc2_w 224, 3) := by decide +kernel
theorem dL_isList_407 : decode cL_isList 407 = .ok (.lcmp, 1) := by decide +kernel
theorem dL_isList_408 : decode cL_isList 408 = .ok (.ifCond .le 9, 3) := by decide +kernel
theorem dL_isList_411 : decode cL_isList 411 = .ok (.sipush (-2006), 3) := by decide +kernel
theorem dL_isList_414 : decode cL_isList 414 = .ok (.goto 6, 3) := by decide +kernel
theorem dL_isList_417 : decode cL_isList 417 = .ok (.lload 10, 2) := by decide +kernel
theorem dL_isList_419 : decode cL_isList 419 = .ok (.l2i, 1) := by decide +kernel
theorem dL_isList_420 : decode cL_isList 420 = .ok (.if_icmp .ne 7, 3) := by decide +kernel
theorem dL_isList_423 : decode cL_isList 423 = .ok (.iconst 1, 1) := by decide +kernel
theorem dL_isList_424 : decode cL_isList 424 = .ok (.goto 4, 3) := by decide +kernel
theorem dL_isList_427 : decode cL_isList 427 = .ok (.iconst 0, 1) := by decide +kernel
theorem dL_isList_428 : decode cL_isList 428 = .ok (.istore 12, 2) := by decide +kernel
theorem dL_isList_430 : decode cL_isList 430 = .ok (.iconst 0, 1) := by decide +kernel
theorem dL_isList_431 : decode cL_isList 431 = .ok (.istore 13, 2) := by decide +kernel
theorem dL_isList_433 : decode cL_isList 433 = .ok (.iconst 0, 1) := by decide +kernel
theorem dL_isList_434 : decode cL_isList 434 = .ok (.istore 14, 2) := by decide +kernel
theorem dL_isList_436 : decode cL_isList 436 = .ok (.iload 14, 2) := by decide +kernel
theorem dL_isList_438 : decode cL_isList 438 = .ok (.aload_n 1, 1) := by decide +kernel
theorem dL_isList_439 : decode cL_isList 439 = .ok (.iconst 0, 1) := by decide +kernel
theorem dL_isList_440 : decode cL_isList 440 = .ok (.iaload, 1) := by decide +kernel
theorem dL_isList_441 : decode cL_isList 441 = .ok (.if_icmp .ge 97, 3) := by decide +kernel
theorem dL_isList_444 : decode cL_isList 444 = .ok (.iload 12, 2) := by decide +kernel
theorem dL_isList_446 : decode cL_isList 446 = .ok (.ifCond .eq 92, 3) := by decide +kernel
theorem dL_isList_449 : decode cL_isList 449 = .ok (.aload_n 0, 1) := by decide +kernel
theorem dL_isList_450 : decode cL_isList 450 = .ok (.bipush 15, 2) := by decide +kernel
theorem dL_isList_452 : decode cL_isList 452 = .ok (.iload_n 2, 1) := by decide +kernel
theorem dL_isList_453 : decode cL_isList 453 = .ok (.iload 14, 2) := by decide +kernel
theorem dL_isList_455 : decode cL_isList 455 = .ok (.invokestatic 211, 3) := by decide +kernel
theorem dL_isList_458 : decode cL_isList 458 = .ok (.istore 15, 2) := by decide +kernel
theorem dL_isList_460 : decode cL_isList 460 = .ok (.iload 15, 2) := by decide +kernel
theorem dL_isList_462 : decode cL_isList 462 = .ok (.aload_n 0, 1) := by decide +kernel
theorem dL_isList_463 : decode cL_isList 463 = .ok (.bipush 16, 2) := by decide +kernel
theorem dL_isList_465 : decode cL_isList 465 = .ok (.iload_n 2, 1) := by decide +kernel
theorem dL_isList_466 : decode cL_isList 466 = .ok (.iload 14, 2) := by decide +kernel
theorem dL_isList_468 : decode cL_isList 468 = .ok (.invokestatic 211, 3) := by decide +kernel
theorem dL_isList_471 : decode cL_isList 471 = .ok (.if_icmp .ne 42, 3) := by decide +kernel
theorem dL_isList_474 : decode cL_isList 474 = .ok (.iload 15, 2) := by decide +kernel
theorem dL_isList_476 : decode cL_isList 476 = .ok (.sipush (-2005), 3) := by decide +kernel
theorem dL_isList_479 : decode cL_isList 479 = .ok (.if_icmp .ne 7, 3) := by decide +kernel
theorem dL_isList_482 : decode cL_isList 482 = .ok (.iconst 1, 1) := by decide +kernel
theorem dL_isList_483 : decode cL_isList 483 = .ok (.goto 4, 3) := by decide +kernel
theorem dL_isList_486 : decode cL_isList 486 = .ok (.iconst 0, 1) := by decide +kernel
theorem dL_isList_487 : decode cL_isList 487 = .ok (.aload_n 0, 1) := by decide +kernel
theorem dL_isList_488 : decode cL_isList 488 = .ok (.iconst 0, 1) := by decide +kernel
theorem dL_isList_489 : decode cL_isList 489 = .ok (.iload 14, 2) := by decide +kernel
theorem dL_isList_491 : decode cL_isList 491 = .ok (.iconst 0, 1) := by decide +kernel
theorem dL_isList_492 : decode cL_isList 492 = .ok (.invokestatic 211, 3) := by decide +kernel
theorem dL_isList_495 : decode cL_isList 495 = .ok (.sipush (-2005), 3) := by decide +kernel
theorem dL_isList_498 : decode cL_isList 498 = .ok (.if_icmp .ne 7, 3) := by decide +kernel
theorem dL_isList_501 : decode cL_isList 501 = .ok (.iconst 1, 1) := by decide +kernel
theorem dL_isList_502 : decode cL_isList 502 = .ok (.goto 4, 3) := by decide +kernel
theorem dL_isList_505 : decode cL_isList 505 = .ok (.iconst 0, 1) := by decide +kernel
theorem dL_isList_506 : decode cL_isList 506 = .ok (.if_icmp .ne 7, 3) := by decide +kernel
theorem dL_isList_509 : decode cL_isList 509 = .ok (.iconst 1, 1) := by decide +kernel
theorem dL_isList_510 : decode cL_isList 510 = .ok (.goto 4, 3) := by decide +kernel
theorem dL_isList_513 : decode cL_isList 513 = .ok (.iconst 0, 1) := by decide +kernel
theorem dL_isList_514 : decode cL_isList 514 = .ok (.istore 12, 2) := by decide +kernel
theorem dL_isList_516 : decode cL_isList 516 = .ok (.iload 13, 2) := by decide +kernel
theorem dL_isList_518 : decode cL_isList 518 = .ok (.iload 15, 2) := by decide +kernel
theorem dL_isList_520 : decode cL_isList 520 = .ok (.iconst 1, 1) := by decide +kernel
theorem dL_isList_521 : decode cL_isList 521 = .ok (.if_icmp .ne 7, 3) := by decide +kernel
theorem dL_isList_524 : decode cL_isList 524 = .ok (.iconst 1, 1) := by decide +kernel
theorem dL_isList_525 : decode cL_isList 525 = .ok (.goto 4, 3) := by decide +kernel
theorem dL_isList_528 : decode cL_isList 528 = .ok (.iconst 0, 1) := by decide +kernel
theorem dL_isList_529 : decode cL_isList 529 = .ok (.iadd, 1) := by decide +kernel
theorem dL_isList_530 : decode cL_isList 530 = .ok (.istore 13, 2) := by decide +kernel
theorem dL_isList_532 : decode cL_isList 532 = .ok (.iinc 14 1, 3) := by decide +kernel
theorem dL_isList_535 : decode cL_isList 535 = .ok (.goto (-99), 3) := by decide +kernel
theorem dL_isList_538 : decode cL_isList 538 = .ok (.iload 12, 2) := by decide +kernel
theorem dL_isList_540 : decode cL_isList 540 = .ok (.ifCond .eq 48, 3) := by decide +kernel
theorem dL_isList_543 : decode cL_isList 543 = .ok (.iload 13, 2) := by decide +kernel
theorem dL_isList_545 : decode cL_isList 545 = .ok (.iload 8, 2) := by decide +kernel
theorem dL_isList_547 : decode cL_isList 547 = .ok (.if_icmp .ne 41, 3) := by decide +kernel
theorem dL_isList_550 : decode cL_isList 550 = .ok (.iload 8, 2) := by decide +kernel
theorem dL_isList_552 : decode cL_isList 552 = .ok (.ifCond .eq 19, 3) := by decide +kernel
theorem dL_isList_555 : decode cL_isList 555 = .ok (.aload_n 0, 1) := by decide +kernel
theorem dL_isList_556 : decode cL_isList 556 = .ok (.iload_n 2, 1) := by decide +kernel
theorem dL_isList_557 : decode cL_isList 557 = .ok (.invokevirtual 226, 3) := by decide +kernel
theorem dL_isList_560 : decode cL_isList 560 = .ok (.iload 9, 2) := by decide +kernel
theorem dL_isList_562 : decode cL_isList 562 = .ok (.i2d, 1) := by decide +kernel
theorem dL_isList_563 : decode cL_isList 563 = .ok (.iload 8, 2) := by decide +kernel
theorem dL_isList_565 : decode cL_isList 565 = .ok (.i2d, 1) := by decide +kernel
theorem dL_isList_566 : decode cL_isList 566 = .ok (.ddiv, 1) := by decide +kernel
theorem dL_isList_567 : decode cL_isList 567 = .ok (.dcmp .l, 1) := by decide +kernel
theorem dL_isList_568 : decode cL_isList 568 = .ok (.ifCond .ne 20, 3) := by decide +kernel
theorem dL_isList_571 : decode cL_isList 571 = .ok (.aload_n 0, 1) := by decide +kernel
theorem dL_isList_572 : decode cL_isList 572 = .ok (.bipush 18, 2) := by decide +kernel
theorem dL_isList_574 : decode cL_isList 574 = .ok (.iload_n 2, 1) := by decide +kernel
theorem dL_isList_575 : decode cL_isList 575 = .ok (.iload_n 2, 1) := by decide +kernel
theorem dL_isList_576 : decode cL_isList 576 = .ok (.invokestatic 211, 3) := by decide +kernel
theorem dL_isList_579 : decode cL_isList 579 = .ok (.iload 8, 2) := by decide +kernel
theorem dL_isList_581 : decode cL_isList 581 = .ok (.if_icmp .ne 7, 3) := by decide +kernel
theorem dL_isList_584 : decode cL_isList 584 = .ok (.iconst 1, 1) := by decide +kernel
theorem dL_isList_585 : decode cL_isList 585 = .ok (.goto 4, 3) := by decide +kernel
theorem dL_isList_588 : decode cL_isList 588 = .ok (.iconst 0, 1) := by decide +kernel
theorem dL_isList_589 : decode cL_isList 589 = .ok (.ireturn, 1) := by decide +kernel
