theorem dL_areSound_74 : decode cL_areSound 74 = .ok (.iload 7, 2) := by decide +kernel
theorem dL_areSound_76 : decode cL_areSound 76 = .ok (.imul, 1) := by decide +kernel
theorem dL_areSound_77 : decode cL_areSound 77 = .ok (.iaload, 1) := by decide +kernel
theorem dL_areSound_78 : decode cL_areSound 78 = .ok (.iadd, 1) := by decide +kernel
theorem dL_areSound_79 : decode cL_areSound 79 = .ok (.istore 6, 2) := by decide +kernel
theorem dL_areSound_81 : decode cL_areSound 81 = .ok (.iload 8, 2) := by decide +kernel
theorem dL_areSound_83 : decode cL_areSound 83 = .ok (.bipush 15, 2) := by decide +kernel
theorem dL_areSound_85 : decode cL_areSound 85 = .ok (.if_icmp .le 68, 3) := by decide +kernel
theorem dL_areSound_88 : decode cL_areSound 88 = .ok (.iload 8, 2) := by decide +kernel
theorem dL_areSound_90 : decode cL_areSound 90 = .ok (.sipush 256, 3) := by decide +kernel
theorem dL_areSound_93 : decode cL_areSound 93 = .ok (.if_icmp .ge 60, 3) := by decide +kernel
theorem dL_areSound_96 : decode cL_areSound 96 = .ok (.iload 9, 2) := by decide +kernel
theorem dL_areSound_98 : decode cL_areSound 98 = .ok (.bipush (-4), 2) := by decide +kernel
theorem dL_areSound_100 : decode cL_areSound 100 = .ok (.if_icmp .le 53, 3) := by decide +kernel
theorem dL_areSound_103 : decode cL_areSound 103 = .ok (.iload 9, 2) := by decide +kernel
theorem dL_areSound_105 : decode cL_areSound 105 = .ok (.iconst 4, 1) := by decide +kernel
theorem dL_areSound_106 : decode cL_areSound 106 = .ok (.if_icmp .ge 47, 3) := by decide +kernel
theorem dL_areSound_109 : decode cL_areSound 109 = .ok (.iload 11, 2) := by decide +kernel
theorem dL_areSound_111 : decode cL_areSound 111 = .ok (.sipush (-651), 3) := by decide +kernel
theorem dL_areSound_114 : decode cL_areSound 114 = .ok (.if_icmp .lt 39, 3) := by decide +kernel
theorem dL_areSound_117 : decode cL_areSound 117 = .ok (.iload 11, 2) := by decide +kernel
theorem dL_areSound_119 : decode cL_areSound 119 = .ok (.sipush 650, 3) := by decide +kernel
theorem dL_areSound_122 : decode cL_areSound 122 = .ok (.if_icmp .gt 31, 3) := by decide +kernel
theorem dL_areSound_125 : decode cL_areSound 125 = .ok (.aload_n 1, 1) := by decide +kernel
theorem dL_areSound_126 : decode cL_areSound 126 = .ok (.iconst 0, 1) := by decide +kernel
theorem dL_areSound_127 : decode cL_areSound 127 = .ok (.iaload, 1) := by decide +kernel
theorem dL_areSound_128 : decode cL_areSound 128 = .ok (.iconst 1, 1) := by decide +kernel
theorem dL_areSound_129 : decode cL_areSound 129 = .ok (.isub, 1) := by decide +kernel
theorem dL_areSound_130 : decode cL_areSound 130 = .ok (.iload 10, 2) := by decide +kernel
theorem dL_areSound_132 : decode cL_areSound 132 = .ok (.isub, 1) := by decide +kernel
theorem dL_areSound_133 : decode cL_areSound 133 = .ok (.aload_n 2, 1) := by decide +kernel
theorem dL_areSound_134 : decode cL_areSound 134 = .ok (.iconst 2, 1) := by decide +kernel
theorem dL_areSound_135 : decode cL_areSound 135 = .ok (.iload 7, 2) := by decide +kernel
theorem dL_areSound_137 : decode cL_areSound 137 = .ok (.imul, 1) := by decide +kernel
theorem dL_areSound_138 : decode cL_areSound 138 = .ok (.iconst 1, 1) := by decide +kernel
theorem dL_areSound_139 : decode cL_areSound 139 = .ok (.iadd, 1) := by decide +kernel
theorem dL_areSound_140 : decode cL_areSound 140 = .ok (.iaload, 1) := by decide +kernel
theorem dL_areSound_141 : decode cL_areSound 141 = .ok (.if_icmp .ge 8, 3) := by decide +kernel
theorem dL_areSound_144 : decode cL_areSound 144 = .ok (.iload 11, 2) := by decide +kernel
theorem dL_areSound_146 : decode cL_areSound 146 = .ok (.ifCond .ne 7, 3) := by decide +kernel
theorem dL_areSound_149 : decode cL_areSound 149 = .ok (.iconst 1, 1) := by decide +kernel
theorem dL_areSound_150 : decode cL_areSound 150 = .ok (.goto 4, 3) := by decide +kernel
theorem dL_areSound_153 : decode cL_areSound 153 = .ok (.iconst 0, 1) := by decide +kernel
theorem dL_areSound_154 : decode cL_areSound 154 = .ok (.istore 5, 2) := by decide +kernel
theorem dL_areSound_156 : decode cL_areSound 156 = .ok (.iinc 7 1, 3) := by decide +kernel
theorem dL_areSound_159 : decode cL_areSound 159 = .ok (.goto (-136), 3) := by decide +kernel
theorem dL_areSound_162 : decode cL_areSound 162 = .ok (.iload 5, 2) := by decide +kernel
theorem dL_areSound_164 : decode cL_areSound 164 = .ok (.ifCond .eq 8, 3) := by decide +kernel
theorem dL_areSound_167 : decode cL_areSound 167 = .ok (.iload 4, 2) := by decide +kernel
theorem dL_areSound_169 : decode cL_areSound 169 = .ok (.ifCond .ne 6, 3) := by decide +kernel
theorem dL_areSound_172 : decode cL_areSound 172 = .ok (.iload 5, 2) := by decide +kernel
theorem dL_areSound_174 : decode cL_areSound 174 = .ok (.ireturn, 1) := by decide +kernel
theorem dL_areSound_175 : decode cL_areSound 175 = .ok (.iload_n 3, 1) := by decide +kernel
theorem dL_areSound_176 : decode cL_areSound 176 = .ok (.bipush 9, 2) := by decide +kernel
theorem dL_areSound_178 : decode cL_areSound 178 = .ok (.irem, 1) := by decide +kernel
theorem dL_areSound_179 : decode cL_areSound 179 = .ok (.iconst 4, 1) := by decide +kernel
theorem dL_areSound_180 : decode cL_areSound 180 = .ok (.isub, 1) := by decide +kernel
theorem dL_areSound_181 : decode cL_areSound 181 = .ok (.istore 7, 2) := by decide +kernel
theorem dL_areSound_183 : decode cL_areSound 183 = .ok (.lconst 0, 1) := by decide +kernel
theorem dL_areSound_184 : decode cL_areSound 184 = .ok (.lstore 8, 2) := by decide +kernel
theorem dL_areSound_186 : decode cL_areSound 186 = .ok (.bipush 16, 2) := by decide +kernel
theorem dL_areSound_188 : decode cL_areSound 188 = .ok (.istore 10, 2) := by decide +kernel
theorem dL_areSound_190 : decode cL_areSound 190 = .ok (.iload 10, 2) := by decide +kernel
theorem dL_areSound_192 : decode cL_areSound 192 = .ok (.bipush 48, 2) := by decide +kernel
theorem dL_areSound_194 : decode cL_areSound 194 = .ok (.if_icmp .ge 29, 3) := by decide +kernel
theorem dL_areSound_197 : decode cL_areSound 197 = .ok (.aload_n 0, 1) := by decide +kernel
theorem dL_areSound_198 : decode cL_areSound 198 = .ok (.iload 7, 2) := by decide +kernel
theorem dL_areSound_200 : decode cL_areSound 200 = .ok (.iload 10, 2) := by decide +kernel
theorem dL_areSound_202 : decode cL_areSound 202 = .ok (.invokevirtual 58, 3) := by decide +kernel
theorem dL_areSound_205 : decode cL_areSound 205 = .ok (.lstore 11, 2) := by decide +kernel
theorem dL_areSound_207 : decode cL_areSound 207 = .ok (.lload 8, 2) := by decide +kernel
theorem dL_areSound_209 : decode cL_areSound 209 = .ok (.lload 11, 2) := by decide +kernel
theorem dL_areSound_211 : decode cL_areSound 211 = .ok (.lload 11, 2) := by decide +kernel
theorem dL_areSound_213 : decode cL_areSound 213 = .ok (.lmul, 1) := by decide +kernel
theorem dL_areSound_214 : decode cL_areSound 214 = .ok (.ladd, 1) := by decide +kernel
theorem dL_areSound_215 : decode cL_areSound 215 = .ok (.lstore 8, 2) := by decide +kernel
theorem dL_areSound_217 : decode cL_areSound 217 = .ok (.iinc 10 1, 3) := by decide +kernel
theorem dL_areSound_220 : decode cL_areSound 220 = .ok (.goto (-30), 3) := by decide +kernel
theorem dL_areSound_223 : decode cL_areSound 223 = .ok (.lconst 0, 1) := by decide +kernel
theorem dL_areSound_224 : decode cL_areSound 224 = .ok (.lstore 10, 2) := by decide +kernel
theorem dL_areSound_226 : decode cL_areSound 226 = .ok (.bipush (-99), 2) := by decide +kernel
theorem dL_areSound_228 : decode cL_areSound 228 = .ok (.istore 12, 2) := by decide +kernel
theorem dL_areSound_230 : decode cL_areSound 230 = .ok (.bipush (-4), 2) := by decide +kernel
theorem dL_areSound_232 : decode cL_areSound 232 = .ok (.istore 13, 2) := by decide +kernel
theorem dL_areSound_234 : decode cL_areSound 234 = .ok (.iload 13, 2) := by decide +kernel
theorem dL_areSound_236 : decode cL_areSound 236 = .ok (.iconst 5, 1) := by decide +kernel
theorem dL_areSound_237 : decode cL_areSound 237 = .ok (.if_icmp .ge 82, 3) := by decide +kernel
theorem dL_areSound_240 : decode cL_areSound 240 = .ok (.iload 5, 2) := by decide +kernel
theorem dL_areSound_242 : decode cL_areSound 242 = .ok (.ifCond .eq 77, 3) := by decide +kernel
theorem dL_areSound_245 : decode cL_areSound 245 = .ok (.aload_n 0, 1) := by decide +kernel
theorem dL_areSound_246 : decode cL_areSound 246 = .ok (.iload 13, 2) := by decide +kernel
theorem dL_areSound_248 : decode cL_areSound 248 = .ok (.invokevirtual 62, 3) := by decide +kernel
theorem dL_areSound_251 : decode cL_areSound 251 = .ok (.lstore 14, 2) := by decide +kernel
theorem dL_areSound_253 : decode cL_areSound 253 = .ok (.lload 14, 2) := by decide +kernel
theorem dL_areSound_255 : decode cL_areSound 255 = .ok (.lconst 0, 1) := by decide +kernel
theorem dL_areSound_256 : decode cL_areSound 256 = .ok (.lcmp, 1) := by decide +kernel
theorem dL_areSound_257 : decode cL_areSound 257 = .ok (.ifCond .lt 19, 3) := by decide +kernel
theorem dL_areSound_260 : decode cL_areSound 260 = .ok (.iload 6, 2) := by decide +kernel
theorem dL_areSound_262 : decode cL_areSound 262 = .ok (.ifCond .gt 10, 3) := by decide +kernel
theorem dL_areSound_265 : decode cL_areSound 265 = .ok (.lload 14, 2) := by decide +kernel
theorem dL_areSound_267 : decode cL_areSound 267 = .ok (.lconst 0, 1) := by decide +kernel
theorem dL_areSound_268 : decode cL_areSound 268 = .ok (.lcmp, 1) := by decide +kernel
theorem dL_areSound_269 : decode cL_areSound 269 = .ok (.ifCond .ne 7, 3) := by decide +kernel
theorem dL_areSound_272 : decode cL_areSound 272 = .ok (.iconst 1, 1) := by decide +kernel
theorem dL_areSound_273 : decode cL_areSound 273 = .ok (.goto 4, 3) := by decide +kernel
theorem dL_areSound_276 : decode cL_areSound 276 = .ok (.iconst 0, 1) := by decide +kernel
theorem dL_areSound_277 : decode cL_areSound 277 = .ok (.istore 5, 2) := by decide +kernel
theorem dL_areSound_279 : decode cL_areSound 279 = .ok (.lload 14, 2) := by decide +kernel
theorem dL_areSound_281 : decode cL_areSound 281 = .ok (.lload 10, 2) := by decide +kernel
theorem dL_areSound_283 : decode cL_areSound 283 = .ok (.lcmp, 1) := by decide +kernel
theorem dL_areSound_284 : decode cL_areSound 284 = .ok (.ifCond .le 8, 3) := by decide +kernel
theorem dL_areSound_287 : decode cL_areSound 287 = .ok (.iload 13, 2) := by decide +kernel
theorem dL_areSound_289 : decode cL_areSound 289 = .ok (.goto 5, 3) := by decide +kernel
theorem dL_areSound_292 : decode cL_areSound 292 = .ok (.iload 12, 2) := by decide +kernel
theorem dL_areSound_294 : decode cL_areSound 294 = .ok (.istore 12, 2) := by decide +kernel
theorem dL_areSound_296 : decode cL_areSound 296 = .ok (.lload 14, 2) := by decide +kernel
theorem dL_areSound_298 : decode cL_areSound 298 = .ok (.lload 10, 2) := by decide +kernel
theorem dL_areSound_300 : decode cL_areSound 300 = .ok (.lcmp, 1) := by decide +kernel
theorem dL_areSound_301 : decode cL_areSound 301 = .ok (.ifCond .le 8, 3) := by decide +kernel
theorem dL_areSound_304 : decode cL_areSound 304 = .ok (.lload 14, 2) := by decide +kernel
theorem dL_areSound_306 : decode cL_areSound 306 = .ok (.goto 5, 3) := by decide +kernel
theorem dL_areSound_309 : decode cL_areSound 309 = .ok (.lload 10, 2) := by decide +kernel
theorem dL_areSound_311 : decode cL_areSound 311 = .ok (.lstore 10, 2) := by decide +kernel
theorem dL_areSound_313 : decode cL_areSound 313 = .ok (.iinc 13 1, 3) := by decide +kernel
theorem dL_areSound_316 : decode cL_areSound 316 = .ok (.goto (-82), 3) := by decide +kernel
theorem dL_areSound_319 : decode cL_areSound 319 = .ok (.aload_n 0, 1) := by decide +kernel
theorem dL_areSound_320 : decode cL_areSound 320 = .ok (.iconst 1, 1) := by decide +kernel
theorem dL_areSound_321 : decode cL_areSound 321 = .ok (.invokevirtual 39, 3) := by decide +kernel
theorem dL_areSound_324 : decode cL_areSound 324 = .ok (.istore 13, 2) := by decide +kernel
theorem dL_areSound_326 : decode cL_areSound 326 = .ok (.aload_n 0, 1) := by decide +kernel
theorem dL_areSound_327 : decode cL_areSound 327 = .ok (.iconst 1, 1) := by decide +kernel
theorem dL_areSound_328 : decode cL_areSound 328 = .ok (.iload_n 3, 1) := by decide +kernel
theorem dL_areSound_329 : decode cL_areSound 329 = .ok (.bipush 100, 2) := by decide +kernel
theorem dL_areSound_331 : decode cL_areSound 331 = .ok (.irem, 1) := by decide +kernel
theorem dL_areSound_332 : decode cL_areSound 332 = .ok (.iadd, 1) := by decide +kernel
theorem dL_areSound_333 : decode cL_areSound 333 = .ok (.invokevirtual 39, 3) := by decide +kernel
theorem dL_areSound_336 : decode cL_areSound 336 = .ok (.istore 14, 2) := by decide +kernel
theorem dL_areSound_338 : decode cL_areSound 338 = .ok (.iload 5, 2) := by decide +kernel
theorem dL_areSound_340 : decode cL_areSound 340 = .ok (.ifCond .eq 104, 3) := by decide +kernel
theorem dL_areSound_343 : decode cL_areSound 343 = .ok (.aload_n 0, 1) := by decide +kernel
theorem dL_areSound_344 : decode cL_areSound 344 = .ok (.iload 7, 2) := by decide +kernel
theorem dL_areSound_346 : decode cL_areSound 346 = .ok (.invokevirtual 62, 3) := by decide +kernel
theorem dL_areSound_349 : decode cL_areSound 349 = .ok (.lload 8, 2) := by decide +kernel
theorem dL_areSound_351 : decode cL_areSound 351 = .ok (.lcmp, 1) := by decide +kernel
theorem dL_areSound_352 : decode cL_areSound 352 = .ok (.ifCond .ne 92, 3) := by decide +kernel
theorem dL_areSound_355 : decode cL_areSound 355 = .ok (.aload_n 0, 1) := by decide +kernel
theorem dL_areSound_356 : decode cL_areSound 356 = .ok (.iload 7, 2) := by decide +kernel
theorem dL_areSound_358 : decode cL_areSound 358 = .ok (.invokevirtual 66, 3) := by decide +kernel
theorem dL_areSound_361 : decode cL_areSound 361 = .ok (.lload 8, 2) := by decide +kernel
theorem dL_areSound_363 : decode cL_areSound 363 = .ok (.lcmp, 1) := by decide +kernel
theorem dL_areSound_364 : decode cL_areSound 364 = .ok (.ifCond .ne 80, 3) := by decide +kernel
theorem dL_areSound_367 : decode cL_areSound 367 = .ok (.aload_n 0, 1) := by decide +kernel
theorem dL_areSound_368 : decode cL_areSound 368 = .ok (.iconst 0, 1) := by decide +kernel
theorem dL_areSound_369 : decode cL_areSound 369 = .ok (.invokevirtual 42, 3) := by decide +kernel
theorem dL_areSound_372 : decode cL_areSound 372 = .ok (.iload 12, 2) := by decide +kernel
theorem dL_areSound_374 : decode cL_areSound 374 = .ok (.if_icmp .ne 70, 3) := by decide +kernel
theorem dL_areSound_377 : decode cL_areSound 377 = .ok (.iload 14, 2) := by decide +kernel
theorem dL_areSound_379 : decode cL_areSound 379 = .ok (.ifCond .lt 65, 3) := by decide +kernel
theorem dL_areSound_382 : decode cL_areSound 382 = .ok (.iload 14, 2) := by decide +kernel
theorem dL_areSound_384 : decode cL_areSound 384 = .ok (.iload 13, 2) := by decide +kernel
theorem dL_areSound_386 : decode cL_areSound 386 = .ok (.if_icmp .gt 58, 3) := by decide +kernel
theorem dL_areSound_389 : decode cL_areSound 389 = .ok (.iload 13, 2) := by decide +kernel
theorem dL_areSound_391 : decode cL_areSound 391 = .ok (.iconst 5, 1) := by decide +kernel
theorem dL_areSound_392 : decode cL_areSound 392 = .ok (.if_icmp .gt 52, 3) := by decide +kernel
theorem dL_areSound_395 : decode cL_areSound 395 = .ok (.aload_n 0, 1) := by decide +kernel
theorem dL_areSound_396 : decode cL_areSound 396 = .ok (.bipush 100, 2) := by decide +kernel
theorem dL_areSound_398 : decode cL_areSound 398 = .ok (.invokevirtual 39, 3) := by decide +kernel
theorem dL_areSound_401 : decode cL_areSound 401 = .ok (.iload 14, 2) := by decide +kernel
theorem dL_areSound_403 : decode cL_areSound 403 = .ok (.if_icmp .gt 41, 3) := by decide +kernel
theorem dL_areSound_406 : decode cL_areSound 406 = .ok (.iload 12, 2) := by decide +kernel
theorem dL_areSound_408 : decode cL_areSound 408 = .ok (.bipush (-99), 2) := by decide +kernel
theorem dL_areSound_410 : decode cL_areSound 410 = .ok (.if_icmp .ne 17, 3) := by decide +kernel
theorem dL_areSound_413 : decode cL_areSound 413 = .ok (.aload_n 0, 1) := by decide +kernel
theorem dL_areSound_414 : decode cL_areSound 414 = .ok (.iconst 1, 1) := by decide +kernel
theorem dL_areSound_415 : decode cL_areSound 415 = .ok (.iload_n 3, 1) := by decide +kernel
theorem dL_areSound_416 : decode cL_areSound 416 = .ok (.iconst 5, 1) := by decide +kernel
theorem dL_areSound_417 : decode cL_areSound 417 = .ok (.irem, 1) := by decide +kernel
theorem dL_areSound_418 : decode cL_areSound 418 = .ok (.iadd, 1) := by decide +kernel
theorem dL_areSound_419 : decode cL_areSound 419 = .ok (.invokevirtual 42, 3) := by decide +kernel
theorem dL_areSound_422 : decode cL_areSound 422 = .ok (.bipush (-99), 2) := by decide +kernel
theorem dL_areSound_424 : decode cL_areSound 424 = .ok (.if_icmp .ne 20, 3) := by decide +kernel
theorem dL_areSound_427 : decode cL_areSound 427 = .ok (.aload_n 1, 1) := by decide +kernel
theorem dL_areSound_428 : decode cL_areSound 428 = .ok (.iconst 0, 1) := by decide +kernel
theorem dL_areSound_429 : decode cL_areSound 429 = .ok (.iaload, 1) := by decide +kernel
theorem dL_areSound_430 : decode cL_areSound 430 = .ok (.ifCond .gt 10, 3) := by decide +kernel
theorem dL_areSound_433 : decode cL_areSound 433 = .ok (.lload 10, 2) := by decide +kernel
theorem dL_areSound_435 : decode cL_areSound 435 = .ok (.lconst 0, 1) := by decide +kernel
theorem dL_areSound_436 : decode cL_areSound 436 = .ok (.lcmp, 1) := by decide +kernel
theorem dL_areSound_437 : decode cL_areSound 437 = .ok (.ifCond .ne 7, 3) := by decide +kernel
theorem dL_areSound_440 : decode cL_areSound 440 = .ok (.iconst 1, 1) := by decide +kernel
theorem dL_areSound_441 : decode cL_areSound 441 = .ok (.goto 4, 3) := by decide +kernel
theorem dL_areSound_444 : decode cL_areSound 444 = .ok (.iconst 0, 1) := by decide +kernel
theorem dL_areSound_445 : decode cL_areSound 445 = .ok (.ireturn, 1) := by decide +kernel
theorem dL_law_0 : decode cL_law 0 = .ok (.new 10, 3) := by decide +kernel
theorem dL_law_3 : decode cL_law 3 = .ok (.dup, 1) := by decide +kernel
theorem dL_law_4 : decode cL_law 4 = .ok (.invokespecial 96, 3) := by decide +kernel
theorem dL_law_7 : decode cL_law 7 = .ok (.astore_n 1, 1) := by decide +kernel
theorem dL_law_8 : decode cL_law 8 = .ok (.iconst 5, 1) := by decide +kernel
theorem dL_law_9 : decode cL_law 9 = .ok (.newarray .int, 2) := by decide +kernel
theorem dL_law_11 : decode cL_law 11 = .ok (.astore_n 2, 1) := by decide +kernel
theorem dL_law_12 : decode cL_law 12 = .ok (.bipush 16, 2) := by decide +kernel
theorem dL_law_14 : decode cL_law 14 = .ok (.newarray .int, 2) := by decide +kernel
theorem dL_law_16 : decode cL_law 16 = .ok (.astore_n 3, 1) := by decide +kernel
theorem dL_law_17 : decode cL_law 17 = .ok (.aload_n 1, 1) := by decide +kernel
theorem dL_law_18 : decode cL_law 18 = .ok (.aload_n 2, 1) := by decide +kernel
theorem dL_law_19 : decode cL_law 19 = .ok (.iconst 0, 1) := by decide +kernel
theorem dL_law_20 : decode cL_law 20 = .ok (.invokestatic 97, 3) := by decide +kernel
theorem dL_law_23 : decode cL_law 23 = .ok (.ifCond .eq 27, 3) := by decide +kernel
theorem dL_law_26 : decode cL_law 26 = .ok (.aload_n 1, 1) := by decide +kernel
theorem dL_law_27 : decode cL_law 27 = .ok (.aload_n 2, 1) := by decide +kernel
theorem dL_law_28 : decode cL_law 28 = .ok (.iconst 1, 1) := by decide +kernel
theorem dL_law_29 : decode cL_law 29 = .ok (.invokestatic 97, 3) := by decide +kernel
theorem dL_law_32 : decode cL_law 32 = .ok (.ifCond .eq 18, 3) := by decide +kernel
theorem dL_law_35 : decode cL_law 35 = .ok (.aload_n 1, 1) := by decide +kernel
theorem dL_law_36 : decode cL_law 36 = .ok (.aload_n 2, 1) := by decide +kernel
theorem dL_law_37 : decode cL_law 37 = .ok (.aload_n 3, 1) := by decide +kernel
theorem dL_law_38 : decode cL_law 38 = .ok (.iconst 0, 1) := by decide +kernel
theorem dL_law_39 : decode cL_law 39 = .ok (.iconst 1, 1) := by decide +kernel
theorem dL_law_40 : decode cL_law 40 = .ok (.invokestatic 101, 3) := by decide +kernel
theorem dL_law_43 : decode cL_law 43 = .ok (.ifCond .eq 7, 3) := by decide +kernel
theorem dL_law_46 : decode cL_law 46 = .ok (.iconst 1, 1) := by decide +kernel
theorem dL_law_47 : decode cL_law 47 = .ok (.goto 4, 3) := by decide +kernel
theorem dL_law_50 : decode cL_law 50 = .ok (.iconst 0, 1) := by decide +kernel
theorem dL_law_51 : decode cL_law 51 = .ok (.istore 4, 2) := by decide +kernel
theorem dL_law_53 : decode cL_law 53 = .ok (.iconst 0, 1) := by decide +kernel
theorem dL_law_54 : decode cL_law 54 = .ok (.istore 5, 2) := by decide +kernel
theorem dL_law_56 : decode cL_law 56 = .ok (.iload 5, 2) := by decide +kernel
theorem dL_law_58 : decode cL_law 58 = .ok (.bipush 60, 2) := by decide +kernel
theorem dL_law_60 : decode cL_law 60 = .ok (.if_icmp .ge 951, 3) := by decide +kernel
theorem dL_law_63 : decode cL_law 63 = .ok (.iload 4, 2) := by decide +kernel
theorem dL_law_65 : decode cL_law 65 = .ok (.ifCond .eq 946, 3) := by decide +kernel
theorem dL_law_68 : decode cL_law 68 = .ok (.aload_n 0, 1) := by decide +kernel
theorem dL_law_69 : decode cL_law 69 = .ok (.iload 5, 2) := by decide +kernel
theorem dL_law_71 : decode cL_law 71 = .ok (.invokestatic 105, 3) := by decide +kernel
theorem dL_law_74 : decode cL_law 74 = .ok (.istore 6, 2) := by decide +kernel
theorem dL_law_76 : decode cL_law 76 = .ok (.iload 5, 2) := by decide +kernel
theorem dL_law_78 : decode cL_law 78 = .ok (.iconst 3, 1) := by decide +kernel
theorem dL_law_79 : decode cL_law 79 = .ok (.if_icmp .ge 7, 3) := by decide +kernel
theorem dL_law_82 : decode cL_law 82 = .ok (.iconst 0, 1) := by decide +kernel
theorem dL_law_83 : decode cL_law 83 = .ok (.goto 29, 3) := by decide +kernel
theorem dL_law_86 : decode cL_law 86 = .ok (.iload 5, 2) := by decide +kernel
theorem dL_law_88 : decode cL_law 88 = .ok (.iconst 5, 1) := by decide +kernel
theorem dL_law_89 : decode cL_law 89 = .ok (.if_icmp .ge 7, 3) := by decide +kernel
theorem dL_law_92 : decode cL_law 92 = .ok (.iconst 2, 1) := by decide +kernel
theorem dL_law_93 : decode cL_law 93 = .ok (.goto 19, 3) := by decide +kernel
theorem dL_law_96 : decode cL_law 96 = .ok (.iload 5, 2) := by decide +kernel
theorem dL_law_98 : decode cL_law 98 = .ok (.iconst 5, 1) := by decide +kernel
theorem dL_law_99 : decode cL_law 99 = .ok (.if_icmp .ne 8, 3) := by decide +kernel
theorem dL_law_102 : decode cL_law 102 = .ok (.bipush 20, 2) := by decide +kernel
theorem dL_law_104 : decode cL_law 104 = .ok (.goto 8, 3) := by decide +kernel
theorem dL_law_107 : decode cL_law 107 = .ok (.iload 6, 2) := by decide +kernel
theorem dL_law_109 : decode cL_law 109 = .ok (.bipush 24, 2) := by decide +kernel
theorem dL_law_111 : decode cL_law 111 = .ok (.irem, 1) := by decide +kernel
theorem dL_law_112 : decode cL_law 112 = .ok (.istore 7, 2) := by decide +kernel
theorem dL_law_114 : decode cL_law 114 = .ok (.iload 6, 2) := by decide +kernel
theorem dL_law_116 : decode cL_law 116 = .ok (.bipush 24, 2) := by decide +kernel
theorem dL_law_118 : decode cL_law 118 = .ok (.idiv, 1) := by decide +kernel
theorem dL_law_119 : decode cL_law 119 = .ok (.istore 8, 2) := by decide +kernel
theorem dL_law_121 : decode cL_law 121 = .ok (.iload 7, 2) := by decide +kernel
theorem dL_law_123 : decode cL_law 123 = .ok (.iconst 2, 1) := by decide +kernel
theorem dL_law_124 : decode cL_law 124 = .ok (.if_icmp .ge 138, 3) := by decide +kernel
theorem dL_law_127 : decode cL_law 127 = .ok (.aload_n 1, 1) := by decide +kernel
theorem dL_law_128 : decode cL_law 128 = .ok (.iconst 0, 1) := by decide +kernel
theorem dL_law_129 : decode cL_law 129 = .ok (.iload 8, 2) := by decide +kernel
theorem dL_law_131 : decode cL_law 131 = .ok (.bipush 13, 2) := by decide +kernel
theorem dL_law_133 : decode cL_law 133 = .ok (.irem, 1) := by decide +kernel
theorem dL_law_134 : decode cL_law 134 = .ok (.bipush 32, 2) := by decide +kernel
theorem dL_law_136 : decode cL_law 136 = .ok (.iload 8, 2) := by decide +kernel
theorem dL_law_138 : decode cL_law 138 = .ok (.bipush 13, 2) := by decide +kernel
theorem dL_law_140 : decode cL_law 140 = .ok (.idiv, 1) := by decide +kernel
theorem dL_law_141 : decode cL_law 141 = .ok (.bipush 65, 2) := by decide +kernel
theorem dL_law_143 : decode cL_law 143 = .ok (.irem, 1) := by decide +kernel
theorem dL_law_144 : decode cL_law 144 = .ok (.iadd, 1) := by decide +kernel
theorem dL_law_145 : decode cL_law 145 = .ok (.iload 8, 2) := by decide +kernel
theorem dL_law_147 : decode cL_law 147 = .ok (.bipush 7, 2) := by decide +kernel
theorem dL_law_149 : decode cL_law 149 = .ok (.idiv, 1) := by decide +kernel
theorem dL_law_150 : decode cL_law 150 = .ok (.bipush 7, 2) := by decide +kernel
theorem dL_law_152 : decode cL_law 152 = .ok (.irem, 1) := by decide +kernel
theorem dL_law_153 : decode cL_law 153 = .ok (.iconst 3, 1) := by decide +kernel
theorem dL_law_154 : decode cL_law 154 = .ok (.isub, 1) := by decide +kernel
theorem dL_law_155 : decode cL_law 155 = .ok (.invokestatic 87, 3) := by decide +kernel
theorem dL_law_158 : decode cL_law 158 = .ok (.istore 9, 2) := by decide +kernel
theorem dL_law_160 : decode cL_law 160 = .ok (.iload 9, 2) := by decide +kernel
theorem dL_law_162 : decode cL_law 162 = .ok (.aload_n 2, 1) := by decide +kernel
theorem dL_law_163 : decode cL_law 163 = .ok (.iconst 1, 1) := by decide +kernel
theorem dL_law_164 : decode cL_law 164 = .ok (.iaload, 1) := by decide +kernel
theorem dL_law_165 : decode cL_law 165 = .ok (.bipush 8, 2) := by decide +kernel
theorem dL_law_167 : decode cL_law 167 = .ok (.if_icmp .ne 8, 3) := by decide +kernel
theorem dL_law_170 : decode cL_law 170 = .ok (.ldc 57, 2) := by decide +kernel
theorem dL_law_172 : decode cL_law 172 = .ok (.goto 6, 3) := by decide +kernel
theorem dL_law_175 : decode cL_law 175 = .ok (.aload_n 2, 1) := by decide +kernel
theorem dL_law_176 : decode cL_law 176 = .ok (.iconst 1, 1) := by decide +kernel
theorem dL_law_177 : decode cL_law 177 = .ok (.iaload, 1) := by decide +kernel
theorem dL_law_178 : decode cL_law 178 = .ok (.if_icmp .ne 48, 3) := by decide +kernel
theorem dL_law_181 : decode cL_law 181 = .ok (.iload 9, 2) := by decide +kernel
theorem dL_law_183 : decode cL_law 183 = .ok (.ifCond .lt 39, 3) := by decide +kernel
theorem dL_law_186 : decode cL_law 186 = .ok (.aload_n 1, 1) := by decide +kernel
theorem dL_law_187 : decode cL_law 187 = .ok (.iload 9, 2) := by decide +kernel
theorem dL_law_189 : decode cL_law 189 = .ok (.iconst 0, 1) := by decide +kernel
theorem dL_law_190 : decode cL_law 190 = .ok (.invokevirtual 45, 3) := by decide +kernel
theorem dL_law_193 : decode cL_law 193 = .ok (.bipush 64, 2) := by decide +kernel
theorem dL_law_195 : decode cL_law 195 = .ok (.if_icmp .ne 31, 3) := by decide +kernel
theorem dL_law_198 : decode cL_law 198 = .ok (.aload_n 1, 1) := by decide +kernel
theorem dL_law_199 : decode cL_law 199 = .ok (.iload 9, 2) := by decide +kernel
theorem dL_law_201 : decode cL_law 201 = .ok (.iconst 1, 1) := by decide +kernel
theorem dL_law_202 : decode cL_law 202 = .ok (.invokevirtual 45, 3) := by decide +kernel
theorem dL_law_205 : decode cL_law 205 = .ok (.ifCond .ne 21, 3) := by decide +kernel
theorem dL_law_208 : decode cL_law 208 = .ok (.aload_n 1, 1) := by decide +kernel
theorem dL_law_209 : decode cL_law 209 = .ok (.iload 9, 2) := by decide +kernel
theorem dL_law_211 : decode cL_law 211 = .ok (.iload 8, 2) := by decide +kernel
theorem dL_law_213 : decode cL_law 213 = .ok (.bipush 64, 2) := by decide +kernel
theorem dL_law_215 : decode cL_law 215 = .ok (.irem, 1) := by decide +kernel
theorem dL_law_216 : decode cL_law 216 = .ok (.invokevirtual 36, 3) := by decide +kernel
theorem dL_law_219 : decode cL_law 219 = .ok (.ifCond .ne 7, 3) := by decide +kernel
theorem dL_law_222 : decode cL_law 222 = .ok (.iconst 1, 1) := by decide +kernel
theorem dL_law_223 : decode cL_law 223 = .ok (.goto 4, 3) := by decide +kernel
theorem dL_law_226 : decode cL_law 226 = .ok (.iconst 0, 1) := by decide +kernel
theorem dL_law_227 : decode cL_law 227 = .ok (.istore 4, 2) := by decide +kernel
theorem dL_law_229 : decode cL_law 229 = .ok (.iload 9, 2) := by decide +kernel
theorem dL_law_231 : decode cL_law 231 = .ok (.ifCond .lt 28, 3) := by decide +kernel
theorem dL_law_234 : decode cL_law 234 = .ok (.aload_n 3, 1) := by decide +kernel
theorem dL_law_235 : decode cL_law 235 = .ok (.iconst 2, 1) := by decide +kernel
theorem dL_law_236 : decode cL_law 236 = .ok (.iload 9, 2) := by decide +kernel
theorem dL_law_238 : decode cL_law 238 = .ok (.imul, 1) := by decide +kernel
theorem dL_law_239 : decode cL_law 239 = .ok (.iconst 1, 1) := by decide +kernel
theorem dL_law_240 : decode cL_law 240 = .ok (.iastore, 1) := by decide +kernel
theorem dL_law_241 : decode cL_law 241 = .ok (.aload_n 3, 1) := by decide +kernel
theorem dL_law_242 : decode cL_law 242 = .ok (.iconst 2, 1) := by decide +kernel
theorem dL_law_243 : decode cL_law 243 = .ok (.iload 9, 2) := by decide +kernel
theorem dL_law_245 : decode cL_law 245 = .ok (.imul, 1) := by decide +kernel
theorem dL_law_246 : decode cL_law 246 = .ok (.iconst 1, 1) := by decide +kernel
theorem dL_law_247 : decode cL_law 247 = .ok (.iadd, 1) := by decide +kernel
theorem dL_law_248 : decode cL_law 248 = .ok (.aload_n 2, 1) := by decide +kernel
theorem dL_law_249 : decode cL_law 249 = .ok (.iconst 0, 1) := by decide +kernel
theorem dL_law_250 : decode cL_law 250 = .ok (.iaload, 1) := by decide +kernel
theorem dL_law_251 : decode cL_law 251 = .ok (.iastore, 1) := by decide +kernel
theorem dL_law_252 : decode cL_law 252 = .ok (.aload_n 2, 1) := by decide +kernel
theorem dL_law_253 : decode cL_law 253 = .ok (.iconst 1, 1) := by decide +kernel
theorem dL_law_254 : decode cL_law 254 = .ok (.dup2, 1) := by decide +kernel
theorem dL_law_255 : decode cL_law 255 = .ok (.iaload, 1) := by decide +kernel
theorem dL_law_256 : decode cL_law 256 = .ok (.iconst 1, 1) := by decide +kernel
theorem dL_law_257 : decode cL_law 257 = .ok (.iadd, 1) := by decide +kernel
theorem dL_law_258 : decode cL_law 258 = .ok (.iastore, 1) := by decide +kernel
theorem dL_law_259 : decode cL_law 259 = .ok (.goto 691, 3) := by decide +kernel
theorem dL_law_262 : decode cL_law 262 = .ok (.iload 7, 2) := by decide +kernel
theorem dL_law_264 : decode cL_law 264 = .ok (.iconst 5, 1) := by decide +kernel
theorem dL_law_265 : decode cL_law 265 = .ok (.if_icmp .ge 83, 3) := by decide +kernel
theorem dL_law_268 : decode cL_law 268 = .ok (.aload_n 1, 1) := by decide +kernel
theorem dL_law_269 : decode cL_law 269 = .ok (.iconst 2, 1) := by decide +kernel
theorem dL_law_270 : decode cL_law 270 = .ok (.iload 8, 2) := by decide +kernel
theorem dL_law_272 : decode cL_law 272 = .ok (.bipush 9, 2) := by decide +kernel
theorem dL_law_274 : decode cL_law 274 = .ok (.irem, 1) := by decide +kernel
theorem dL_law_275 : decode cL_law 275 = .ok (.iconst 4, 1) := by decide +kernel
theorem dL_law_276 : decode cL_law 276 = .ok (.isub, 1) := by decide +kernel
theorem dL_law_277 : decode cL_law 277 = .ok (.iconst 1, 1) := by decide +kernel
theorem dL_law_278 : decode cL_law 278 = .ok (.iload 8, 2) := by decide +kernel
theorem dL_law_280 : decode cL_law 280 = .ok (.bipush 9, 2) := by decide +kernel
theorem dL_law_282 : decode cL_law 282 = .ok (.idiv, 1) := by decide +kernel
theorem dL_law_283 : decode cL_law 283 = .ok (.bipush 100, 2) := by decide +kernel
theorem dL_law_285 : decode cL_law 285 = .ok (.irem, 1) := by decide +kernel
theorem dL_law_286 : decode cL_law 286 = .ok (.iadd, 1) := by decide +kernel
theorem dL_law_287 : decode cL_law 287 = .ok (.iconst 2, 1) := by decide +kernel
theorem dL_law_288 : decode cL_law 288 = .ok (.iload 8, 2) := by decide +kernel
theorem dL_law_290 : decode cL_law 290 = .ok (.bipush 11, 2) := by decide +kernel
theorem dL_law_292 : decode cL_law 292 = .ok (.idiv, 1) := by decide +kernel
theorem dL_law_293 : decode cL_law 293 = .ok (.bipush 15, 2) := by decide +kernel
theorem dL_law_295 : decode cL_law 295 = .ok (.irem, 1) := by decide +kernel
theorem dL_law_296 : decode cL_law 296 = .ok (.iadd, 1) := by decide +kernel
theorem dL_law_297 : decode cL_law 297 = .ok (.invokestatic 87, 3) := by decide +kernel
theorem dL_law_300 : decode cL_law 300 = .ok (.istore 9, 2) := by decide +kernel
theorem dL_law_302 : decode cL_law 302 = .ok (.iload 9, 2) := by decide +kernel
theorem dL_law_304 : decode cL_law 304 = .ok (.aload_n 2, 1) := by decide +kernel
theorem dL_law_305 : decode cL_law 305 = .ok (.iconst 2, 1) := by decide +kernel
theorem dL_law_306 : decode cL_law 306 = .ok (.iaload, 1) := by decide +kernel
theorem dL_law_307 : decode cL_law 307 = .ok (.iconst 4, 1) := by decide +kernel
theorem dL_law_308 : decode cL_law 308 = .ok (.if_icmp .ne 8, 3) := by decide +kernel
theorem dL_law_311 : decode cL_law 311 = .ok (.ldc 57, 2) := by decide +kernel
theorem dL_law_313 : decode cL_law 313 = .ok (.goto 6, 3) := by decide +kernel
theorem dL_law_316 : decode cL_law 316 = .ok (.aload_n 2, 1) := by decide +kernel
theorem dL_law_317 : decode cL_law 317 = .ok (.iconst 2, 1) := by decide +kernel
theorem dL_law_318 : decode cL_law 318 = .ok (.iaload, 1) := by decide +kernel
theorem dL_law_319 : decode cL_law 319 = .ok (.if_icmp .ne 7, 3) := by decide +kernel
theorem dL_law_322 : decode cL_law 322 = .ok (.iconst 1, 1) := by decide +kernel
theorem dL_law_323 : decode cL_law 323 = .ok (.goto 4, 3) := by decide +kernel
theorem dL_law_326 : decode cL_law 326 = .ok (.iconst 0, 1) := by decide +kernel
theorem dL_law_327 : decode cL_law 327 = .ok (.istore 4, 2) := by decide +kernel
theorem dL_law_329 : decode cL_law 329 = .ok (.aload_n 2, 1) := by decide +kernel
theorem dL_law_330 : decode cL_law 330 = .ok (.iconst 2, 1) := by decide +kernel
theorem dL_law_331 : decode cL_law 331 = .ok (.dup2, 1) := by decide +kernel
theorem dL_law_332 : decode cL_law 332 = .ok (.iaload, 1) := by decide +kernel
theorem dL_law_333 : decode cL_law 333 = .ok (.iload 9, 2) := by decide +kernel
theorem dL_law_335 : decode cL_law 335 = .ok (.ifCond .ge 7, 3) := by decide +kernel
theorem dL_law_338 : decode cL_law 338 = .ok (.iconst 0, 1) := by decide +kernel
theorem dL_law_339 : decode cL_law 339 = .ok (.goto 4, 3) := by decide +kernel
theorem dL_law_342 : decode cL_law 342 = .ok (.iconst 1, 1) := by decide +kernel
theorem dL_law_343 : decode cL_law 343 = .ok (.iadd, 1) := by decide +kernel
theorem dL_law_344 : decode cL_law 344 = .ok (.iastore, 1) := by decide +kernel
theorem dL_law_345 : decode cL_law 345 = .ok (.goto 605, 3) := by decide +kernel
theorem dL_law_348 : decode cL_law 348 = .ok (.iload 7, 2) := by decide +kernel
theorem dL_law_350 : decode cL_law 350 = .ok (.iconst 5, 1) := by decide +kernel
theorem dL_law_351 : decode cL_law 351 = .ok (.if_icmp .ne 41, 3) := by decide +kernel
theorem dL_law_354 : decode cL_law 354 = .ok (.iload 8, 2) := by decide +kernel
theorem dL_law_356 : decode cL_law 356 = .ok (.iconst 3, 1) := by decide +kernel
theorem dL_law_357 : decode cL_law 357 = .ok (.irem, 1) := by decide +kernel
theorem dL_law_358 : decode cL_law 358 = .ok (.ifCond .ne 34, 3) := by decide +kernel
theorem dL_law_361 : decode cL_law 361 = .ok (.aload_n 1, 1) := by decide +kernel
theorem dL_law_362 : decode cL_law 362 = .ok (.invokevirtual 109, 3) := by decide +kernel
theorem dL_law_365 : decode cL_law 365 = .ok (.aload_n 2, 1) := by decide +kernel
theorem dL_law_366 : decode cL_law 366 = .ok (.iconst 2, 1) := by decide +kernel
theorem dL_law_367 : decode cL_law 367 = .ok (.iaload, 1) := by decide +kernel
theorem dL_law_368 : decode cL_law 368 = .ok (.if_icmp .ne 14, 3) := by decide +kernel
theorem dL_law_371 : decode cL_law 371 = .ok (.aload_n 1, 1) := by decide +kernel
theorem dL_law_372 : decode cL_law 372 = .ok (.invokevirtual 109, 3) := by decide +kernel
theorem dL_law_375 : decode cL_law 375 = .ok (.ifCond .ne 7, 3) := by decide +kernel
theorem dL_law_378 : decode cL_law 378 = .ok (.iconst 1, 1) := by decide +kernel
theorem dL_law_379 : decode cL_law 379 = .ok (.goto 4, 3) := by decide +kernel
theorem dL_law_382 : decode cL_law 382 = .ok (.iconst 0, 1) := by decide +kernel
theorem dL_law_383 : decode cL_law 383 = .ok (.istore 4, 2) := by decide +kernel
theorem dL_law_385 : decode cL_law 385 = .ok (.aload_n 2, 1) := by decide +kernel
theorem dL_law_386 : decode cL_law 386 = .ok (.iconst 2, 1) := by decide +kernel
theorem dL_law_387 : decode cL_law 387 = .ok (.iconst 0, 1) := by decide +kernel
theorem dL_law_388 : decode cL_law 388 = .ok (.iastore, 1) := by decide +kernel
theorem dL_law_389 : decode cL_law 389 = .ok (.goto 561, 3) := by decide +kernel
theorem dL_law_392 : decode cL_law 392 = .ok (.iload 7, 2) := by decide +kernel
theorem dL_law_394 : decode cL_law 394 = .ok (.bipush 8, 2) := by decide +kernel
theorem dL_law_396 : decode cL_law 396 = .ok (.if_icmp .ge 68, 3) := by decide +kernel
theorem dL_law_399 : decode cL_law 399 = .ok (.iload 7, 2) := by decide +kernel
theorem dL_law_401 : decode cL_law 401 = .ok (.iconst 5, 1) := by decide +kernel
theorem dL_law_402 : decode cL_law 402 = .ok (.if_icmp .le 62, 3) := by decide +kernel
theorem dL_law_405 : decode cL_law 405 = .ok (.iload 8, 2) := by decide +kernel
theorem dL_law_407 : decode cL_law 407 = .ok (.iconst 2, 1) := by decide +kernel
theorem dL_law_408 : decode cL_law 408 = .ok (.irem, 1) := by decide +kernel
theorem dL_law_409 : decode cL_law 409 = .ok (.ifCond .ne 7, 3) := by decide +kernel
theorem dL_law_412 : decode cL_law 412 = .ok (.iconst 0, 1) := by decide +kernel
theorem dL_law_413 : decode cL_law 413 = .ok (.goto 10, 3) := by decide +kernel
theorem dL_law_416 : decode cL_law 416 = .ok (.iload 8, 2) := by decide +kernel
theorem dL_law_418 : decode cL_law 418 = .ok (.iconst 2, 1) := by decide +kernel
theorem dL_law_419 : decode cL_law 419 = .ok (.idiv, 1) := by decide +kernel
theorem dL_law_420 : decode cL_law 420 = .ok (.bipush 51, 2) := by decide +kernel
theorem dL_law_422 : decode cL_law 422 = .ok (.irem, 1) := by decide +kernel
theorem dL_law_423 : decode cL_law 423 = .ok (.istore 9, 2) := by decide +kernel
theorem dL_law_425 : decode cL_law 425 = .ok (.aload_n 1, 1) := by decide +kernel
theorem dL_law_426 : decode cL_law 426 = .ok (.iconst 3, 1) := by decide +kernel
theorem dL_law_427 : decode cL_law 427 = .ok (.iload 9, 2) := by decide +kernel
theorem dL_law_429 : decode cL_law 429 = .ok (.iconst 1, 1) := by decide +kernel
theorem dL_law_430 : decode cL_law 430 = .ok (.iload 8, 2) := by decide +kernel
theorem dL_law_432 : decode cL_law 432 = .ok (.bipush 102, 2) := by decide +kernel
theorem dL_law_434 : decode cL_law 434 = .ok (.idiv, 1) := by decide +kernel
theorem dL_law_435 : decode cL_law 435 = .ok (.ldc 112, 2) := by decide +kernel
theorem dL_law_437 : decode cL_law 437 = .ok (.irem, 1) := by decide +kernel
theorem dL_law_438 : decode cL_law 438 = .ok (.iadd, 1) := by decide +kernel
theorem dL_law_439 : decode cL_law 439 = .ok (.iconst 0, 1) := by decide +kernel
theorem dL_law_440 : decode cL_law 440 = .ok (.invokestatic 87, 3) := by decide +kernel
theorem dL_law_443 : decode cL_law 443 = .ok (.aload_n 2, 1) := by decide +kernel
theorem dL_law_444 : decode cL_law 444 = .ok (.iconst 3, 1) := by decide +kernel
theorem dL_law_445 : decode cL_law 445 = .ok (.iaload, 1) := by decide +kernel
theorem dL_law_446 : decode cL_law 446 = .ok (.if_icmp .ne 7, 3) := by decide +kernel
theorem dL_law_449 : decode cL_law 449 = .ok (.iconst 1, 1) := by decide +kernel
theorem dL_law_450 : decode cL_law 450 = .ok (.goto 4, 3) := by decide +kernel
theorem dL_law_453 : decode cL_law 453 = .ok (.iconst 0, 1) := by decide +kernel
theorem dL_law_454 : decode cL_law 454 = .ok (.istore 4, 2) := by decide +kernel
theorem dL_law_456 : decode cL_law 456 = .ok (.aload_n 2, 1) := by decide +kernel
theorem dL_law_457 : decode cL_law 457 = .ok (.iconst 3, 1) := by decide +kernel
theorem dL_law_458 : decode cL_law 458 = .ok (.iload 9, 2) := by decide +kernel
theorem dL_law_460 : decode cL_law 460 = .ok (.iastore, 1) := by decide +kernel
theorem dL_law_461 : decode cL_law 461 = .ok (.goto 489, 3) := by decide +kernel
theorem dL_law_464 : decode cL_law 464 = .ok (.iload 7, 2) := by decide +kernel
theorem dL_law_466 : decode cL_law 466 = .ok (.bipush 8, 2) := by decide +kernel
theorem dL_law_468 : decode cL_law 468 = .ok (.if_icmp .ne 55, 3) := by decide +kernel
theorem dL_law_471 : decode cL_law 471 = .ok (.aload_n 1, 1) := by decide +kernel
theorem dL_law_472 : decode cL_law 472 = .ok (.iconst 5, 1) := by decide +kernel
theorem dL_law_473 : decode cL_law 473 = .ok (.iload 8, 2) := by decide +kernel
theorem dL_law_475 : decode cL_law 475 = .ok (.iconst 3, 1) := by decide +kernel
theorem dL_law_476 : decode cL_law 476 = .ok (.irem, 1) := by decide +kernel
theorem dL_law_477 : decode cL_law 477 = .ok (.iconst 0, 1) := by decide +kernel
theorem dL_law_478 : decode cL_law 478 = .ok (.iconst 0, 1) := by decide +kernel
theorem dL_law_479 : decode cL_law 479 = .ok (.invokestatic 87, 3) := by decide +kernel
theorem dL_law_482 : decode cL_law 482 = .ok (.aload_n 2, 1) := by decide +kernel
theorem dL_law_483 : decode cL_law 483 = .ok (.iconst 4, 1) := by decide +kernel
theorem dL_law_484 : decode cL_law 484 = .ok (.iaload, 1) := by decide +kernel
theorem dL_law_485 : decode cL_law 485 = .ok (.if_icmp .ne 25, 3) := by decide +kernel
theorem dL_law_488 : decode cL_law 488 = .ok (.aload_n 1, 1) := by decide +kernel
theorem dL_law_489 : decode cL_law 489 = .ok (.iconst 5, 1) := by decide +kernel
theorem dL_law_490 : decode cL_law 490 = .ok (.iload 8, 2) := by decide +kernel
theorem dL_law_492 : decode cL_law 492 = .ok (.iconst 3, 1) := by decide +kernel
theorem dL_law_493 : decode cL_law 493 = .ok (.irem, 1) := by decide +kernel
theorem dL_law_494 : decode cL_law 494 = .ok (.iconst 0, 1) := by decide +kernel
theorem dL_law_495 : decode cL_law 495 = .ok (.iconst 0, 1) := by decide +kernel
theorem dL_law_496 : decode cL_law 496 = .ok (.invokestatic 87, 3) := by decide +kernel
theorem dL_law_499 : decode cL_law 499 = .ok (.iload 8, 2) := by decide +kernel
theorem dL_law_501 : decode cL_law 501 = .ok (.iconst 3, 1) := by decide +kernel
theorem dL_law_502 : decode cL_law 502 = .ok (.irem, 1) := by decide +kernel
theorem dL_law_503 : decode cL_law 503 = .ok (.if_icmp .ne 7, 3) := by decide +kernel
theorem dL_law_506 : decode cL_law 506 = .ok (.iconst 1, 1) := by decide +kernel
theorem dL_law_507 : decode cL_law 507 = .ok (.goto 4, 3) := by decide +kernel
theorem dL_law_510 : decode cL_law 510 = .ok (.iconst 0, 1) := by decide +kernel
theorem dL_law_511 : decode cL_law 511 = .ok (.istore 4, 2) := by decide +kernel
theorem dL_law_513 : decode cL_law 513 = .ok (.aload_n 2, 1) := by decide +kernel
theorem dL_law_514 : decode cL_law 514 = .ok (.iconst 4, 1) := by decide +kernel
theorem dL_law_515 : decode cL_law 515 = .ok (.iload 8, 2) := by decide +kernel
theorem dL_law_517 : decode cL_law 517 = .ok (.iconst 3, 1) := by decide +kernel
theorem dL_law_518 : decode cL_law 518 = .ok (.irem, 1) := by decide +kernel
theorem dL_law_519 : decode cL_law 519 = .ok (.iastore, 1) := by decide +kernel
theorem dL_law_520 : decode cL_law 520 = .ok (.goto 430, 3) := by decide +kernel
theorem dL_law_523 : decode cL_law 523 = .ok (.iload 7, 2) := by decide +kernel
theorem dL_law_525 : decode cL_law 525 = .ok (.bipush 12, 2) := by decide +kernel
theorem dL_law_527 : decode cL_law 527 = .ok (.if_icmp .ge 93, 3) := by decide +kernel
theorem dL_law_530 : decode cL_law 530 = .ok (.iload 7, 2) := by decide +kernel
theorem dL_law_532 : decode cL_law 532 = .ok (.bipush 8, 2) := by decide +kernel
theorem dL_law_534 : decode cL_law 534 = .ok (.if_icmp .le 86, 3) := by decide +kernel
theorem dL_law_537 : decode cL_law 537 = .ok (.aload_n 2, 1) := by decide +kernel
theorem dL_law_538 : decode cL_law 538 = .ok (.iconst 1, 1) := by decide +kernel
theorem dL_law_539 : decode cL_law 539 = .ok (.iaload, 1) := by decide +kernel
theorem dL_law_540 : decode cL_law 540 = .ok (.ifCond .le 80, 3) := by decide +kernel
theorem dL_law_543 : decode cL_law 543 = .ok (.iload 8, 2) := by decide +kernel
theorem dL_law_545 : decode cL_law 545 = .ok (.aload_n 2, 1) := by decide +kernel
theorem dL_law_546 : decode cL_law 546 = .ok (.iconst 1, 1) := by decide +kernel
theorem dL_law_547 : decode cL_law 547 = .ok (.iaload, 1) := by decide +kernel
theorem dL_law_548 : decode cL_law 548 = .ok (.irem, 1) := by decide +kernel
theorem dL_law_549 : decode cL_law 549 = .ok (.istore 9, 2) := by decide +kernel
theorem dL_law_551 : decode cL_law 551 = .ok (.iload 8, 2) := by decide +kernel
theorem dL_law_553 : decode cL_law 553 = .ok (.bipush 8, 2) := by decide +kernel
theorem dL_law_555 : decode cL_law 555 = .ok (.idiv, 1) := by decide +kernel
theorem dL_law_556 : decode cL_law 556 = .ok (.iconst 3, 1) := by decide +kernel
theorem dL_law_557 : decode cL_law 557 = .ok (.irem, 1) := by decide +kernel
theorem dL_law_558 : decode cL_law 558 = .ok (.ifCond .le 7, 3) := by decide +kernel
theorem dL_law_561 : decode cL_law 561 = .ok (.iconst 1, 1) := by decide +kernel
theorem dL_law_562 : decode cL_law 562 = .ok (.goto 4, 3) := by decide +kernel
theorem dL_law_565 : decode cL_law 565 = .ok (.iconst 0, 1) := by decide +kernel
theorem dL_law_566 : decode cL_law 566 = .ok (.istore 10, 2) := by decide +kernel
theorem dL_law_568 : decode cL_law 568 = .ok (.aload_n 1, 1) := by decide +kernel
theorem dL_law_569 : decode cL_law 569 = .ok (.iconst 1, 1) := by decide +kernel
theorem dL_law_570 : decode cL_law 570 = .ok (.iload 9, 2) := by decide +kernel
theorem dL_law_572 : decode cL_law 572 = .ok (.iload 10, 2) := by decide +kernel
theorem dL_law_574 : decode cL_law 574 = .ok (.iconst 0, 1) := by decide +kernel
theorem dL_law_575 : decode cL_law 575 = .ok (.invokestatic 87, 3) := by decide +kernel
theorem dL_law_578 : decode cL_law 578 = .ok (.aload_n 3, 1) := by decide +kernel
theorem dL_law_579 : decode cL_law 579 = .ok (.iconst 2, 1) := by decide +kernel
theorem dL_law_580 : decode cL_law 580 = .ok (.iload 9, 2) := by decide +kernel
theorem dL_law_582 : decode cL_law 582 = .ok (.imul, 1) := by decide +kernel
theorem dL_law_583 : decode cL_law 583 = .ok (.iaload, 1) := by decide +kernel
theorem dL_law_584 : decode cL_law 584 = .ok (.if_icmp .ne 22, 3) := by decide +kernel
theorem dL_law_587 : decode cL_law 587 = .ok (.aload_n 1, 1) := by decide +kernel
theorem dL_law_588 : decode cL_law 588 = .ok (.iconst 1, 1) := by decide +kernel
theorem dL_law_589 : decode cL_law 589 = .ok (.iload 9, 2) := by decide +kernel
theorem dL_law_591 : decode cL_law 591 = .ok (.iload 10, 2) := by decide +kernel
theorem dL_law_593 : decode cL_law 593 = .ok (.iconst 0, 1) := by decide +kernel
theorem dL_law_594 : decode cL_law 594 = .ok (.invokestatic 87, 3) := by decide +kernel
theorem dL_law_597 : decode cL_law 597 = .ok (.iload 10, 2) := by decide +kernel
theorem dL_law_599 : decode cL_law 599 = .ok (.if_icmp .ne 7, 3) := by decide +kernel
theorem dL_law_602 : decode cL_law 602 = .ok (.iconst 1, 1) := by decide +kernel
theorem dL_law_603 : decode cL_law 603 = .ok (.goto 4, 3) := by decide +kernel
theorem dL_law_606 : decode cL_law 606 = .ok (.iconst 0, 1) := by decide +kernel
theorem dL_law_607 : decode cL_law 607 = .ok (.istore 4, 2) := by decide +kernel
theorem dL_law_609 : decode cL_law 609 = .ok (.aload_n 3, 1) := by decide +kernel
theorem dL_law_610 : decode cL_law 610 = .ok (.iconst 2, 1) := by decide +kernel
theorem dL_law_611 : decode cL_law 611 = .ok (.iload 9, 2) := by decide +kernel
theorem dL_law_613 : decode cL_law 613 = .ok (.imul, 1) := by decide +kernel
theorem dL_law_614 : decode cL_law 614 = .ok (.iload 10, 2) := by decide +kernel
theorem dL_law_616 : decode cL_law 616 = .ok (.iastore, 1) := by decide +kernel
theorem dL_law_617 : decode cL_law 617 = .ok (.goto 333, 3) := by decide +kernel
theorem dL_law_620 : decode cL_law 620 = .ok (.iload 7, 2) := by decide +kernel
theorem dL_law_622 : decode cL_law 622 = .ok (.bipush 15, 2) := by decide +kernel
theorem dL_law_624 : decode cL_law 624 = .ok (.if_icmp .ge 144, 3) := by decide +kernel
theorem dL_law_627 : decode cL_law 627 = .ok (.iload 7, 2) := by decide +kernel
theorem dL_law_629 : decode cL_law 629 = .ok (.bipush 11, 2) := by decide +kernel
theorem dL_law_631 : decode cL_law 631 = .ok (.if_icmp .le 137, 3) := by decide +kernel
theorem dL_law_634 : decode cL_law 634 = .ok (.iload 8, 2) := by decide +kernel
theorem dL_law_636 : decode cL_law 636 = .ok (.bipush 9, 2) := by decide +kernel
theorem dL_law_638 : decode cL_law 638 = .ok (.irem, 1) := by decide +kernel
theorem dL_law_639 : decode cL_law 639 = .ok (.iconst 4, 1) := by decide +kernel
theorem dL_law_640 : decode cL_law 640 = .ok (.isub, 1) := by decide +kernel
theorem dL_law_641 : decode cL_law 641 = .ok (.istore 9, 2) := by decide +kernel
theorem dL_law_643 : decode cL_law 643 = .ok (.aload_n 1, 1) := by decide +kernel
theorem dL_law_644 : decode cL_law 644 = .ok (.bipush 6, 2) := by decide +kernel
theorem dL_law_646 : decode cL_law 646 = .ok (.iload 9, 2) := by decide +kernel
theorem dL_law_648 : decode cL_law 648 = .ok (.iconst 0, 1) := by decide +kernel
theorem dL_law_649 : decode cL_law 649 = .ok (.iconst 0, 1) := by decide +kernel
theorem dL_law_650 : decode cL_law 650 = .ok (.invokestatic 87, 3) := by decide +kernel
theorem dL_law_653 : decode cL_law 653 = .ok (.istore 10, 2) := by decide +kernel
theorem dL_law_655 : decode cL_law 655 = .ok (.iconst (-1), 1) := by decide +kernel
theorem dL_law_656 : decode cL_law 656 = .ok (.istore 11, 2) := by decide +kernel
theorem dL_law_658 : decode cL_law 658 = .ok (.aload_n 2, 1) := by decide +kernel
theorem dL_law_659 : decode cL_law 659 = .ok (.iconst 1, 1) := by decide +kernel
theorem dL_law_660 : decode cL_law 660 = .ok (.iaload, 1) := by decide +kernel
theorem dL_law_661 : decode cL_law 661 = .ok (.iconst 1, 1) := by decide +kernel
theorem dL_law_662 : decode cL_law 662 = .ok (.isub, 1) := by decide +kernel
theorem dL_law_663 : decode cL_law 663 = .ok (.istore 12, 2) := by decide +kernel
theorem dL_law_665 : decode cL_law 665 = .ok (.iload 12, 2) := by decide +kernel
theorem dL_law_667 : decode cL_law 667 = .ok (.ifCond .lt 28, 3) := by decide +kernel
theorem dL_law_670 : decode cL_law 670 = .ok (.aload_n 3, 1) := by decide +kernel
theorem dL_law_671 : decode cL_law 671 = .ok (.iconst 2, 1) := by decide +kernel
theorem dL_law_672 : decode cL_law 672 = .ok (.iload 12, 2) := by decide +kernel
theorem dL_law_674 : decode cL_law 674 = .ok (.imul, 1) := by decide +kernel
theorem dL_law_675 : decode cL_law 675 = .ok (.iaload, 1) := by decide +kernel
theorem dL_law_676 : decode cL_law 676 = .ok (.iconst 1, 1) := by decide +kernel
theorem dL_law_677 : decode cL_law 677 = .ok (.if_icmp .ne 8, 3) := by decide +kernel
theorem dL_law_680 : decode cL_law 680 = .ok (.iload 12, 2) := by decide +kernel
theorem dL_law_682 : decode cL_law 682 = .ok (.goto 5, 3) := by decide +kernel
theorem dL_law_685 : decode cL_law 685 = .ok (.iload 11, 2) := by decide +kernel
theorem dL_law_687 : decode cL_law 687 = .ok (.istore 11, 2) := by decide +kernel
theorem dL_law_689 : decode cL_law 689 = .ok (.iinc 12 (-1), 3) := by decide +kernel
theorem dL_law_692 : decode cL_law 692 = .ok (.goto (-27), 3) := by decide +kernel
theorem dL_law_695 : decode cL_law 695 = .ok (.iload 10, 2) := by decide +kernel
theorem dL_law_697 : decode cL_law 697 = .ok (.ldc 57, 2) := by decide +kernel
theorem dL_law_699 : decode cL_law 699 = .ok (.if_icmp .eq 59, 3) := by decide +kernel
theorem dL_law_702 : decode cL_law 702 = .ok (.iload 11, 2) := by decide +kernel
theorem dL_law_704 : decode cL_law 704 = .ok (.ifCond .lt 58, 3) := by decide +kernel
theorem dL_law_707 : decode cL_law 707 = .ok (.iload 10, 2) := by decide +kernel
theorem dL_law_709 : decode cL_law 709 = .ok (.ifCond .lt 53, 3) := by decide +kernel
theorem dL_law_712 : decode cL_law 712 = .ok (.iload 10, 2) := by decide +kernel
theorem dL_law_714 : decode cL_law 714 = .ok (.aload_n 2, 1) := by decide +kernel
theorem dL_law_715 : decode cL_law 715 = .ok (.iconst 1, 1) := by decide +kernel
theorem dL_law_716 : decode cL_law 716 = .ok (.iaload, 1) := by decide +kernel
theorem dL_law_717 : decode cL_law 717 = .ok (.iload 11, 2) := by decide +kernel
theorem dL_law_719 : decode cL_law 719 = .ok (.isub, 1) := by decide +kernel
theorem dL_law_720 : decode cL_law 720 = .ok (.if_icmp .gt 42, 3) := by decide +kernel
theorem dL_law_723 : decode cL_law 723 = .ok (.aload_n 1, 1) := by decide +kernel
theorem dL_law_724 : decode cL_law 724 = .ok (.iload 11, 2) := by decide +kernel
theorem dL_law_726 : decode cL_law 726 = .ok (.iconst 0, 1) := by decide +kernel
theorem dL_law_727 : decode cL_law 727 = .ok (.invokevirtual 45, 3) := by decide +kernel
theorem dL_law_730 : decode cL_law 730 = .ok (.bipush 64, 2) := by decide +kernel
theorem dL_law_732 : decode cL_law 732 = .ok (.if_icmp .ne 30, 3) := by decide +kernel
theorem dL_law_735 : decode cL_law 735 = .ok (.aload_n 1, 1) := by decide +kernel
theorem dL_law_736 : decode cL_law 736 = .ok (.iload 11, 2) := by decide +kernel
theorem dL_law_738 : decode cL_law 738 = .ok (.iconst 1, 1) := by decide +kernel
theorem dL_law_739 : decode cL_law 739 = .ok (.invokevirtual 45, 3) := by decide +kernel
theorem dL_law_742 : decode cL_law 742 = .ok (.ifCond .ne 20, 3) := by decide +kernel
theorem dL_law_745 : decode cL_law 745 = .ok (.aload_n 1, 1) := by decide +kernel
theorem dL_law_746 : decode cL_law 746 = .ok (.bipush 6, 2) := by decide +kernel
theorem dL_law_748 : decode cL_law 748 = .ok (.iload 9, 2) := by decide +kernel
theorem dL_law_750 : decode cL_law 750 = .ok (.iconst 0, 1) := by decide +kernel
theorem dL_law_751 : decode cL_law 751 = .ok (.iconst 0, 1) := by decide +kernel
theorem dL_law_752 : decode cL_law 752 = .ok (.invokestatic 87, 3) := by decide +kernel
theorem dL_law_755 : decode cL_law 755 = .ok (.ifCond .ne 7, 3) := by decide +kernel
theorem dL_law_758 : decode cL_law 758 = .ok (.iconst 1, 1) := by decide +kernel
theorem dL_law_759 : decode cL_law 759 = .ok (.goto 4, 3) := by decide +kernel
theorem dL_law_762 : decode cL_law 762 = .ok (.iconst 0, 1) := by decide +kernel
theorem dL_law_763 : decode cL_law 763 = .ok (.istore 4, 2) := by decide +kernel
theorem dL_law_765 : decode cL_law 765 = .ok (.goto 185, 3) := by decide +kernel
theorem dL_law_768 : decode cL_law 768 = .ok (.iload 7, 2) := by decide +kernel
theorem dL_law_770 : decode cL_law 770 = .ok (.bipush 14, 2) := by decide +kernel
theorem dL_law_772 : decode cL_law 772 = .ok (.if_icmp .le 178, 3) := by decide +kernel
theorem dL_law_775 : decode cL_law 775 = .ok (.iconst 1, 1) := by decide +kernel
theorem dL_law_776 : decode cL_law 776 = .ok (.iload 8, 2) := by decide +kernel
theorem dL_law_778 : decode cL_law 778 = .ok (.iload 8, 2) := by decide +kernel
theorem dL_law_780 : decode cL_law 780 = .ok (.iconst 3, 1) := by decide +kernel
theorem dL_law_781 : decode cL_law 781 = .ok (.irem, 1) := by decide +kernel
theorem dL_law_782 : decode cL_law 782 = .ok (.ifCond .ne 8, 3) := by decide +kernel
theorem dL_law_785 : decode cL_law 785 = .ok (.bipush 100, 2) := by decide +kernel
theorem dL_law_787 : decode cL_law 787 = .ok (.goto 5, 3) := by decide +kernel
theorem dL_law_790 : decode cL_law 790 = .ok (.bipush 25, 2) := by decide +kernel
theorem dL_law_792 : decode cL_law 792 = .ok (.irem, 1) := by decide +kernel
theorem dL_law_793 : decode cL_law 793 = .ok (.iadd, 1) := by decide +kernel
theorem dL_law_794 : decode cL_law 794 = .ok (.istore 9, 2) := by decide +kernel
theorem dL_law_796 : decode cL_law 796 = .ok (.aload_n 2, 1) := by decide +kernel
theorem dL_law_797 : decode cL_law 797 = .ok (.iconst 1, 1) := by decide +kernel
theorem dL_law_798 : decode cL_law 798 = .ok (.iaload, 1) := by decide +kernel
theorem dL_law_799 : decode cL_law 799 = .ok (.ifCond .eq 10, 3) := by decide +kernel
theorem dL_law_802 : decode cL_law 802 = .ok (.iload 9, 2) := by decide +kernel
theorem dL_law_804 : decode cL_law 804 = .ok (.bipush 63, 2) := by decide +kernel
theorem dL_law_806 : decode cL_law 806 = .ok (.if_icmp .le 7, 3) := by decide +kernel
theorem dL_law_809 : decode cL_law 809 = .ok (.iconst 0, 1) := by decide +kernel
theorem dL_law_810 : decode cL_law 810 = .ok (.goto 18, 3) := by decide +kernel
theorem dL_law_813 : decode cL_law 813 = .ok (.aload_n 1, 1) := by decide +kernel
theorem dL_law_814 : decode cL_law 814 = .ok (.iload 8, 2) := by decide +kernel
theorem dL_law_816 : decode cL_law 816 = .ok (.aload_n 2, 1) := by decide +kernel
theorem dL_law_817 : decode cL_law 817 = .ok (.iconst 1, 1) := by decide +kernel
theorem dL_law_818 : decode cL_law 818 = .ok (.iaload, 1) := by decide +kernel
theorem dL_law_819 : decode cL_law 819 = .ok (.irem, 1) := by decide +kernel
theorem dL_law_820 : decode cL_law 820 = .ok (.bipush 63, 2) := by decide +kernel
theorem dL_law_822 : decode cL_law 822 = .ok (.iload 9, 2) := by decide +kernel
theorem dL_law_824 : decode cL_law 824 = .ok (.isub, 1) := by decide +kernel
theorem dL_law_825 : decode cL_law 825 = .ok (.invokevirtual 36, 3) := by decide +kernel
theorem dL_law_828 : decode cL_law 828 = .ok (.istore 10, 2) := by decide +kernel
theorem dL_law_830 : decode cL_law 830 = .ok (.aload_n 2, 1) := by decide +kernel
theorem dL_law_831 : decode cL_law 831 = .ok (.iconst 0, 1) := by decide +kernel
theorem dL_law_832 : decode cL_law 832 = .ok (.dup2, 1) := by decide +kernel
theorem dL_law_833 : decode cL_law 833 = .ok (.iaload, 1) := by decide +kernel
theorem dL_law_834 : decode cL_law 834 = .ok (.iload 9, 2) := by decide +kernel
theorem dL_law_836 : decode cL_law 836 = .ok (.iadd, 1) := by decide +kernel
theorem dL_law_837 : decode cL_law 837 = .ok (.iastore, 1) := by decide +kernel
theorem dL_law_838 : decode cL_law 838 = .ok (.aload_n 1, 1) := by decide +kernel
theorem dL_law_839 : decode cL_law 839 = .ok (.iconst 4, 1) := by decide +kernel
theorem dL_law_840 : decode cL_law 840 = .ok (.iload 9, 2) := by decide +kernel
theorem dL_law_842 : decode cL_law 842 = .ok (.iconst 0, 1) := by decide +kernel
theorem dL_law_843 : decode cL_law 843 = .ok (.iconst 0, 1) := by decide +kernel
theorem dL_law_844 : decode cL_law 844 = .ok (.invokestatic 87, 3) := by decide +kernel
theorem dL_law_847 : decode cL_law 847 = .ok (.aload_n 2, 1) := by decide +kernel
theorem dL_law_848 : decode cL_law 848 = .ok (.iconst 0, 1) := by decide +kernel
theorem dL_law_849 : decode cL_law 849 = .ok (.iaload, 1) := by decide +kernel
theorem dL_law_850 : decode cL_law 850 = .ok (.if_icmp .ne 37, 3) := by decide +kernel
theorem dL_law_853 : decode cL_law 853 = .ok (.aload_n 2, 1) := by decide +kernel
theorem dL_law_854 : decode cL_law 854 = .ok (.iconst 1, 1) := by decide +kernel
theorem dL_law_855 : decode cL_law 855 = .ok (.iaload, 1) := by decide +kernel
theorem dL_law_856 : decode cL_law 856 = .ok (.ifCond .eq 27, 3) := by decide +kernel
theorem dL_law_859 : decode cL_law 859 = .ok (.iload 9, 2) := by decide +kernel
theorem dL_law_861 : decode cL_law 861 = .ok (.bipush 63, 2) := by decide +kernel
theorem dL_law_863 : decode cL_law 863 = .ok (.if_icmp .gt 20, 3) := by decide +kernel
theorem dL_law_866 : decode cL_law 866 = .ok (.aload_n 1, 1) := by decide +kernel
theorem dL_law_867 : decode cL_law 867 = .ok (.iload 8, 2) := by decide +kernel
theorem dL_law_869 : decode cL_law 869 = .ok (.aload_n 2, 1) := by decide +kernel
theorem dL_law_870 : decode cL_law 870 = .ok (.iconst 1, 1) := by decide +kernel
theorem dL_law_871 : decode cL_law 871 = .ok (.iaload, 1) := by decide +kernel
theorem dL_law_872 : decode cL_law 872 = .ok (.irem, 1) := by decide +kernel
theorem dL_law_873 : decode cL_law 873 = .ok (.bipush 63, 2) := by decide +kernel
theorem dL_law_875 : decode cL_law 875 = .ok (.invokevirtual 36, 3) := by decide +kernel
theorem dL_law_878 : decode cL_law 878 = .ok (.iload 10, 2) := by decide +kernel
theorem dL_law_880 : decode cL_law 880 = .ok (.if_icmp .ne 7, 3) := by decide +kernel
theorem dL_law_883 : decode cL_law 883 = .ok (.iconst 1, 1) := by decide +kernel
theorem dL_law_884 : decode cL_law 884 = .ok (.goto 4, 3) := by decide +kernel
theorem dL_law_887 : decode cL_law 887 = .ok (.iconst 0, 1) := by decide +kernel
theorem dL_law_888 : decode cL_law 888 = .ok (.istore 4, 2) := by decide +kernel
theorem dL_law_890 : decode cL_law 890 = .ok (.iconst 0, 1) := by decide +kernel
theorem dL_law_891 : decode cL_law 891 = .ok (.istore 11, 2) := by decide +kernel
theorem dL_law_893 : decode cL_law 893 = .ok (.iload 11, 2) := by decide +kernel
theorem dL_law_895 : decode cL_law 895 = .ok (.aload_n 2, 1) := by decide +kernel
theorem dL_law_896 : decode cL_law 896 = .ok (.iconst 1, 1) := by decide +kernel
theorem dL_law_897 : decode cL_law 897 = .ok (.iaload, 1) := by decide +kernel
theorem dL_law_898 : decode cL_law 898 = .ok (.if_icmp .ge 52, 3) := by decide +kernel
theorem dL_law_901 : decode cL_law 901 = .ok (.iload 4, 2) := by decide +kernel
theorem dL_law_903 : decode cL_law 903 = .ok (.ifCond .eq 47, 3) := by decide +kernel
theorem dL_law_906 : decode cL_law 906 = .ok (.aload_n 1, 1) := by decide +kernel
theorem dL_law_907 : decode cL_law 907 = .ok (.iload 11, 2) := by decide +kernel
theorem dL_law_909 : decode cL_law 909 = .ok (.iload 8, 2) := by decide +kernel
theorem dL_law_911 : decode cL_law 911 = .ok (.iload 9, 2) := by decide +kernel
theorem dL_law_913 : decode cL_law 913 = .ok (.irem, 1) := by decide +kernel
theorem dL_law_914 : decode cL_law 914 = .ok (.bipush 64, 2) := by decide +kernel
theorem dL_law_916 : decode cL_law 916 = .ok (.irem, 1) := by decide +kernel
theorem dL_law_917 : decode cL_law 917 = .ok (.invokevirtual 36, 3) := by decide +kernel
theorem dL_law_920 : decode cL_law 920 = .ok (.istore 12, 2) := by decide +kernel
theorem dL_law_922 : decode cL_law 922 = .ok (.aload_n 3, 1) := by decide +kernel
theorem dL_law_923 : decode cL_law 923 = .ok (.iconst 2, 1) := by decide +kernel
theorem dL_law_924 : decode cL_law 924 = .ok (.iload 11, 2) := by decide +kernel
theorem dL_law_926 : decode cL_law 926 = .ok (.imul, 1) := by decide +kernel
theorem dL_law_927 : decode cL_law 927 = .ok (.iaload, 1) := by decide +kernel
theorem dL_law_928 : decode cL_law 928 = .ok (.iconst 1, 1) := by decide +kernel
theorem dL_law_929 : decode cL_law 929 = .ok (.if_icmp .eq 8, 3) := by decide +kernel
theorem dL_law_932 : decode cL_law 932 = .ok (.iload 12, 2) := by decide +kernel
theorem dL_law_934 : decode cL_law 934 = .ok (.ifCond .ne 7, 3) := by decide +kernel
theorem dL_law_937 : decode cL_law 937 = .ok (.iconst 1, 1) := by decide +kernel
theorem dL_law_938 : decode cL_law 938 = .ok (.goto 4, 3) := by decide +kernel
theorem dL_law_941 : decode cL_law 941 = .ok (.iconst 0, 1) := by decide +kernel
theorem dL_law_942 : decode cL_law 942 = .ok (.istore 4, 2) := by decide +kernel
theorem dL_law_944 : decode cL_law 944 = .ok (.iinc 11 1, 3) := by decide +kernel
theorem dL_law_947 : decode cL_law 947 = .ok (.goto (-54), 3) := by decide +kernel
theorem dL_law_950 : decode cL_law 950 = .ok (.iload 4, 2) := by decide +kernel
theorem dL_law_952 : decode cL_law 952 = .ok (.ifCond .eq 50, 3) := by decide +kernel
theorem dL_law_955 : decode cL_law 955 = .ok (.aload_n 1, 1) := by decide +kernel
theorem dL_law_956 : decode cL_law 956 = .ok (.aload_n 2, 1) := by decide +kernel
theorem dL_law_957 : decode cL_law 957 = .ok (.aload_n 3, 1) := by decide +kernel
theorem dL_law_958 : decode cL_law 958 = .ok (.iload 8, 2) := by decide +kernel
theorem dL_law_960 : decode cL_law 960 = .ok (.iload 5, 2) := by decide +kernel
theorem dL_law_962 : decode cL_law 962 = .ok (.iconst 4, 1) := by decide +kernel
theorem dL_law_963 : decode cL_law 963 = .ok (.irem, 1) := by decide +kernel
theorem dL_law_964 : decode cL_law 964 = .ok (.ifCond .ne 7, 3) := by decide +kernel
theorem dL_law_967 : decode cL_law 967 = .ok (.iconst 1, 1) := by decide +kernel
theorem dL_law_968 : decode cL_law 968 = .ok (.goto 4, 3) := by decide +kernel
theorem dL_law_971 : decode cL_law 971 = .ok (.iconst 0, 1) := by decide +kernel
theorem dL_law_972 : decode cL_law 972 = .ok (.invokestatic 101, 3) := by decide +kernel
theorem dL_law_975 : decode cL_law 975 = .ok (.ifCond .eq 27, 3) := by decide +kernel
theorem dL_law_978 : decode cL_law 978 = .ok (.iload 5, 2) := by decide +kernel
theorem dL_law_980 : decode cL_law 980 = .ok (.bipush 30, 2) := by decide +kernel
theorem dL_law_982 : decode cL_law 982 = .ok (.irem, 1) := by decide +kernel
theorem dL_law_983 : decode cL_law 983 = .ok (.ifCond .gt 15, 3) := by decide +kernel
theorem dL_law_986 : decode cL_law 986 = .ok (.aload_n 1, 1) := by decide +kernel
theorem dL_law_987 : decode cL_law 987 = .ok (.aload_n 2, 1) := by decide +kernel
theorem dL_law_988 : decode cL_law 988 = .ok (.iload 6, 2) := by decide +kernel
theorem dL_law_990 : decode cL_law 990 = .ok (.iconst 3, 1) := by decide +kernel
theorem dL_law_991 : decode cL_law 991 = .ok (.idiv, 1) := by decide +kernel
theorem dL_law_992 : decode cL_law 992 = .ok (.invokestatic 97, 3) := by decide +kernel
theorem dL_law_995 : decode cL_law 995 = .ok (.ifCond .eq 7, 3) := by decide +kernel
theorem dL_law_998 : decode cL_law 998 = .ok (.iconst 1, 1) := by decide +kernel
theorem dL_law_999 : decode cL_law 999 = .ok (.goto 4, 3) := by decide +kernel
theorem dL_law_1002 : decode cL_law 1002 = .ok (.iconst 0, 1) := by decide +kernel
theorem dL_law_1003 : decode cL_law 1003 = .ok (.istore 4, 2) := by decide +kernel
theorem dL_law_1005 : decode cL_law 1005 = .ok (.iinc 5 1, 3) := by decide +kernel
theorem dL_law_1008 : decode cL_law 1008 = .ok (.goto (-952), 3) := by decide +kernel
theorem dL_law_1011 : decode cL_law 1011 = .ok (.iload 4, 2) := by decide +kernel
theorem dL_law_1013 : decode cL_law 1013 = .ok (.ireturn, 1) := by decide +kernel
