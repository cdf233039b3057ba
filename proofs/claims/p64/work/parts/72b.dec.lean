theorem dL_thrown_0 : decode cL_thrown 0 = .ok (.aload_n 0, 1) := by decide +kernel
theorem dL_thrown_1 : decode cL_thrown 1 = .ok (.invokestatic 325, 3) := by decide +kernel
theorem dL_thrown_4 : decode cL_thrown 4 = .ok (.lstore_n 1, 1) := by decide +kernel
theorem dL_thrown_5 : decode cL_thrown 5 = .ok (.aload_n 0, 1) := by decide +kernel
theorem dL_thrown_6 : decode cL_thrown 6 = .ok (.invokevirtual 222, 3) := by decide +kernel
theorem dL_thrown_9 : decode cL_thrown 9 = .ok (.istore_n 3, 1) := by decide +kernel
theorem dL_thrown_10 : decode cL_thrown 10 = .ok (.aload_n 0, 1) := by decide +kernel
theorem dL_thrown_11 : decode cL_thrown 11 = .ok (.invokevirtual 251, 3) := by decide +kernel
theorem dL_thrown_14 : decode cL_thrown 14 = .ok (.istore 4, 2) := by decide +kernel
theorem dL_thrown_16 : decode cL_thrown 16 = .ok (.aload_n 0, 1) := by decide +kernel
theorem dL_thrown_17 : decode cL_thrown 17 = .ok (.bipush 6, 2) := by decide +kernel
theorem dL_thrown_19 : decode cL_thrown 19 = .ok (.bipush 6, 2) := by decide +kernel
theorem dL_thrown_21 : decode cL_thrown 21 = .ok (.invokestatic 208, 3) := by decide +kernel
theorem dL_thrown_24 : decode cL_thrown 24 = .ok (.sipush (-1001), 3) := by decide +kernel
theorem dL_thrown_27 : decode cL_thrown 27 = .ok (.if_icmp .ne 277, 3) := by decide +kernel
theorem dL_thrown_30 : decode cL_thrown 30 = .ok (.aload_n 0, 1) := by decide +kernel
theorem dL_thrown_31 : decode cL_thrown 31 = .ok (.iconst (-1), 1) := by decide +kernel
theorem dL_thrown_32 : decode cL_thrown 32 = .ok (.iconst 0, 1) := by decide +kernel
theorem dL_thrown_33 : decode cL_thrown 33 = .ok (.invokestatic 208, 3) := by decide +kernel
theorem dL_thrown_36 : decode cL_thrown 36 = .ok (.sipush (-1001), 3) := by decide +kernel
theorem dL_thrown_39 : decode cL_thrown 39 = .ok (.if_icmp .ne 265, 3) := by decide +kernel
theorem dL_thrown_42 : decode cL_thrown 42 = .ok (.aload_n 0, 1) := by decide +kernel
theorem dL_thrown_43 : decode cL_thrown 43 = .ok (.iconst 3, 1) := by decide +kernel
theorem dL_thrown_44 : decode cL_thrown 44 = .ok (.iconst 3, 1) := by decide +kernel
theorem dL_thrown_45 : decode cL_thrown 45 = .ok (.invokestatic 208, 3) := by decide +kernel
theorem dL_thrown_48 : decode cL_thrown 48 = .ok (.sipush (-1002), 3) := by decide +kernel
theorem dL_thrown_51 : decode cL_thrown 51 = .ok (.if_icmp .ne 253, 3) := by decide +kernel
theorem dL_thrown_54 : decode cL_thrown 54 = .ok (.aload_n 0, 1) := by decide +kernel
theorem dL_thrown_55 : decode cL_thrown 55 = .ok (.iconst 0, 1) := by decide +kernel
theorem dL_thrown_56 : decode cL_thrown 56 = .ok (.bipush 6, 2) := by decide +kernel
theorem dL_thrown_58 : decode cL_thrown 58 = .ok (.invokestatic 286, 3) := by decide +kernel
theorem dL_thrown_61 : decode cL_thrown 61 = .ok (.sipush (-1001), 3) := by decide +kernel
theorem dL_thrown_64 : decode cL_thrown 64 = .ok (.if_icmp .ne 240, 3) := by decide +kernel
theorem dL_thrown_67 : decode cL_thrown 67 = .ok (.aload_n 0, 1) := by decide +kernel
theorem dL_thrown_68 : decode cL_thrown 68 = .ok (.iconst 3, 1) := by decide +kernel
theorem dL_thrown_69 : decode cL_thrown 69 = .ok (.iconst 3, 1) := by decide +kernel
theorem dL_thrown_70 : decode cL_thrown 70 = .ok (.invokestatic 286, 3) := by decide +kernel
theorem dL_thrown_73 : decode cL_thrown 73 = .ok (.sipush (-1002), 3) := by decide +kernel
theorem dL_thrown_76 : decode cL_thrown 76 = .ok (.if_icmp .ne 228, 3) := by decide +kernel
theorem dL_thrown_79 : decode cL_thrown 79 = .ok (.aload_n 0, 1) := by decide +kernel
theorem dL_thrown_80 : decode cL_thrown 80 = .ok (.bipush 6, 2) := by decide +kernel
theorem dL_thrown_82 : decode cL_thrown 82 = .ok (.bipush 30, 2) := by decide +kernel
theorem dL_thrown_84 : decode cL_thrown 84 = .ok (.invokestatic 211, 3) := by decide +kernel
theorem dL_thrown_87 : decode cL_thrown 87 = .ok (.sipush (-1001), 3) := by decide +kernel
theorem dL_thrown_90 : decode cL_thrown 90 = .ok (.if_icmp .ne 214, 3) := by decide +kernel
theorem dL_thrown_93 : decode cL_thrown 93 = .ok (.aload_n 0, 1) := by decide +kernel
theorem dL_thrown_94 : decode cL_thrown 94 = .ok (.iconst 0, 1) := by decide +kernel
theorem dL_thrown_95 : decode cL_thrown 95 = .ok (.bipush 21, 2) := by decide +kernel
theorem dL_thrown_97 : decode cL_thrown 97 = .ok (.invokestatic 211, 3) := by decide +kernel
theorem dL_thrown_100 : decode cL_thrown 100 = .ok (.sipush (-1002), 3) := by decide +kernel
theorem dL_thrown_103 : decode cL_thrown 103 = .ok (.if_icmp .ne 201, 3) := by decide +kernel
theorem dL_thrown_106 : decode cL_thrown 106 = .ok (.aload_n 0, 1) := by decide +kernel
theorem dL_thrown_107 : decode cL_thrown 107 = .ok (.iconst 0, 1) := by decide +kernel
theorem dL_thrown_108 : decode cL_thrown 108 = .ok (.iconst (-1), 1) := by decide +kernel
theorem dL_thrown_109 : decode cL_thrown 109 = .ok (.invokestatic 211, 3) := by decide +kernel
theorem dL_thrown_112 : decode cL_thrown 112 = .ok (.sipush (-1002), 3) := by decide +kernel
theorem dL_thrown_115 : decode cL_thrown 115 = .ok (.if_icmp .ne 189, 3) := by decide +kernel
theorem dL_thrown_118 : decode cL_thrown 118 = .ok (.aload_n 0, 1) := by decide +kernel
theorem dL_thrown_119 : decode cL_thrown 119 = .ok (.bipush 6, 2) := by decide +kernel
theorem dL_thrown_121 : decode cL_thrown 121 = .ok (.bipush 30, 2) := by decide +kernel
theorem dL_thrown_123 : decode cL_thrown 123 = .ok (.invokestatic 213, 3) := by decide +kernel
theorem dL_thrown_126 : decode cL_thrown 126 = .ok (.sipush (-1001), 3) := by decide +kernel
theorem dL_thrown_129 : decode cL_thrown 129 = .ok (.if_icmp .ne 175, 3) := by decide +kernel
theorem dL_thrown_132 : decode cL_thrown 132 = .ok (.aload_n 0, 1) := by decide +kernel
theorem dL_thrown_133 : decode cL_thrown 133 = .ok (.iconst 0, 1) := by decide +kernel
theorem dL_thrown_134 : decode cL_thrown 134 = .ok (.bipush 10, 2) := by decide +kernel
theorem dL_thrown_136 : decode cL_thrown 136 = .ok (.invokestatic 213, 3) := by decide +kernel
theorem dL_thrown_139 : decode cL_thrown 139 = .ok (.sipush (-1002), 3) := by decide +kernel
theorem dL_thrown_142 : decode cL_thrown 142 = .ok (.if_icmp .ne 162, 3) := by decide +kernel
theorem dL_thrown_145 : decode cL_thrown 145 = .ok (.aload_n 0, 1) := by decide +kernel
theorem dL_thrown_146 : decode cL_thrown 146 = .ok (.iconst 0, 1) := by decide +kernel
theorem dL_thrown_147 : decode cL_thrown 147 = .ok (.iconst (-1), 1) := by decide +kernel
theorem dL_thrown_148 : decode cL_thrown 148 = .ok (.invokestatic 213, 3) := by decide +kernel
theorem dL_thrown_151 : decode cL_thrown 151 = .ok (.sipush (-1002), 3) := by decide +kernel
theorem dL_thrown_154 : decode cL_thrown 154 = .ok (.if_icmp .ne 150, 3) := by decide +kernel
theorem dL_thrown_157 : decode cL_thrown 157 = .ok (.aload_n 0, 1) := by decide +kernel
theorem dL_thrown_158 : decode cL_thrown 158 = .ok (.bipush 99, 2) := by decide +kernel
theorem dL_thrown_160 : decode cL_thrown 160 = .ok (.invokestatic 288, 3) := by decide +kernel
theorem dL_thrown_163 : decode cL_thrown 163 = .ok (.sipush (-1001), 3) := by decide +kernel
theorem dL_thrown_166 : decode cL_thrown 166 = .ok (.if_icmp .ne 138, 3) := by decide +kernel
theorem dL_thrown_169 : decode cL_thrown 169 = .ok (.aload_n 0, 1) := by decide +kernel
theorem dL_thrown_170 : decode cL_thrown 170 = .ok (.iconst (-1), 1) := by decide +kernel
theorem dL_thrown_171 : decode cL_thrown 171 = .ok (.invokestatic 288, 3) := by decide +kernel
theorem dL_thrown_174 : decode cL_thrown 174 = .ok (.sipush (-1001), 3) := by decide +kernel
theorem dL_thrown_177 : decode cL_thrown 177 = .ok (.if_icmp .ne 127, 3) := by decide +kernel
theorem dL_thrown_180 : decode cL_thrown 180 = .ok (.aload_n 0, 1) := by decide +kernel
theorem dL_thrown_181 : decode cL_thrown 181 = .ok (.bipush 99, 2) := by decide +kernel
theorem dL_thrown_183 : decode cL_thrown 183 = .ok (.invokestatic 215, 3) := by decide +kernel
theorem dL_thrown_186 : decode cL_thrown 186 = .ok (.sipush (-1001), 3) := by decide +kernel
theorem dL_thrown_189 : decode cL_thrown 189 = .ok (.if_icmp .ne 115, 3) := by decide +kernel
theorem dL_thrown_192 : decode cL_thrown 192 = .ok (.aload_n 0, 1) := by decide +kernel
theorem dL_thrown_193 : decode cL_thrown 193 = .ok (.bipush 99, 2) := by decide +kernel
theorem dL_thrown_195 : decode cL_thrown 195 = .ok (.invokestatic 291, 3) := by decide +kernel
theorem dL_thrown_198 : decode cL_thrown 198 = .ok (.sipush (-1001), 3) := by decide +kernel
theorem dL_thrown_201 : decode cL_thrown 201 = .ok (.if_icmp .ne 103, 3) := by decide +kernel
theorem dL_thrown_204 : decode cL_thrown 204 = .ok (.aload_n 0, 1) := by decide +kernel
theorem dL_thrown_205 : decode cL_thrown 205 = .ok (.bipush 99, 2) := by decide +kernel
theorem dL_thrown_207 : decode cL_thrown 207 = .ok (.iconst 0, 1) := by decide +kernel
theorem dL_thrown_208 : decode cL_thrown 208 = .ok (.invokestatic 293, 3) := by decide +kernel
theorem dL_thrown_211 : decode cL_thrown 211 = .ok (.sipush (-1001), 3) := by decide +kernel
theorem dL_thrown_214 : decode cL_thrown 214 = .ok (.if_icmp .ne 90, 3) := by decide +kernel
theorem dL_thrown_217 : decode cL_thrown 217 = .ok (.aload_n 0, 1) := by decide +kernel
theorem dL_thrown_218 : decode cL_thrown 218 = .ok (.iconst 0, 1) := by decide +kernel
theorem dL_thrown_219 : decode cL_thrown 219 = .ok (.bipush 6, 2) := by decide +kernel
theorem dL_thrown_221 : decode cL_thrown 221 = .ok (.invokestatic 296, 3) := by decide +kernel
theorem dL_thrown_224 : decode cL_thrown 224 = .ok (.sipush (-1001), 3) := by decide +kernel
theorem dL_thrown_227 : decode cL_thrown 227 = .ok (.if_icmp .ne 77, 3) := by decide +kernel
theorem dL_thrown_230 : decode cL_thrown 230 = .ok (.aload_n 0, 1) := by decide +kernel
theorem dL_thrown_231 : decode cL_thrown 231 = .ok (.iconst (-1), 1) := by decide +kernel
theorem dL_thrown_232 : decode cL_thrown 232 = .ok (.iconst 0, 1) := by decide +kernel
theorem dL_thrown_233 : decode cL_thrown 233 = .ok (.invokestatic 296, 3) := by decide +kernel
theorem dL_thrown_236 : decode cL_thrown 236 = .ok (.sipush (-1001), 3) := by decide +kernel
theorem dL_thrown_239 : decode cL_thrown 239 = .ok (.if_icmp .ne 65, 3) := by decide +kernel
theorem dL_thrown_242 : decode cL_thrown 242 = .ok (.aload_n 0, 1) := by decide +kernel
theorem dL_thrown_243 : decode cL_thrown 243 = .ok (.bipush 99, 2) := by decide +kernel
theorem dL_thrown_245 : decode cL_thrown 245 = .ok (.invokestatic 298, 3) := by decide +kernel
theorem dL_thrown_248 : decode cL_thrown 248 = .ok (.sipush (-1001), 3) := by decide +kernel
theorem dL_thrown_251 : decode cL_thrown 251 = .ok (.if_icmp .ne 53, 3) := by decide +kernel
theorem dL_thrown_254 : decode cL_thrown 254 = .ok (.aload_n 0, 1) := by decide +kernel
theorem dL_thrown_255 : decode cL_thrown 255 = .ok (.iconst 0, 1) := by decide +kernel
theorem dL_thrown_256 : decode cL_thrown 256 = .ok (.invokestatic 300, 3) := by decide +kernel
theorem dL_thrown_259 : decode cL_thrown 259 = .ok (.sipush (-1001), 3) := by decide +kernel
theorem dL_thrown_262 : decode cL_thrown 262 = .ok (.if_icmp .ne 42, 3) := by decide +kernel
theorem dL_thrown_265 : decode cL_thrown 265 = .ok (.aload_n 0, 1) := by decide +kernel
theorem dL_thrown_266 : decode cL_thrown 266 = .ok (.bipush 11, 2) := by decide +kernel
theorem dL_thrown_268 : decode cL_thrown 268 = .ok (.invokestatic 300, 3) := by decide +kernel
theorem dL_thrown_271 : decode cL_thrown 271 = .ok (.sipush (-1001), 3) := by decide +kernel
theorem dL_thrown_274 : decode cL_thrown 274 = .ok (.if_icmp .ne 30, 3) := by decide +kernel
theorem dL_thrown_277 : decode cL_thrown 277 = .ok (.aload_n 0, 1) := by decide +kernel
theorem dL_thrown_278 : decode cL_thrown 278 = .ok (.iconst 0, 1) := by decide +kernel
theorem dL_thrown_279 : decode cL_thrown 279 = .ok (.invokestatic 220, 3) := by decide +kernel
theorem dL_thrown_282 : decode cL_thrown 282 = .ok (.sipush (-1001), 3) := by decide +kernel
theorem dL_thrown_285 : decode cL_thrown 285 = .ok (.if_icmp .ne 19, 3) := by decide +kernel
theorem dL_thrown_288 : decode cL_thrown 288 = .ok (.aload_n 0, 1) := by decide +kernel
theorem dL_thrown_289 : decode cL_thrown 289 = .ok (.bipush 21, 2) := by decide +kernel
theorem dL_thrown_291 : decode cL_thrown 291 = .ok (.invokestatic 220, 3) := by decide +kernel
theorem dL_thrown_294 : decode cL_thrown 294 = .ok (.sipush (-1001), 3) := by decide +kernel
theorem dL_thrown_297 : decode cL_thrown 297 = .ok (.if_icmp .ne 7, 3) := by decide +kernel
theorem dL_thrown_300 : decode cL_thrown 300 = .ok (.iconst 1, 1) := by decide +kernel
theorem dL_thrown_301 : decode cL_thrown 301 = .ok (.goto 4, 3) := by decide +kernel
theorem dL_thrown_304 : decode cL_thrown 304 = .ok (.iconst 0, 1) := by decide +kernel
theorem dL_thrown_305 : decode cL_thrown 305 = .ok (.istore 5, 2) := by decide +kernel
theorem dL_thrown_307 : decode cL_thrown 307 = .ok (.iload 4, 2) := by decide +kernel
theorem dL_thrown_309 : decode cL_thrown 309 = .ok (.bipush 10, 2) := by decide +kernel
theorem dL_thrown_311 : decode cL_thrown 311 = .ok (.if_icmp .le 38, 3) := by decide +kernel
theorem dL_thrown_314 : decode cL_thrown 314 = .ok (.iload 5, 2) := by decide +kernel
theorem dL_thrown_316 : decode cL_thrown 316 = .ok (.ifCond .eq 30, 3) := by decide +kernel
theorem dL_thrown_319 : decode cL_thrown 319 = .ok (.aload_n 0, 1) := by decide +kernel
theorem dL_thrown_320 : decode cL_thrown 320 = .ok (.bipush 10, 2) := by decide +kernel
theorem dL_thrown_322 : decode cL_thrown 322 = .ok (.invokestatic 300, 3) := by decide +kernel
theorem dL_thrown_325 : decode cL_thrown 325 = .ok (.sipush (-1002), 3) := by decide +kernel
theorem dL_thrown_328 : decode cL_thrown 328 = .ok (.if_icmp .ne 18, 3) := by decide +kernel
theorem dL_thrown_331 : decode cL_thrown 331 = .ok (.aload_n 0, 1) := by decide +kernel
theorem dL_thrown_332 : decode cL_thrown 332 = .ok (.bipush 10, 2) := by decide +kernel
theorem dL_thrown_334 : decode cL_thrown 334 = .ok (.iload 4, 2) := by decide +kernel
theorem dL_thrown_336 : decode cL_thrown 336 = .ok (.invokestatic 329, 3) := by decide +kernel
theorem dL_thrown_339 : decode cL_thrown 339 = .ok (.ifCond .eq 7, 3) := by decide +kernel
theorem dL_thrown_342 : decode cL_thrown 342 = .ok (.iconst 1, 1) := by decide +kernel
theorem dL_thrown_343 : decode cL_thrown 343 = .ok (.goto 4, 3) := by decide +kernel
theorem dL_thrown_346 : decode cL_thrown 346 = .ok (.iconst 0, 1) := by decide +kernel
theorem dL_thrown_347 : decode cL_thrown 347 = .ok (.istore 5, 2) := by decide +kernel
theorem dL_thrown_349 : decode cL_thrown 349 = .ok (.iconst 0, 1) := by decide +kernel
theorem dL_thrown_350 : decode cL_thrown 350 = .ok (.istore 6, 2) := by decide +kernel
theorem dL_thrown_352 : decode cL_thrown 352 = .ok (.iload 6, 2) := by decide +kernel
theorem dL_thrown_354 : decode cL_thrown 354 = .ok (.bipush 6, 2) := by decide +kernel
theorem dL_thrown_356 : decode cL_thrown 356 = .ok (.if_icmp .ge 351, 3) := by decide +kernel
theorem dL_thrown_359 : decode cL_thrown 359 = .ok (.iconst 0, 1) := by decide +kernel
theorem dL_thrown_360 : decode cL_thrown 360 = .ok (.istore 7, 2) := by decide +kernel
theorem dL_thrown_362 : decode cL_thrown 362 = .ok (.iload 7, 2) := by decide +kernel
theorem dL_thrown_364 : decode cL_thrown 364 = .ok (.bipush 6, 2) := by decide +kernel
theorem dL_thrown_366 : decode cL_thrown 366 = .ok (.if_icmp .ge 243, 3) := by decide +kernel
theorem dL_thrown_369 : decode cL_thrown 369 = .ok (.aload_n 0, 1) := by decide +kernel
theorem dL_thrown_370 : decode cL_thrown 370 = .ok (.iload 6, 2) := by decide +kernel
theorem dL_thrown_372 : decode cL_thrown 372 = .ok (.iload 7, 2) := by decide +kernel
theorem dL_thrown_374 : decode cL_thrown 374 = .ok (.invokestatic 276, 3) := by decide +kernel
theorem dL_thrown_377 : decode cL_thrown 377 = .ok (.istore 8, 2) := by decide +kernel
theorem dL_thrown_379 : decode cL_thrown 379 = .ok (.iload 6, 2) := by decide +kernel
theorem dL_thrown_381 : decode cL_thrown 381 = .ok (.iload 7, 2) := by decide +kernel
theorem dL_thrown_383 : decode cL_thrown 383 = .ok (.if_icmp .eq 53, 3) := by decide +kernel
theorem dL_thrown_386 : decode cL_thrown 386 = .ok (.aload_n 0, 1) := by decide +kernel
theorem dL_thrown_387 : decode cL_thrown 387 = .ok (.iload 6, 2) := by decide +kernel
theorem dL_thrown_389 : decode cL_thrown 389 = .ok (.iload 7, 2) := by decide +kernel
theorem dL_thrown_391 : decode cL_thrown 391 = .ok (.invokestatic 333, 3) := by decide +kernel
theorem dL_thrown_394 : decode cL_thrown 394 = .ok (.iconst 1, 1) := by decide +kernel
theorem dL_thrown_395 : decode cL_thrown 395 = .ok (.if_icmp .ne 41, 3) := by decide +kernel
theorem dL_thrown_398 : decode cL_thrown 398 = .ok (.iload 5, 2) := by decide +kernel
theorem dL_thrown_400 : decode cL_thrown 400 = .ok (.ifCond .eq 33, 3) := by decide +kernel
theorem dL_thrown_403 : decode cL_thrown 403 = .ok (.aload_n 0, 1) := by decide +kernel
theorem dL_thrown_404 : decode cL_thrown 404 = .ok (.iload 6, 2) := by decide +kernel
theorem dL_thrown_406 : decode cL_thrown 406 = .ok (.iload 7, 2) := by decide +kernel
theorem dL_thrown_408 : decode cL_thrown 408 = .ok (.invokestatic 208, 3) := by decide +kernel
theorem dL_thrown_411 : decode cL_thrown 411 = .ok (.sipush (-1003), 3) := by decide +kernel
theorem dL_thrown_414 : decode cL_thrown 414 = .ok (.if_icmp .ne 19, 3) := by decide +kernel
theorem dL_thrown_417 : decode cL_thrown 417 = .ok (.aload_n 0, 1) := by decide +kernel
theorem dL_thrown_418 : decode cL_thrown 418 = .ok (.iconst 1, 1) := by decide +kernel
theorem dL_thrown_419 : decode cL_thrown 419 = .ok (.aload_n 0, 1) := by decide +kernel
theorem dL_thrown_420 : decode cL_thrown 420 = .ok (.invokevirtual 245, 3) := by decide +kernel
theorem dL_thrown_423 : decode cL_thrown 423 = .ok (.invokestatic 329, 3) := by decide +kernel
theorem dL_thrown_426 : decode cL_thrown 426 = .ok (.ifCond .eq 7, 3) := by decide +kernel
theorem dL_thrown_429 : decode cL_thrown 429 = .ok (.iconst 1, 1) := by decide +kernel
theorem dL_thrown_430 : decode cL_thrown 430 = .ok (.goto 4, 3) := by decide +kernel
theorem dL_thrown_433 : decode cL_thrown 433 = .ok (.iconst 0, 1) := by decide +kernel
theorem dL_thrown_434 : decode cL_thrown 434 = .ok (.istore 5, 2) := by decide +kernel
theorem dL_thrown_436 : decode cL_thrown 436 = .ok (.iload 6, 2) := by decide +kernel
theorem dL_thrown_438 : decode cL_thrown 438 = .ok (.iload 7, 2) := by decide +kernel
theorem dL_thrown_440 : decode cL_thrown 440 = .ok (.if_icmp .eq 59, 3) := by decide +kernel
theorem dL_thrown_443 : decode cL_thrown 443 = .ok (.aload_n 0, 1) := by decide +kernel
theorem dL_thrown_444 : decode cL_thrown 444 = .ok (.iload 6, 2) := by decide +kernel
theorem dL_thrown_446 : decode cL_thrown 446 = .ok (.iload 7, 2) := by decide +kernel
theorem dL_thrown_448 : decode cL_thrown 448 = .ok (.invokestatic 333, 3) := by decide +kernel
theorem dL_thrown_451 : decode cL_thrown 451 = .ok (.ifCond .ne 48, 3) := by decide +kernel
theorem dL_thrown_454 : decode cL_thrown 454 = .ok (.iload 5, 2) := by decide +kernel
theorem dL_thrown_456 : decode cL_thrown 456 = .ok (.ifCond .eq 40, 3) := by decide +kernel
theorem dL_thrown_459 : decode cL_thrown 459 = .ok (.aload_n 0, 1) := by decide +kernel
theorem dL_thrown_460 : decode cL_thrown 460 = .ok (.iload 6, 2) := by decide +kernel
theorem dL_thrown_462 : decode cL_thrown 462 = .ok (.iload 7, 2) := by decide +kernel
theorem dL_thrown_464 : decode cL_thrown 464 = .ok (.invokestatic 286, 3) := by decide +kernel
theorem dL_thrown_467 : decode cL_thrown 467 = .ok (.sipush (-1003), 3) := by decide +kernel
theorem dL_thrown_470 : decode cL_thrown 470 = .ok (.if_icmp .ne 26, 3) := by decide +kernel
theorem dL_thrown_473 : decode cL_thrown 473 = .ok (.aload_n 0, 1) := by decide +kernel
theorem dL_thrown_474 : decode cL_thrown 474 = .ok (.iconst 2, 1) := by decide +kernel
theorem dL_thrown_475 : decode cL_thrown 475 = .ok (.iload 8, 2) := by decide +kernel
theorem dL_thrown_477 : decode cL_thrown 477 = .ok (.ifCond .ge 7, 3) := by decide +kernel
theorem dL_thrown_480 : decode cL_thrown 480 = .ok (.iconst (-1), 1) := by decide +kernel
theorem dL_thrown_481 : decode cL_thrown 481 = .ok (.goto 5, 3) := by decide +kernel
theorem dL_thrown_484 : decode cL_thrown 484 = .ok (.iload 8, 2) := by decide +kernel
theorem dL_thrown_486 : decode cL_thrown 486 = .ok (.invokestatic 329, 3) := by decide +kernel
theorem dL_thrown_489 : decode cL_thrown 489 = .ok (.ifCond .eq 7, 3) := by decide +kernel
theorem dL_thrown_492 : decode cL_thrown 492 = .ok (.iconst 1, 1) := by decide +kernel
theorem dL_thrown_493 : decode cL_thrown 493 = .ok (.goto 4, 3) := by decide +kernel
theorem dL_thrown_496 : decode cL_thrown 496 = .ok (.iconst 0, 1) := by decide +kernel
theorem dL_thrown_497 : decode cL_thrown 497 = .ok (.istore 5, 2) := by decide +kernel
theorem dL_thrown_499 : decode cL_thrown 499 = .ok (.aload_n 0, 1) := by decide +kernel
theorem dL_thrown_500 : decode cL_thrown 500 = .ok (.iload 6, 2) := by decide +kernel
theorem dL_thrown_502 : decode cL_thrown 502 = .ok (.iload 7, 2) := by decide +kernel
theorem dL_thrown_504 : decode cL_thrown 504 = .ok (.invokestatic 333, 3) := by decide +kernel
theorem dL_thrown_507 : decode cL_thrown 507 = .ok (.ifCond .ne 51, 3) := by decide +kernel
theorem dL_thrown_510 : decode cL_thrown 510 = .ok (.iload 5, 2) := by decide +kernel
theorem dL_thrown_512 : decode cL_thrown 512 = .ok (.ifCond .eq 40, 3) := by decide +kernel
theorem dL_thrown_515 : decode cL_thrown 515 = .ok (.aload_n 0, 1) := by decide +kernel
theorem dL_thrown_516 : decode cL_thrown 516 = .ok (.iload 6, 2) := by decide +kernel
theorem dL_thrown_518 : decode cL_thrown 518 = .ok (.iload 7, 2) := by decide +kernel
theorem dL_thrown_520 : decode cL_thrown 520 = .ok (.invokestatic 296, 3) := by decide +kernel
theorem dL_thrown_523 : decode cL_thrown 523 = .ok (.sipush (-1002), 3) := by decide +kernel
theorem dL_thrown_526 : decode cL_thrown 526 = .ok (.if_icmp .ne 26, 3) := by decide +kernel
theorem dL_thrown_529 : decode cL_thrown 529 = .ok (.aload_n 0, 1) := by decide +kernel
theorem dL_thrown_530 : decode cL_thrown 530 = .ok (.iconst 2, 1) := by decide +kernel
theorem dL_thrown_531 : decode cL_thrown 531 = .ok (.iload 8, 2) := by decide +kernel
theorem dL_thrown_533 : decode cL_thrown 533 = .ok (.ifCond .ge 7, 3) := by decide +kernel
theorem dL_thrown_536 : decode cL_thrown 536 = .ok (.iconst (-1), 1) := by decide +kernel
theorem dL_thrown_537 : decode cL_thrown 537 = .ok (.goto 5, 3) := by decide +kernel
theorem dL_thrown_540 : decode cL_thrown 540 = .ok (.iload 8, 2) := by decide +kernel
theorem dL_thrown_542 : decode cL_thrown 542 = .ok (.invokestatic 329, 3) := by decide +kernel
theorem dL_thrown_545 : decode cL_thrown 545 = .ok (.ifCond .eq 7, 3) := by decide +kernel
theorem dL_thrown_548 : decode cL_thrown 548 = .ok (.iconst 1, 1) := by decide +kernel
theorem dL_thrown_549 : decode cL_thrown 549 = .ok (.goto 4, 3) := by decide +kernel
theorem dL_thrown_552 : decode cL_thrown 552 = .ok (.iconst 0, 1) := by decide +kernel
theorem dL_thrown_553 : decode cL_thrown 553 = .ok (.istore 5, 2) := by decide +kernel
theorem dL_thrown_555 : decode cL_thrown 555 = .ok (.goto 48, 3) := by decide +kernel
theorem dL_thrown_558 : decode cL_thrown 558 = .ok (.aload_n 0, 1) := by decide +kernel
theorem dL_thrown_559 : decode cL_thrown 559 = .ok (.iload 6, 2) := by decide +kernel
theorem dL_thrown_561 : decode cL_thrown 561 = .ok (.invokestatic 335, 3) := by decide +kernel
theorem dL_thrown_564 : decode cL_thrown 564 = .ok (.ifCond .ne 39, 3) := by decide +kernel
theorem dL_thrown_567 : decode cL_thrown 567 = .ok (.iload 5, 2) := by decide +kernel
theorem dL_thrown_569 : decode cL_thrown 569 = .ok (.ifCond .eq 31, 3) := by decide +kernel
theorem dL_thrown_572 : decode cL_thrown 572 = .ok (.aload_n 0, 1) := by decide +kernel
theorem dL_thrown_573 : decode cL_thrown 573 = .ok (.iload 6, 2) := by decide +kernel
theorem dL_thrown_575 : decode cL_thrown 575 = .ok (.iload 7, 2) := by decide +kernel
theorem dL_thrown_577 : decode cL_thrown 577 = .ok (.invokestatic 296, 3) := by decide +kernel
theorem dL_thrown_580 : decode cL_thrown 580 = .ok (.sipush (-1002), 3) := by decide +kernel
theorem dL_thrown_583 : decode cL_thrown 583 = .ok (.if_icmp .ne 17, 3) := by decide +kernel
theorem dL_thrown_586 : decode cL_thrown 586 = .ok (.aload_n 0, 1) := by decide +kernel
theorem dL_thrown_587 : decode cL_thrown 587 = .ok (.bipush 7, 2) := by decide +kernel
theorem dL_thrown_589 : decode cL_thrown 589 = .ok (.iconst 0, 1) := by decide +kernel
theorem dL_thrown_590 : decode cL_thrown 590 = .ok (.invokestatic 329, 3) := by decide +kernel
theorem dL_thrown_593 : decode cL_thrown 593 = .ok (.ifCond .eq 7, 3) := by decide +kernel
theorem dL_thrown_596 : decode cL_thrown 596 = .ok (.iconst 1, 1) := by decide +kernel
theorem dL_thrown_597 : decode cL_thrown 597 = .ok (.goto 4, 3) := by decide +kernel
theorem dL_thrown_600 : decode cL_thrown 600 = .ok (.iconst 0, 1) := by decide +kernel
theorem dL_thrown_601 : decode cL_thrown 601 = .ok (.istore 5, 2) := by decide +kernel
theorem dL_thrown_603 : decode cL_thrown 603 = .ok (.iinc 7 1, 3) := by decide +kernel
theorem dL_thrown_606 : decode cL_thrown 606 = .ok (.goto (-244), 3) := by decide +kernel
theorem dL_thrown_609 : decode cL_thrown 609 = .ok (.iload_n 3, 1) := by decide +kernel
theorem dL_thrown_610 : decode cL_thrown 610 = .ok (.bipush 12, 2) := by decide +kernel
theorem dL_thrown_612 : decode cL_thrown 612 = .ok (.if_icmp .ge 48, 3) := by decide +kernel
theorem dL_thrown_615 : decode cL_thrown 615 = .ok (.aload_n 0, 1) := by decide +kernel
theorem dL_thrown_616 : decode cL_thrown 616 = .ok (.iload 6, 2) := by decide +kernel
theorem dL_thrown_618 : decode cL_thrown 618 = .ok (.invokestatic 335, 3) := by decide +kernel
theorem dL_thrown_621 : decode cL_thrown 621 = .ok (.iconst 5, 1) := by decide +kernel
theorem dL_thrown_622 : decode cL_thrown 622 = .ok (.if_icmp .ne 38, 3) := by decide +kernel
theorem dL_thrown_625 : decode cL_thrown 625 = .ok (.iload 5, 2) := by decide +kernel
theorem dL_thrown_627 : decode cL_thrown 627 = .ok (.ifCond .eq 30, 3) := by decide +kernel
theorem dL_thrown_630 : decode cL_thrown 630 = .ok (.aload_n 0, 1) := by decide +kernel
theorem dL_thrown_631 : decode cL_thrown 631 = .ok (.iload 6, 2) := by decide +kernel
theorem dL_thrown_633 : decode cL_thrown 633 = .ok (.iconst 0, 1) := by decide +kernel
theorem dL_thrown_634 : decode cL_thrown 634 = .ok (.invokestatic 213, 3) := by decide +kernel
theorem dL_thrown_637 : decode cL_thrown 637 = .ok (.sipush (-1003), 3) := by decide +kernel
theorem dL_thrown_640 : decode cL_thrown 640 = .ok (.if_icmp .ne 17, 3) := by decide +kernel
theorem dL_thrown_643 : decode cL_thrown 643 = .ok (.aload_n 0, 1) := by decide +kernel
theorem dL_thrown_644 : decode cL_thrown 644 = .ok (.iconst 4, 1) := by decide +kernel
theorem dL_thrown_645 : decode cL_thrown 645 = .ok (.iload 6, 2) := by decide +kernel
theorem dL_thrown_647 : decode cL_thrown 647 = .ok (.invokestatic 329, 3) := by decide +kernel
theorem dL_thrown_650 : decode cL_thrown 650 = .ok (.ifCond .eq 7, 3) := by decide +kernel
theorem dL_thrown_653 : decode cL_thrown 653 = .ok (.iconst 1, 1) := by decide +kernel
theorem dL_thrown_654 : decode cL_thrown 654 = .ok (.goto 4, 3) := by decide +kernel
theorem dL_thrown_657 : decode cL_thrown 657 = .ok (.iconst 0, 1) := by decide +kernel
theorem dL_thrown_658 : decode cL_thrown 658 = .ok (.istore 5, 2) := by decide +kernel
theorem dL_thrown_660 : decode cL_thrown 660 = .ok (.iload_n 3, 1) := by decide +kernel
theorem dL_thrown_661 : decode cL_thrown 661 = .ok (.bipush 12, 2) := by decide +kernel
theorem dL_thrown_663 : decode cL_thrown 663 = .ok (.if_icmp .ne 38, 3) := by decide +kernel
theorem dL_thrown_666 : decode cL_thrown 666 = .ok (.iload 5, 2) := by decide +kernel
theorem dL_thrown_668 : decode cL_thrown 668 = .ok (.ifCond .eq 30, 3) := by decide +kernel
theorem dL_thrown_671 : decode cL_thrown 671 = .ok (.aload_n 0, 1) := by decide +kernel
theorem dL_thrown_672 : decode cL_thrown 672 = .ok (.iload 6, 2) := by decide +kernel
theorem dL_thrown_674 : decode cL_thrown 674 = .ok (.iconst 0, 1) := by decide +kernel
theorem dL_thrown_675 : decode cL_thrown 675 = .ok (.invokestatic 213, 3) := by decide +kernel
theorem dL_thrown_678 : decode cL_thrown 678 = .ok (.sipush (-1003), 3) := by decide +kernel
theorem dL_thrown_681 : decode cL_thrown 681 = .ok (.if_icmp .ne 17, 3) := by decide +kernel
theorem dL_thrown_684 : decode cL_thrown 684 = .ok (.aload_n 0, 1) := by decide +kernel
theorem dL_thrown_685 : decode cL_thrown 685 = .ok (.iconst 3, 1) := by decide +kernel
theorem dL_thrown_686 : decode cL_thrown 686 = .ok (.bipush 12, 2) := by decide +kernel
theorem dL_thrown_688 : decode cL_thrown 688 = .ok (.invokestatic 329, 3) := by decide +kernel
theorem dL_thrown_691 : decode cL_thrown 691 = .ok (.ifCond .eq 7, 3) := by decide +kernel
theorem dL_thrown_694 : decode cL_thrown 694 = .ok (.iconst 1, 1) := by decide +kernel
theorem dL_thrown_695 : decode cL_thrown 695 = .ok (.goto 4, 3) := by decide +kernel
theorem dL_thrown_698 : decode cL_thrown 698 = .ok (.iconst 0, 1) := by decide +kernel
theorem dL_thrown_699 : decode cL_thrown 699 = .ok (.istore 5, 2) := by decide +kernel
theorem dL_thrown_701 : decode cL_thrown 701 = .ok (.iinc 6 1, 3) := by decide +kernel
theorem dL_thrown_704 : decode cL_thrown 704 = .ok (.goto (-352), 3) := by decide +kernel
theorem dL_thrown_707 : decode cL_thrown 707 = .ok (.iconst 0, 1) := by decide +kernel
theorem dL_thrown_708 : decode cL_thrown 708 = .ok (.istore 6, 2) := by decide +kernel
theorem dL_thrown_710 : decode cL_thrown 710 = .ok (.iload 6, 2) := by decide +kernel
theorem dL_thrown_712 : decode cL_thrown 712 = .ok (.iload_n 3, 1) := by decide +kernel
theorem dL_thrown_713 : decode cL_thrown 713 = .ok (.if_icmp .ge 247, 3) := by decide +kernel
theorem dL_thrown_716 : decode cL_thrown 716 = .ok (.aload_n 0, 1) := by decide +kernel
theorem dL_thrown_717 : decode cL_thrown 717 = .ok (.iload 6, 2) := by decide +kernel
theorem dL_thrown_719 : decode cL_thrown 719 = .ok (.invokestatic 280, 3) := by decide +kernel
theorem dL_thrown_722 : decode cL_thrown 722 = .ok (.istore 7, 2) := by decide +kernel
theorem dL_thrown_724 : decode cL_thrown 724 = .ok (.iload 5, 2) := by decide +kernel
theorem dL_thrown_726 : decode cL_thrown 726 = .ok (.ifCond .eq 134, 3) := by decide +kernel
theorem dL_thrown_729 : decode cL_thrown 729 = .ok (.aload_n 0, 1) := by decide +kernel
theorem dL_thrown_730 : decode cL_thrown 730 = .ok (.iload 7, 2) := by decide +kernel
theorem dL_thrown_732 : decode cL_thrown 732 = .ok (.bipush 6, 2) := by decide +kernel
theorem dL_thrown_734 : decode cL_thrown 734 = .ok (.invokestatic 293, 3) := by decide +kernel
theorem dL_thrown_737 : decode cL_thrown 737 = .ok (.sipush (-1001), 3) := by decide +kernel
theorem dL_thrown_740 : decode cL_thrown 740 = .ok (.if_icmp .ne 120, 3) := by decide +kernel
theorem dL_thrown_743 : decode cL_thrown 743 = .ok (.aload_n 0, 1) := by decide +kernel
theorem dL_thrown_744 : decode cL_thrown 744 = .ok (.iload 7, 2) := by decide +kernel
theorem dL_thrown_746 : decode cL_thrown 746 = .ok (.invokestatic 337, 3) := by decide +kernel
theorem dL_thrown_749 : decode cL_thrown 749 = .ok (.iconst 1, 1) := by decide +kernel
