theorem dL_isWalk_217 : decode cL_isWalk 217 = .ok (.iconst 0, 1) := by decide +kernel
theorem dL_isWalk_218 : decode cL_isWalk 218 = .ok (.istore 16, 2) := by decide +kernel
theorem dL_isWalk_220 : decode cL_isWalk 220 = .ok (.aload 6, 2) := by decide +kernel
theorem dL_isWalk_222 : decode cL_isWalk 222 = .ok (.iload 13, 2) := by decide +kernel
theorem dL_isWalk_224 : decode cL_isWalk 224 = .ok (.bipush 48, 2) := by decide +kernel
theorem dL_isWalk_226 : decode cL_isWalk 226 = .ok (.idiv, 1) := by decide +kernel
theorem dL_isWalk_227 : decode cL_isWalk 227 = .ok (.dup2, 1) := by decide +kernel
theorem dL_isWalk_228 : decode cL_isWalk 228 = .ok (.laload, 1) := by decide +kernel
theorem dL_isWalk_229 : decode cL_isWalk 229 = .ok (.iload 16, 2) := by decide +kernel
theorem dL_isWalk_231 : decode cL_isWalk 231 = .ok (.ifCond .eq 13, 3) := by decide +kernel
theorem dL_isWalk_234 : decode cL_isWalk 234 = .ok (.lconst 1, 1) := by decide +kernel
theorem dL_isWalk_235 : decode cL_isWalk 235 = .ok (.iload 13, 2) := by decide +kernel
theorem dL_isWalk_237 : decode cL_isWalk 237 = .ok (.bipush 48, 2) := by decide +kernel
theorem dL_isWalk_239 : decode cL_isWalk 239 = .ok (.irem, 1) := by decide +kernel
theorem dL_isWalk_240 : decode cL_isWalk 240 = .ok (.lshl, 1) := by decide +kernel
theorem dL_isWalk_241 : decode cL_isWalk 241 = .ok (.goto 4, 3) := by decide +kernel
theorem dL_isWalk_244 : decode cL_isWalk 244 = .ok (.lconst 0, 1) := by decide +kernel
theorem dL_isWalk_245 : decode cL_isWalk 245 = .ok (.lor, 1) := by decide +kernel
theorem dL_isWalk_246 : decode cL_isWalk 246 = .ok (.lastore, 1) := by decide +kernel
theorem dL_isWalk_247 : decode cL_isWalk 247 = .ok (.iload 8, 2) := by decide +kernel
theorem dL_isWalk_249 : decode cL_isWalk 249 = .ok (.iload 15, 2) := by decide +kernel
theorem dL_isWalk_251 : decode cL_isWalk 251 = .ok (.ifCond .eq 7, 3) := by decide +kernel
theorem dL_isWalk_254 : decode cL_isWalk 254 = .ok (.iconst 1, 1) := by decide +kernel
theorem dL_isWalk_255 : decode cL_isWalk 255 = .ok (.goto 4, 3) := by decide +kernel
theorem dL_isWalk_258 : decode cL_isWalk 258 = .ok (.iconst 0, 1) := by decide +kernel
theorem dL_isWalk_259 : decode cL_isWalk 259 = .ok (.iload 16, 2) := by decide +kernel
theorem dL_isWalk_261 : decode cL_isWalk 261 = .ok (.ifCond .eq 7, 3) := by decide +kernel
theorem dL_isWalk_264 : decode cL_isWalk 264 = .ok (.iconst 1, 1) := by decide +kernel
theorem dL_isWalk_265 : decode cL_isWalk 265 = .ok (.goto 4, 3) := by decide +kernel
theorem dL_isWalk_268 : decode cL_isWalk 268 = .ok (.iconst 0, 1) := by decide +kernel
theorem dL_isWalk_269 : decode cL_isWalk 269 = .ok (.iadd, 1) := by decide +kernel
theorem dL_isWalk_270 : decode cL_isWalk 270 = .ok (.iadd, 1) := by decide +kernel
theorem dL_isWalk_271 : decode cL_isWalk 271 = .ok (.istore 8, 2) := by decide +kernel
theorem dL_isWalk_273 : decode cL_isWalk 273 = .ok (.iinc 12 1, 3) := by decide +kernel
theorem dL_isWalk_276 : decode cL_isWalk 276 = .ok (.goto (-185), 3) := by decide +kernel
theorem dL_isWalk_279 : decode cL_isWalk 279 = .ok (.iinc 11 1, 3) := by decide +kernel
theorem dL_isWalk_282 : decode cL_isWalk 282 = .ok (.goto (-200), 3) := by decide +kernel
theorem dL_isWalk_285 : decode cL_isWalk 285 = .ok (.iconst 0, 1) := by decide +kernel
theorem dL_isWalk_286 : decode cL_isWalk 286 = .ok (.istore 11, 2) := by decide +kernel
theorem dL_isWalk_288 : decode cL_isWalk 288 = .ok (.iload 11, 2) := by decide +kernel
theorem dL_isWalk_290 : decode cL_isWalk 290 = .ok (.iconst 3, 1) := by decide +kernel
theorem dL_isWalk_291 : decode cL_isWalk 291 = .ok (.if_icmp .ge 19, 3) := by decide +kernel
theorem dL_isWalk_294 : decode cL_isWalk 294 = .ok (.aload 5, 2) := by decide +kernel
theorem dL_isWalk_296 : decode cL_isWalk 296 = .ok (.iload 11, 2) := by decide +kernel
theorem dL_isWalk_298 : decode cL_isWalk 298 = .ok (.aload 6, 2) := by decide +kernel
theorem dL_isWalk_300 : decode cL_isWalk 300 = .ok (.iload 11, 2) := by decide +kernel
theorem dL_isWalk_302 : decode cL_isWalk 302 = .ok (.laload, 1) := by decide +kernel
theorem dL_isWalk_303 : decode cL_isWalk 303 = .ok (.lastore, 1) := by decide +kernel
theorem dL_isWalk_304 : decode cL_isWalk 304 = .ok (.iinc 11 1, 3) := by decide +kernel
theorem dL_isWalk_307 : decode cL_isWalk 307 = .ok (.goto (-19), 3) := by decide +kernel
theorem dL_isWalk_310 : decode cL_isWalk 310 = .ok (.iload 7, 2) := by decide +kernel
theorem dL_isWalk_312 : decode cL_isWalk 312 = .ok (.ifCond .ge 18, 3) := by decide +kernel
theorem dL_isWalk_315 : decode cL_isWalk 315 = .ok (.aload 5, 2) := by decide +kernel
theorem dL_isWalk_317 : decode cL_isWalk 317 = .ok (.iload 4, 2) := by decide +kernel
theorem dL_isWalk_319 : decode cL_isWalk 319 = .ok (.invokestatic 79, 3) := by decide +kernel
theorem dL_isWalk_322 : decode cL_isWalk 322 = .ok (.ifCond .eq 8, 3) := by decide +kernel
theorem dL_isWalk_325 : decode cL_isWalk 325 = .ok (.iload 10, 2) := by decide +kernel
theorem dL_isWalk_327 : decode cL_isWalk 327 = .ok (.goto 5, 3) := by decide +kernel
theorem dL_isWalk_330 : decode cL_isWalk 330 = .ok (.iload 7, 2) := by decide +kernel
theorem dL_isWalk_332 : decode cL_isWalk 332 = .ok (.istore 7, 2) := by decide +kernel
theorem dL_isWalk_334 : decode cL_isWalk 334 = .ok (.iinc 10 1, 3) := by decide +kernel
theorem dL_isWalk_337 : decode cL_isWalk 337 = .ok (.goto (-269), 3) := by decide +kernel
theorem dL_isWalk_340 : decode cL_isWalk 340 = .ok (.aload_n 0, 1) := by decide +kernel
theorem dL_isWalk_341 : decode cL_isWalk 341 = .ok (.iload_n 3, 1) := by decide +kernel
theorem dL_isWalk_342 : decode cL_isWalk 342 = .ok (.bipush 12, 2) := by decide +kernel
theorem dL_isWalk_344 : decode cL_isWalk 344 = .ok (.idiv, 1) := by decide +kernel
theorem dL_isWalk_345 : decode cL_isWalk 345 = .ok (.iload_n 3, 1) := by decide +kernel
theorem dL_isWalk_346 : decode cL_isWalk 346 = .ok (.bipush 12, 2) := by decide +kernel
theorem dL_isWalk_348 : decode cL_isWalk 348 = .ok (.irem, 1) := by decide +kernel
theorem dL_isWalk_349 : decode cL_isWalk 349 = .ok (.iload 4, 2) := by decide +kernel
theorem dL_isWalk_351 : decode cL_isWalk 351 = .ok (.bipush 12, 2) := by decide +kernel
theorem dL_isWalk_353 : decode cL_isWalk 353 = .ok (.idiv, 1) := by decide +kernel
theorem dL_isWalk_354 : decode cL_isWalk 354 = .ok (.iload 4, 2) := by decide +kernel
theorem dL_isWalk_356 : decode cL_isWalk 356 = .ok (.bipush 12, 2) := by decide +kernel
theorem dL_isWalk_358 : decode cL_isWalk 358 = .ok (.irem, 1) := by decide +kernel
theorem dL_isWalk_359 : decode cL_isWalk 359 = .ok (.invokevirtual 83, 3) := by decide +kernel
theorem dL_isWalk_362 : decode cL_isWalk 362 = .ok (.iload 7, 2) := by decide +kernel
theorem dL_isWalk_364 : decode cL_isWalk 364 = .ok (.if_icmp .ne 51, 3) := by decide +kernel
theorem dL_isWalk_367 : decode cL_isWalk 367 = .ok (.aload_n 0, 1) := by decide +kernel
theorem dL_isWalk_368 : decode cL_isWalk 368 = .ok (.iload_n 3, 1) := by decide +kernel
theorem dL_isWalk_369 : decode cL_isWalk 369 = .ok (.bipush 12, 2) := by decide +kernel
theorem dL_isWalk_371 : decode cL_isWalk 371 = .ok (.idiv, 1) := by decide +kernel
theorem dL_isWalk_372 : decode cL_isWalk 372 = .ok (.iload_n 3, 1) := by decide +kernel
theorem dL_isWalk_373 : decode cL_isWalk 373 = .ok (.bipush 12, 2) := by decide +kernel
theorem dL_isWalk_375 : decode cL_isWalk 375 = .ok (.irem, 1) := by decide +kernel
theorem dL_isWalk_376 : decode cL_isWalk 376 = .ok (.iload 4, 2) := by decide +kernel
theorem dL_isWalk_378 : decode cL_isWalk 378 = .ok (.bipush 12, 2) := by decide +kernel
theorem dL_isWalk_380 : decode cL_isWalk 380 = .ok (.idiv, 1) := by decide +kernel
theorem dL_isWalk_381 : decode cL_isWalk 381 = .ok (.iload 4, 2) := by decide +kernel
theorem dL_isWalk_383 : decode cL_isWalk 383 = .ok (.bipush 12, 2) := by decide +kernel
theorem dL_isWalk_385 : decode cL_isWalk 385 = .ok (.irem, 1) := by decide +kernel
theorem dL_isWalk_386 : decode cL_isWalk 386 = .ok (.invokevirtual 87, 3) := by decide +kernel
theorem dL_isWalk_389 : decode cL_isWalk 389 = .ok (.iload 7, 2) := by decide +kernel
theorem dL_isWalk_391 : decode cL_isWalk 391 = .ok (.if_icmp .ne 24, 3) := by decide +kernel
theorem dL_isWalk_394 : decode cL_isWalk 394 = .ok (.aload_n 0, 1) := by decide +kernel
theorem dL_isWalk_395 : decode cL_isWalk 395 = .ok (.iload_n 3, 1) := by decide +kernel
theorem dL_isWalk_396 : decode cL_isWalk 396 = .ok (.bipush 12, 2) := by decide +kernel
theorem dL_isWalk_398 : decode cL_isWalk 398 = .ok (.idiv, 1) := by decide +kernel
theorem dL_isWalk_399 : decode cL_isWalk 399 = .ok (.iload_n 3, 1) := by decide +kernel
theorem dL_isWalk_400 : decode cL_isWalk 400 = .ok (.bipush 12, 2) := by decide +kernel
theorem dL_isWalk_402 : decode cL_isWalk 402 = .ok (.irem, 1) := by decide +kernel
theorem dL_isWalk_403 : decode cL_isWalk 403 = .ok (.invokevirtual 90, 3) := by decide +kernel
theorem dL_isWalk_406 : decode cL_isWalk 406 = .ok (.iload 8, 2) := by decide +kernel
theorem dL_isWalk_408 : decode cL_isWalk 408 = .ok (.if_icmp .ne 7, 3) := by decide +kernel
theorem dL_isWalk_411 : decode cL_isWalk 411 = .ok (.iconst 1, 1) := by decide +kernel
theorem dL_isWalk_412 : decode cL_isWalk 412 = .ok (.goto 4, 3) := by decide +kernel
theorem dL_isWalk_415 : decode cL_isWalk 415 = .ok (.iconst 0, 1) := by decide +kernel
theorem dL_isWalk_416 : decode cL_isWalk 416 = .ok (.ireturn, 1) := by decide +kernel
theorem dL_isIndex_0 : decode cL_isIndex 0 = .ok (.aload_n 0, 1) := by decide +kernel
theorem dL_isIndex_1 : decode cL_isIndex 1 = .ok (.invokevirtual 93, 3) := by decide +kernel
theorem dL_isIndex_4 : decode cL_isIndex 4 = .ok (.iload_n 3, 1) := by decide +kernel
theorem dL_isIndex_5 : decode cL_isIndex 5 = .ok (.if_icmp .ne 7, 3) := by decide +kernel
theorem dL_isIndex_8 : decode cL_isIndex 8 = .ok (.iconst 1, 1) := by decide +kernel
theorem dL_isIndex_9 : decode cL_isIndex 9 = .ok (.goto 4, 3) := by decide +kernel
theorem dL_isIndex_12 : decode cL_isIndex 12 = .ok (.iconst 0, 1) := by decide +kernel
theorem dL_isIndex_13 : decode cL_isIndex 13 = .ok (.istore 4, 2) := by decide +kernel
theorem dL_isIndex_15 : decode cL_isIndex 15 = .ok (.iconst 0, 1) := by decide +kernel
theorem dL_isIndex_16 : decode cL_isIndex 16 = .ok (.istore 5, 2) := by decide +kernel
theorem dL_isIndex_18 : decode cL_isIndex 18 = .ok (.iload 5, 2) := by decide +kernel
theorem dL_isIndex_20 : decode cL_isIndex 20 = .ok (.iload_n 3, 1) := by decide +kernel
theorem dL_isIndex_21 : decode cL_isIndex 21 = .ok (.if_icmp .ge 128, 3) := by decide +kernel
theorem dL_isIndex_24 : decode cL_isIndex 24 = .ok (.iload 4, 2) := by decide +kernel
theorem dL_isIndex_26 : decode cL_isIndex 26 = .ok (.ifCond .eq 123, 3) := by decide +kernel
theorem dL_isIndex_29 : decode cL_isIndex 29 = .ok (.iconst 0, 1) := by decide +kernel
theorem dL_isIndex_30 : decode cL_isIndex 30 = .ok (.istore 6, 2) := by decide +kernel
theorem dL_isIndex_32 : decode cL_isIndex 32 = .ok (.iconst 0, 1) := by decide +kernel
theorem dL_isIndex_33 : decode cL_isIndex 33 = .ok (.istore 7, 2) := by decide +kernel
theorem dL_isIndex_35 : decode cL_isIndex 35 = .ok (.iload 7, 2) := by decide +kernel
theorem dL_isIndex_37 : decode cL_isIndex 37 = .ok (.iload_n 3, 1) := by decide +kernel
theorem dL_isIndex_38 : decode cL_isIndex 38 = .ok (.if_icmp .ge 71, 3) := by decide +kernel
theorem dL_isIndex_41 : decode cL_isIndex 41 = .ok (.iload 4, 2) := by decide +kernel
theorem dL_isIndex_43 : decode cL_isIndex 43 = .ok (.ifCond .eq 66, 3) := by decide +kernel
theorem dL_isIndex_46 : decode cL_isIndex 46 = .ok (.iload 6, 2) := by decide +kernel
theorem dL_isIndex_48 : decode cL_isIndex 48 = .ok (.iload 7, 2) := by decide +kernel
theorem dL_isIndex_50 : decode cL_isIndex 50 = .ok (.iload 5, 2) := by decide +kernel
theorem dL_isIndex_52 : decode cL_isIndex 52 = .ok (.if_icmp .eq 19, 3) := by decide +kernel
theorem dL_isIndex_55 : decode cL_isIndex 55 = .ok (.aload_n 1, 1) := by decide +kernel
theorem dL_isIndex_56 : decode cL_isIndex 56 = .ok (.aload_n 2, 1) := by decide +kernel
theorem dL_isIndex_57 : decode cL_isIndex 57 = .ok (.iload 7, 2) := by decide +kernel
theorem dL_isIndex_59 : decode cL_isIndex 59 = .ok (.iload 5, 2) := by decide +kernel
theorem dL_isIndex_61 : decode cL_isIndex 61 = .ok (.invokestatic 97, 3) := by decide +kernel
theorem dL_isIndex_64 : decode cL_isIndex 64 = .ok (.ifCond .eq 7, 3) := by decide +kernel
theorem dL_isIndex_67 : decode cL_isIndex 67 = .ok (.iconst 1, 1) := by decide +kernel
theorem dL_isIndex_68 : decode cL_isIndex 68 = .ok (.goto 4, 3) := by decide +kernel
theorem dL_isIndex_71 : decode cL_isIndex 71 = .ok (.iconst 0, 1) := by decide +kernel
theorem dL_isIndex_72 : decode cL_isIndex 72 = .ok (.iadd, 1) := by decide +kernel
theorem dL_isIndex_73 : decode cL_isIndex 73 = .ok (.istore 6, 2) := by decide +kernel
theorem dL_isIndex_75 : decode cL_isIndex 75 = .ok (.aload_n 0, 1) := by decide +kernel
theorem dL_isIndex_76 : decode cL_isIndex 76 = .ok (.iload 5, 2) := by decide +kernel
theorem dL_isIndex_78 : decode cL_isIndex 78 = .ok (.iload 7, 2) := by decide +kernel
theorem dL_isIndex_80 : decode cL_isIndex 80 = .ok (.invokevirtual 101, 3) := by decide +kernel
theorem dL_isIndex_83 : decode cL_isIndex 83 = .ok (.aload_n 1, 1) := by decide +kernel
theorem dL_isIndex_84 : decode cL_isIndex 84 = .ok (.aload_n 2, 1) := by decide +kernel
theorem dL_isIndex_85 : decode cL_isIndex 85 = .ok (.iload 5, 2) := by decide +kernel
theorem dL_isIndex_87 : decode cL_isIndex 87 = .ok (.iload 7, 2) := by decide +kernel
theorem dL_isIndex_89 : decode cL_isIndex 89 = .ok (.iconst 0, 1) := by decide +kernel
theorem dL_isIndex_90 : decode cL_isIndex 90 = .ok (.invokestatic 19, 3) := by decide +kernel
theorem dL_isIndex_93 : decode cL_isIndex 93 = .ok (.if_icmp .ne 7, 3) := by decide +kernel
theorem dL_isIndex_96 : decode cL_isIndex 96 = .ok (.iconst 1, 1) := by decide +kernel
theorem dL_isIndex_97 : decode cL_isIndex 97 = .ok (.goto 4, 3) := by decide +kernel
theorem dL_isIndex_100 : decode cL_isIndex 100 = .ok (.iconst 0, 1) := by decide +kernel
theorem dL_isIndex_101 : decode cL_isIndex 101 = .ok (.istore 4, 2) := by decide +kernel
theorem dL_isIndex_103 : decode cL_isIndex 103 = .ok (.iinc 7 1, 3) := by decide +kernel
theorem dL_isIndex_106 : decode cL_isIndex 106 = .ok (.goto (-71), 3) := by decide +kernel
theorem dL_isIndex_109 : decode cL_isIndex 109 = .ok (.iload 4, 2) := by decide +kernel
theorem dL_isIndex_111 : decode cL_isIndex 111 = .ok (.ifCond .eq 29, 3) := by decide +kernel
theorem dL_isIndex_114 : decode cL_isIndex 114 = .ok (.aload_n 0, 1) := by decide +kernel
theorem dL_isIndex_115 : decode cL_isIndex 115 = .ok (.iload 5, 2) := by decide +kernel
theorem dL_isIndex_117 : decode cL_isIndex 117 = .ok (.invokevirtual 104, 3) := by decide +kernel
theorem dL_isIndex_120 : decode cL_isIndex 120 = .ok (.iload 6, 2) := by decide +kernel
theorem dL_isIndex_122 : decode cL_isIndex 122 = .ok (.if_icmp .ne 18, 3) := by decide +kernel
theorem dL_isIndex_125 : decode cL_isIndex 125 = .ok (.aload_n 0, 1) := by decide +kernel
theorem dL_isIndex_126 : decode cL_isIndex 126 = .ok (.iload 6, 2) := by decide +kernel
theorem dL_isIndex_128 : decode cL_isIndex 128 = .ok (.invokevirtual 107, 3) := by decide +kernel
theorem dL_isIndex_131 : decode cL_isIndex 131 = .ok (.iload 5, 2) := by decide +kernel
theorem dL_isIndex_133 : decode cL_isIndex 133 = .ok (.if_icmp .ne 7, 3) := by decide +kernel
theorem dL_isIndex_136 : decode cL_isIndex 136 = .ok (.iconst 1, 1) := by decide +kernel
theorem dL_isIndex_137 : decode cL_isIndex 137 = .ok (.goto 4, 3) := by decide +kernel
theorem dL_isIndex_140 : decode cL_isIndex 140 = .ok (.iconst 0, 1) := by decide +kernel
theorem dL_isIndex_141 : decode cL_isIndex 141 = .ok (.istore 4, 2) := by decide +kernel
theorem dL_isIndex_143 : decode cL_isIndex 143 = .ok (.iinc 5 1, 3) := by decide +kernel
theorem dL_isIndex_146 : decode cL_isIndex 146 = .ok (.goto (-128), 3) := by decide +kernel
theorem dL_isIndex_149 : decode cL_isIndex 149 = .ok (.iload 4, 2) := by decide +kernel
theorem dL_isIndex_151 : decode cL_isIndex 151 = .ok (.ireturn, 1) := by decide +kernel
theorem dL_drawn_0 : decode cL_drawn 0 = .ok (.iload_n 0, 1) := by decide +kernel
theorem dL_drawn_1 : decode cL_drawn 1 = .ok (.bipush 8, 2) := by decide +kernel
theorem dL_drawn_3 : decode cL_drawn 3 = .ok (.irem, 1) := by decide +kernel
theorem dL_drawn_4 : decode cL_drawn 4 = .ok (.istore_n 1, 1) := by decide +kernel
theorem dL_drawn_5 : decode cL_drawn 5 = .ok (.iload_n 1, 1) := by decide +kernel
theorem dL_drawn_6 : decode cL_drawn 6 = .ok (.ifCond .ne 7, 3) := by decide +kernel
theorem dL_drawn_9 : decode cL_drawn 9 = .ok (.iconst 1, 1) := by decide +kernel
theorem dL_drawn_10 : decode cL_drawn 10 = .ok (.goto 63, 3) := by decide +kernel
theorem dL_drawn_13 : decode cL_drawn 13 = .ok (.iload_n 1, 1) := by decide +kernel
theorem dL_drawn_14 : decode cL_drawn 14 = .ok (.iconst 1, 1) := by decide +kernel
theorem dL_drawn_15 : decode cL_drawn 15 = .ok (.if_icmp .ne 7, 3) := by decide +kernel
theorem dL_drawn_18 : decode cL_drawn 18 = .ok (.iconst 2, 1) := by decide +kernel
theorem dL_drawn_19 : decode cL_drawn 19 = .ok (.goto 54, 3) := by decide +kernel
theorem dL_drawn_22 : decode cL_drawn 22 = .ok (.iload_n 1, 1) := by decide +kernel
theorem dL_drawn_23 : decode cL_drawn 23 = .ok (.iconst 2, 1) := by decide +kernel
theorem dL_drawn_24 : decode cL_drawn 24 = .ok (.if_icmp .ne 7, 3) := by decide +kernel
theorem dL_drawn_27 : decode cL_drawn 27 = .ok (.iconst 4, 1) := by decide +kernel
theorem dL_drawn_28 : decode cL_drawn 28 = .ok (.goto 45, 3) := by decide +kernel
theorem dL_drawn_31 : decode cL_drawn 31 = .ok (.iload_n 1, 1) := by decide +kernel
theorem dL_drawn_32 : decode cL_drawn 32 = .ok (.iconst 3, 1) := by decide +kernel
theorem dL_drawn_33 : decode cL_drawn 33 = .ok (.if_icmp .ne 7, 3) := by decide +kernel
theorem dL_drawn_36 : decode cL_drawn 36 = .ok (.iconst 5, 1) := by decide +kernel
theorem dL_drawn_37 : decode cL_drawn 37 = .ok (.goto 36, 3) := by decide +kernel
theorem dL_drawn_40 : decode cL_drawn 40 = .ok (.iload_n 1, 1) := by decide +kernel
theorem dL_drawn_41 : decode cL_drawn 41 = .ok (.iconst 4, 1) := by decide +kernel
theorem dL_drawn_42 : decode cL_drawn 42 = .ok (.if_icmp .ne 8, 3) := by decide +kernel
theorem dL_drawn_45 : decode cL_drawn 45 = .ok (.bipush 12, 2) := by decide +kernel
theorem dL_drawn_47 : decode cL_drawn 47 = .ok (.goto 26, 3) := by decide +kernel
theorem dL_drawn_50 : decode cL_drawn 50 = .ok (.iload_n 1, 1) := by decide +kernel
theorem dL_drawn_51 : decode cL_drawn 51 = .ok (.iconst 5, 1) := by decide +kernel
theorem dL_drawn_52 : decode cL_drawn 52 = .ok (.if_icmp .ne 8, 3) := by decide +kernel
theorem dL_drawn_55 : decode cL_drawn 55 = .ok (.bipush 13, 2) := by decide +kernel
theorem dL_drawn_57 : decode cL_drawn 57 = .ok (.goto 16, 3) := by decide +kernel
theorem dL_drawn_60 : decode cL_drawn 60 = .ok (.iload_n 1, 1) := by decide +kernel
theorem dL_drawn_61 : decode cL_drawn 61 = .ok (.bipush 6, 2) := by decide +kernel
theorem dL_drawn_63 : decode cL_drawn 63 = .ok (.if_icmp .ne 8, 3) := by decide +kernel
theorem dL_drawn_66 : decode cL_drawn 66 = .ok (.bipush 14, 2) := by decide +kernel
theorem dL_drawn_68 : decode cL_drawn 68 = .ok (.goto 5, 3) := by decide +kernel
theorem dL_drawn_71 : decode cL_drawn 71 = .ok (.bipush 22, 2) := by decide +kernel
theorem dL_drawn_73 : decode cL_drawn 73 = .ok (.ireturn, 1) := by decide +kernel
theorem dL_named_0 : decode cL_named 0 = .ok (.iconst 1, 1) := by decide +kernel
theorem dL_named_1 : decode cL_named 1 = .ok (.iload_n 2, 1) := by decide +kernel
theorem dL_named_2 : decode cL_named 2 = .ok (.iconst 4, 1) := by decide +kernel
theorem dL_named_3 : decode cL_named 3 = .ok (.irem, 1) := by decide +kernel
theorem dL_named_4 : decode cL_named 4 = .ok (.iadd, 1) := by decide +kernel
theorem dL_named_5 : decode cL_named 5 = .ok (.istore_n 3, 1) := by decide +kernel
theorem dL_named_6 : decode cL_named 6 = .ok (.iload_n 2, 1) := by decide +kernel
theorem dL_named_7 : decode cL_named 7 = .ok (.iconst 3, 1) := by decide +kernel
theorem dL_named_8 : decode cL_named 8 = .ok (.irem, 1) := by decide +kernel
theorem dL_named_9 : decode cL_named 9 = .ok (.bipush 30, 2) := by decide +kernel
theorem dL_named_11 : decode cL_named 11 = .ok (.ishl, 1) := by decide +kernel
theorem dL_named_12 : decode cL_named 12 = .ok (.istore 4, 2) := by decide +kernel
theorem dL_named_14 : decode cL_named 14 = .ok (.aload_n 0, 1) := by decide +kernel
theorem dL_named_15 : decode cL_named 15 = .ok (.iconst 5, 1) := by decide +kernel
theorem dL_named_16 : decode cL_named 16 = .ok (.iload_n 1, 1) := by decide +kernel
theorem dL_named_17 : decode cL_named 17 = .ok (.imul, 1) := by decide +kernel
theorem dL_named_18 : decode cL_named 18 = .ok (.iload_n 3, 1) := by decide +kernel
theorem dL_named_19 : decode cL_named 19 = .ok (.iastore, 1) := by decide +kernel
theorem dL_named_20 : decode cL_named 20 = .ok (.iconst 0, 1) := by decide +kernel
theorem dL_named_21 : decode cL_named 21 = .ok (.istore 5, 2) := by decide +kernel
theorem dL_named_23 : decode cL_named 23 = .ok (.iload 5, 2) := by decide +kernel
theorem dL_named_25 : decode cL_named 25 = .ok (.iload_n 3, 1) := by decide +kernel
theorem dL_named_26 : decode cL_named 26 = .ok (.if_icmp .ge 63, 3) := by decide +kernel
theorem dL_named_29 : decode cL_named 29 = .ok (.aload_n 0, 1) := by decide +kernel
theorem dL_named_30 : decode cL_named 30 = .ok (.iconst 5, 1) := by decide +kernel
theorem dL_named_31 : decode cL_named 31 = .ok (.iload_n 1, 1) := by decide +kernel
theorem dL_named_32 : decode cL_named 32 = .ok (.imul, 1) := by decide +kernel
theorem dL_named_33 : decode cL_named 33 = .ok (.iconst 1, 1) := by decide +kernel
theorem dL_named_34 : decode cL_named 34 = .ok (.iadd, 1) := by decide +kernel
theorem dL_named_35 : decode cL_named 35 = .ok (.iload 5, 2) := by decide +kernel
theorem dL_named_37 : decode cL_named 37 = .ok (.iadd, 1) := by decide +kernel
theorem dL_named_38 : decode cL_named 38 = .ok (.iload_n 2, 1) := by decide +kernel
theorem dL_named_39 : decode cL_named 39 = .ok (.iconst 4, 1) := by decide +kernel
theorem dL_named_40 : decode cL_named 40 = .ok (.idiv, 1) := by decide +kernel
theorem dL_named_41 : decode cL_named 41 = .ok (.iconst 3, 1) := by decide +kernel
theorem dL_named_42 : decode cL_named 42 = .ok (.iload 5, 2) := by decide +kernel
theorem dL_named_44 : decode cL_named 44 = .ok (.imul, 1) := by decide +kernel
theorem dL_named_45 : decode cL_named 45 = .ok (.ishr, 1) := by decide +kernel
theorem dL_named_46 : decode cL_named 46 = .ok (.invokestatic 110, 3) := by decide +kernel
theorem dL_named_49 : decode cL_named 49 = .ok (.iastore, 1) := by decide +kernel
theorem dL_named_50 : decode cL_named 50 = .ok (.iload 4, 2) := by decide +kernel
theorem dL_named_52 : decode cL_named 52 = .ok (.sipush 255, 3) := by decide +kernel
theorem dL_named_55 : decode cL_named 55 = .ok (.bipush 8, 2) := by decide +kernel
theorem dL_named_57 : decode cL_named 57 = .ok (.iload 5, 2) := by decide +kernel
theorem dL_named_59 : decode cL_named 59 = .ok (.imul, 1) := by decide +kernel
theorem dL_named_60 : decode cL_named 60 = .ok (.ishl, 1) := by decide +kernel
theorem dL_named_61 : decode cL_named 61 = .ok (.iconst (-1), 1) := by decide +kernel
theorem dL_named_62 : decode cL_named 62 = .ok (.ixor, 1) := by decide +kernel
theorem dL_named_63 : decode cL_named 63 = .ok (.iand, 1) := by decide +kernel
theorem dL_named_64 : decode cL_named 64 = .ok (.aload_n 0, 1) := by decide +kernel
theorem dL_named_65 : decode cL_named 65 = .ok (.iconst 5, 1) := by decide +kernel
theorem dL_named_66 : decode cL_named 66 = .ok (.iload_n 1, 1) := by decide +kernel
theorem dL_named_67 : decode cL_named 67 = .ok (.imul, 1) := by decide +kernel
theorem dL_named_68 : decode cL_named 68 = .ok (.iconst 1, 1) := by decide +kernel
theorem dL_named_69 : decode cL_named 69 = .ok (.iadd, 1) := by decide +kernel
theorem dL_named_70 : decode cL_named 70 = .ok (.iload 5, 2) := by decide +kernel
theorem dL_named_72 : decode cL_named 72 = .ok (.iadd, 1) := by decide +kernel
theorem dL_named_73 : decode cL_named 73 = .ok (.iaload, 1) := by decide +kernel
theorem dL_named_74 : decode cL_named 74 = .ok (.bipush 8, 2) := by decide +kernel
theorem dL_named_76 : decode cL_named 76 = .ok (.iload 5, 2) := by decide +kernel
theorem dL_named_78 : decode cL_named 78 = .ok (.imul, 1) := by decide +kernel
theorem dL_named_79 : decode cL_named 79 = .ok (.ishl, 1) := by decide +kernel
theorem dL_named_80 : decode cL_named 80 = .ok (.ior, 1) := by decide +kernel
theorem dL_named_81 : decode cL_named 81 = .ok (.istore 4, 2) := by decide +kernel
theorem dL_named_83 : decode cL_named 83 = .ok (.iinc 5 1, 3) := by decide +kernel
theorem dL_named_86 : decode cL_named 86 = .ok (.goto (-63), 3) := by decide +kernel
theorem dL_named_89 : decode cL_named 89 = .ok (.iload 4, 2) := by decide +kernel
theorem dL_named_91 : decode cL_named 91 = .ok (.ireturn, 1) := by decide +kernel
theorem dL_added_0 : decode cL_added 0 = .ok (.aload_n 0, 1) := by decide +kernel
theorem dL_added_1 : decode cL_added 1 = .ok (.iload_n 1, 1) := by decide +kernel
theorem dL_added_2 : decode cL_added 2 = .ok (.iload_n 2, 1) := by decide +kernel
theorem dL_added_3 : decode cL_added 3 = .ok (.iload_n 3, 1) := by decide +kernel
theorem dL_added_4 : decode cL_added 4 = .ok (.invokevirtual 113, 3) := by decide +kernel
theorem dL_added_7 : decode cL_added 7 = .ok (.ireturn, 1) := by decide +kernel
theorem dL_added_8 : decode cL_added 8 = .ok (.astore 4, 2) := by decide +kernel
theorem dL_added_10 : decode cL_added 10 = .ok (.bipush (-2), 2) := by decide +kernel
