theorem dL_isStep_241 : decode cL_isStep 241 = .ok (.iload_n 1, 1) := by decide +kernel
theorem dL_isStep_242 : decode cL_isStep 242 = .ok (.iload_n 2, 1) := by decide +kernel
theorem dL_isStep_243 : decode cL_isStep 243 = .ok (.iconst 1, 1) := by decide +kernel
theorem dL_isStep_244 : decode cL_isStep 244 = .ok (.iadd, 1) := by decide +kernel
theorem dL_isStep_245 : decode cL_isStep 245 = .ok (.iconst 3, 1) := by decide +kernel
theorem dL_isStep_246 : decode cL_isStep 246 = .ok (.invokevirtual 79, 3) := by decide +kernel
theorem dL_isStep_249 : decode cL_isStep 249 = .ok (.aload_n 0, 1) := by decide +kernel
theorem dL_isStep_250 : decode cL_isStep 250 = .ok (.iload_n 1, 1) := by decide +kernel
theorem dL_isStep_251 : decode cL_isStep 251 = .ok (.iload_n 2, 1) := by decide +kernel
theorem dL_isStep_252 : decode cL_isStep 252 = .ok (.iconst 3, 1) := by decide +kernel
theorem dL_isStep_253 : decode cL_isStep 253 = .ok (.invokevirtual 79, 3) := by decide +kernel
theorem dL_isStep_256 : decode cL_isStep 256 = .ok (.iload 9, 2) := by decide +kernel
theorem dL_isStep_258 : decode cL_isStep 258 = .ok (.iadd, 1) := by decide +kernel
theorem dL_isStep_259 : decode cL_isStep 259 = .ok (.iload 7, 2) := by decide +kernel
theorem dL_isStep_261 : decode cL_isStep 261 = .ok (.isub, 1) := by decide +kernel
theorem dL_isStep_262 : decode cL_isStep 262 = .ok (.if_icmp .eq 5, 3) := by decide +kernel
theorem dL_isStep_265 : decode cL_isStep 265 = .ok (.iconst 0, 1) := by decide +kernel
theorem dL_isStep_266 : decode cL_isStep 266 = .ok (.ireturn, 1) := by decide +kernel
theorem dL_isStep_267 : decode cL_isStep 267 = .ok (.bipush (-9), 2) := by decide +kernel
theorem dL_isStep_269 : decode cL_isStep 269 = .ok (.istore 11, 2) := by decide +kernel
theorem dL_isStep_271 : decode cL_isStep 271 = .ok (.iload 11, 2) := by decide +kernel
theorem dL_isStep_273 : decode cL_isStep 273 = .ok (.bipush 10, 2) := by decide +kernel
theorem dL_isStep_275 : decode cL_isStep 275 = .ok (.if_icmp .ge 39, 3) := by decide +kernel
theorem dL_isStep_278 : decode cL_isStep 278 = .ok (.iload 11, 2) := by decide +kernel
theorem dL_isStep_280 : decode cL_isStep 280 = .ok (.iload 5, 2) := by decide +kernel
theorem dL_isStep_282 : decode cL_isStep 282 = .ok (.if_icmp .eq 26, 3) := by decide +kernel
theorem dL_isStep_285 : decode cL_isStep 285 = .ok (.aload_n 0, 1) := by decide +kernel
theorem dL_isStep_286 : decode cL_isStep 286 = .ok (.iload_n 1, 1) := by decide +kernel
theorem dL_isStep_287 : decode cL_isStep 287 = .ok (.iload_n 2, 1) := by decide +kernel
theorem dL_isStep_288 : decode cL_isStep 288 = .ok (.iload 11, 2) := by decide +kernel
theorem dL_isStep_290 : decode cL_isStep 290 = .ok (.invokevirtual 83, 3) := by decide +kernel
theorem dL_isStep_293 : decode cL_isStep 293 = .ok (.aload_n 0, 1) := by decide +kernel
theorem dL_isStep_294 : decode cL_isStep 294 = .ok (.iload_n 1, 1) := by decide +kernel
theorem dL_isStep_295 : decode cL_isStep 295 = .ok (.iload_n 2, 1) := by decide +kernel
theorem dL_isStep_296 : decode cL_isStep 296 = .ok (.iconst 1, 1) := by decide +kernel
theorem dL_isStep_297 : decode cL_isStep 297 = .ok (.iadd, 1) := by decide +kernel
theorem dL_isStep_298 : decode cL_isStep 298 = .ok (.iload 11, 2) := by decide +kernel
theorem dL_isStep_300 : decode cL_isStep 300 = .ok (.invokevirtual 83, 3) := by decide +kernel
theorem dL_isStep_303 : decode cL_isStep 303 = .ok (.if_icmp .eq 5, 3) := by decide +kernel
theorem dL_isStep_306 : decode cL_isStep 306 = .ok (.iconst 0, 1) := by decide +kernel
theorem dL_isStep_307 : decode cL_isStep 307 = .ok (.ireturn, 1) := by decide +kernel
theorem dL_isStep_308 : decode cL_isStep 308 = .ok (.iinc 11 1, 3) := by decide +kernel
theorem dL_isStep_311 : decode cL_isStep 311 = .ok (.goto (-40), 3) := by decide +kernel
theorem dL_isStep_314 : decode cL_isStep 314 = .ok (.aload_n 0, 1) := by decide +kernel
theorem dL_isStep_315 : decode cL_isStep 315 = .ok (.iload_n 1, 1) := by decide +kernel
theorem dL_isStep_316 : decode cL_isStep 316 = .ok (.iload_n 2, 1) := by decide +kernel
theorem dL_isStep_317 : decode cL_isStep 317 = .ok (.iconst 5, 1) := by decide +kernel
theorem dL_isStep_318 : decode cL_isStep 318 = .ok (.invokevirtual 79, 3) := by decide +kernel
theorem dL_isStep_321 : decode cL_isStep 321 = .ok (.istore 11, 2) := by decide +kernel
theorem dL_isStep_323 : decode cL_isStep 323 = .ok (.aload_n 0, 1) := by decide +kernel
theorem dL_isStep_324 : decode cL_isStep 324 = .ok (.iload_n 1, 1) := by decide +kernel
theorem dL_isStep_325 : decode cL_isStep 325 = .ok (.iload_n 2, 1) := by decide +kernel
theorem dL_isStep_326 : decode cL_isStep 326 = .ok (.bipush 6, 2) := by decide +kernel
theorem dL_isStep_328 : decode cL_isStep 328 = .ok (.invokevirtual 79, 3) := by decide +kernel
theorem dL_isStep_331 : decode cL_isStep 331 = .ok (.istore 12, 2) := by decide +kernel
theorem dL_isStep_333 : decode cL_isStep 333 = .ok (.aload_n 0, 1) := by decide +kernel
theorem dL_isStep_334 : decode cL_isStep 334 = .ok (.iload_n 1, 1) := by decide +kernel
theorem dL_isStep_335 : decode cL_isStep 335 = .ok (.iload_n 2, 1) := by decide +kernel
theorem dL_isStep_336 : decode cL_isStep 336 = .ok (.iconst 4, 1) := by decide +kernel
theorem dL_isStep_337 : decode cL_isStep 337 = .ok (.invokevirtual 79, 3) := by decide +kernel
theorem dL_isStep_340 : decode cL_isStep 340 = .ok (.istore 13, 2) := by decide +kernel
theorem dL_isStep_342 : decode cL_isStep 342 = .ok (.aload_n 0, 1) := by decide +kernel
theorem dL_isStep_343 : decode cL_isStep 343 = .ok (.iload_n 1, 1) := by decide +kernel
theorem dL_isStep_344 : decode cL_isStep 344 = .ok (.iload_n 2, 1) := by decide +kernel
theorem dL_isStep_345 : decode cL_isStep 345 = .ok (.iconst 3, 1) := by decide +kernel
theorem dL_isStep_346 : decode cL_isStep 346 = .ok (.invokevirtual 79, 3) := by decide +kernel
theorem dL_isStep_349 : decode cL_isStep 349 = .ok (.istore 14, 2) := by decide +kernel
theorem dL_isStep_351 : decode cL_isStep 351 = .ok (.aload_n 0, 1) := by decide +kernel
theorem dL_isStep_352 : decode cL_isStep 352 = .ok (.iload_n 1, 1) := by decide +kernel
theorem dL_isStep_353 : decode cL_isStep 353 = .ok (.iload_n 2, 1) := by decide +kernel
theorem dL_isStep_354 : decode cL_isStep 354 = .ok (.iconst 1, 1) := by decide +kernel
theorem dL_isStep_355 : decode cL_isStep 355 = .ok (.iadd, 1) := by decide +kernel
theorem dL_isStep_356 : decode cL_isStep 356 = .ok (.iconst 5, 1) := by decide +kernel
theorem dL_isStep_357 : decode cL_isStep 357 = .ok (.invokevirtual 79, 3) := by decide +kernel
theorem dL_isStep_360 : decode cL_isStep 360 = .ok (.iload 11, 2) := by decide +kernel
theorem dL_isStep_362 : decode cL_isStep 362 = .ok (.iload 6, 2) := by decide +kernel
theorem dL_isStep_364 : decode cL_isStep 364 = .ok (.invokestatic 86, 3) := by decide +kernel
theorem dL_isStep_367 : decode cL_isStep 367 = .ok (.if_icmp .ne 95, 3) := by decide +kernel
theorem dL_isStep_370 : decode cL_isStep 370 = .ok (.aload_n 0, 1) := by decide +kernel
theorem dL_isStep_371 : decode cL_isStep 371 = .ok (.iload_n 1, 1) := by decide +kernel
theorem dL_isStep_372 : decode cL_isStep 372 = .ok (.iload_n 2, 1) := by decide +kernel
theorem dL_isStep_373 : decode cL_isStep 373 = .ok (.iconst 1, 1) := by decide +kernel
theorem dL_isStep_374 : decode cL_isStep 374 = .ok (.iadd, 1) := by decide +kernel
theorem dL_isStep_375 : decode cL_isStep 375 = .ok (.bipush 6, 2) := by decide +kernel
theorem dL_isStep_377 : decode cL_isStep 377 = .ok (.invokevirtual 79, 3) := by decide +kernel
theorem dL_isStep_380 : decode cL_isStep 380 = .ok (.iload 12, 2) := by decide +kernel
theorem dL_isStep_382 : decode cL_isStep 382 = .ok (.iload 6, 2) := by decide +kernel
theorem dL_isStep_384 : decode cL_isStep 384 = .ok (.invokestatic 91, 3) := by decide +kernel
theorem dL_isStep_387 : decode cL_isStep 387 = .ok (.if_icmp .ne 75, 3) := by decide +kernel
theorem dL_isStep_390 : decode cL_isStep 390 = .ok (.iload 13, 2) := by decide +kernel
theorem dL_isStep_392 : decode cL_isStep 392 = .ok (.iconst 1, 1) := by decide +kernel
theorem dL_isStep_393 : decode cL_isStep 393 = .ok (.if_icmp .lt 69, 3) := by decide +kernel
theorem dL_isStep_396 : decode cL_isStep 396 = .ok (.iload 13, 2) := by decide +kernel
theorem dL_isStep_398 : decode cL_isStep 398 = .ok (.iload 12, 2) := by decide +kernel
theorem dL_isStep_400 : decode cL_isStep 400 = .ok (.iload 11, 2) := by decide +kernel
theorem dL_isStep_402 : decode cL_isStep 402 = .ok (.isub, 1) := by decide +kernel
theorem dL_isStep_403 : decode cL_isStep 403 = .ok (.iconst 1, 1) := by decide +kernel
theorem dL_isStep_404 : decode cL_isStep 404 = .ok (.iadd, 1) := by decide +kernel
theorem dL_isStep_405 : decode cL_isStep 405 = .ok (.if_icmp .gt 57, 3) := by decide +kernel
theorem dL_isStep_408 : decode cL_isStep 408 = .ok (.iload 14, 2) := by decide +kernel
theorem dL_isStep_410 : decode cL_isStep 410 = .ok (.iload 12, 2) := by decide +kernel
theorem dL_isStep_412 : decode cL_isStep 412 = .ok (.iload 11, 2) := by decide +kernel
theorem dL_isStep_414 : decode cL_isStep 414 = .ok (.isub, 1) := by decide +kernel
theorem dL_isStep_415 : decode cL_isStep 415 = .ok (.iconst 1, 1) := by decide +kernel
theorem dL_isStep_416 : decode cL_isStep 416 = .ok (.iadd, 1) := by decide +kernel
theorem dL_isStep_417 : decode cL_isStep 417 = .ok (.if_icmp .gt 45, 3) := by decide +kernel
theorem dL_isStep_420 : decode cL_isStep 420 = .ok (.aload_n 0, 1) := by decide +kernel
theorem dL_isStep_421 : decode cL_isStep 421 = .ok (.iload_n 1, 1) := by decide +kernel
theorem dL_isStep_422 : decode cL_isStep 422 = .ok (.iload_n 2, 1) := by decide +kernel
theorem dL_isStep_423 : decode cL_isStep 423 = .ok (.bipush 7, 2) := by decide +kernel
theorem dL_isStep_425 : decode cL_isStep 425 = .ok (.invokevirtual 79, 3) := by decide +kernel
theorem dL_isStep_428 : decode cL_isStep 428 = .ok (.bipush 8, 2) := by decide +kernel
theorem dL_isStep_430 : decode cL_isStep 430 = .ok (.iload 14, 2) := by decide +kernel
theorem dL_isStep_432 : decode cL_isStep 432 = .ok (.imul, 1) := by decide +kernel
theorem dL_isStep_433 : decode cL_isStep 433 = .ok (.iload 12, 2) := by decide +kernel
theorem dL_isStep_435 : decode cL_isStep 435 = .ok (.iload 11, 2) := by decide +kernel
theorem dL_isStep_437 : decode cL_isStep 437 = .ok (.isub, 1) := by decide +kernel
theorem dL_isStep_438 : decode cL_isStep 438 = .ok (.iconst 1, 1) := by decide +kernel
theorem dL_isStep_439 : decode cL_isStep 439 = .ok (.iadd, 1) := by decide +kernel
theorem dL_isStep_440 : decode cL_isStep 440 = .ok (.idiv, 1) := by decide +kernel
theorem dL_isStep_441 : decode cL_isStep 441 = .ok (.if_icmp .ne 21, 3) := by decide +kernel
theorem dL_isStep_444 : decode cL_isStep 444 = .ok (.iload 11, 2) := by decide +kernel
theorem dL_isStep_446 : decode cL_isStep 446 = .ok (.iload 5, 2) := by decide +kernel
theorem dL_isStep_448 : decode cL_isStep 448 = .ok (.if_icmp .gt 14, 3) := by decide +kernel
theorem dL_isStep_451 : decode cL_isStep 451 = .ok (.iload 5, 2) := by decide +kernel
theorem dL_isStep_453 : decode cL_isStep 453 = .ok (.iload 12, 2) := by decide +kernel
theorem dL_isStep_455 : decode cL_isStep 455 = .ok (.if_icmp .gt 7, 3) := by decide +kernel
theorem dL_isStep_458 : decode cL_isStep 458 = .ok (.iconst 1, 1) := by decide +kernel
theorem dL_isStep_459 : decode cL_isStep 459 = .ok (.goto 4, 3) := by decide +kernel
theorem dL_isStep_462 : decode cL_isStep 462 = .ok (.iconst 0, 1) := by decide +kernel
theorem dL_isStep_463 : decode cL_isStep 463 = .ok (.ireturn, 1) := by decide +kernel
theorem dL_isSo_0 : decode cL_isSo 0 = .ok (.iconst 5, 1) := by decide +kernel
theorem dL_isSo_1 : decode cL_isSo 1 = .ok (.newarray .int, 2) := by decide +kernel
theorem dL_isSo_3 : decode cL_isSo 3 = .ok (.astore_n 1, 1) := by decide +kernel
theorem dL_isSo_4 : decode cL_isSo 4 = .ok (.iconst 0, 1) := by decide +kernel
theorem dL_isSo_5 : decode cL_isSo 5 = .ok (.istore_n 2, 1) := by decide +kernel
theorem dL_isSo_6 : decode cL_isSo 6 = .ok (.iconst 0, 1) := by decide +kernel
theorem dL_isSo_7 : decode cL_isSo 7 = .ok (.istore_n 3, 1) := by decide +kernel
theorem dL_isSo_8 : decode cL_isSo 8 = .ok (.iload_n 3, 1) := by decide +kernel
theorem dL_isSo_9 : decode cL_isSo 9 = .ok (.aload_n 0, 1) := by decide +kernel
theorem dL_isSo_10 : decode cL_isSo 10 = .ok (.iconst 0, 1) := by decide +kernel
theorem dL_isSo_11 : decode cL_isSo 11 = .ok (.invokevirtual 33, 3) := by decide +kernel
theorem dL_isSo_14 : decode cL_isSo 14 = .ok (.if_icmp .ge 248, 3) := by decide +kernel
theorem dL_isSo_17 : decode cL_isSo 17 = .ok (.aload_n 0, 1) := by decide +kernel
theorem dL_isSo_18 : decode cL_isSo 18 = .ok (.iload_n 3, 1) := by decide +kernel
theorem dL_isSo_19 : decode cL_isSo 19 = .ok (.iconst 2, 1) := by decide +kernel
theorem dL_isSo_20 : decode cL_isSo 20 = .ok (.invokevirtual 36, 3) := by decide +kernel
theorem dL_isSo_23 : decode cL_isSo 23 = .ok (.istore 4, 2) := by decide +kernel
theorem dL_isSo_25 : decode cL_isSo 25 = .ok (.aload_n 0, 1) := by decide +kernel
theorem dL_isSo_26 : decode cL_isSo 26 = .ok (.iload_n 3, 1) := by decide +kernel
theorem dL_isSo_27 : decode cL_isSo 27 = .ok (.iconst 0, 1) := by decide +kernel
theorem dL_isSo_28 : decode cL_isSo 28 = .ok (.invokevirtual 36, 3) := by decide +kernel
theorem dL_isSo_31 : decode cL_isSo 31 = .ok (.istore 5, 2) := by decide +kernel
theorem dL_isSo_33 : decode cL_isSo 33 = .ok (.iconst 0, 1) := by decide +kernel
theorem dL_isSo_34 : decode cL_isSo 34 = .ok (.istore 6, 2) := by decide +kernel
theorem dL_isSo_36 : decode cL_isSo 36 = .ok (.iconst 0, 1) := by decide +kernel
theorem dL_isSo_37 : decode cL_isSo 37 = .ok (.istore 7, 2) := by decide +kernel
theorem dL_isSo_39 : decode cL_isSo 39 = .ok (.iload 7, 2) := by decide +kernel
theorem dL_isSo_41 : decode cL_isSo 41 = .ok (.iconst 2, 1) := by decide +kernel
theorem dL_isSo_42 : decode cL_isSo 42 = .ok (.iload 5, 2) := by decide +kernel
theorem dL_isSo_44 : decode cL_isSo 44 = .ok (.imul, 1) := by decide +kernel
theorem dL_isSo_45 : decode cL_isSo 45 = .ok (.if_icmp .ge 36, 3) := by decide +kernel
theorem dL_isSo_48 : decode cL_isSo 48 = .ok (.iload 6, 2) := by decide +kernel
theorem dL_isSo_50 : decode cL_isSo 50 = .ok (.aload_n 0, 1) := by decide +kernel
theorem dL_isSo_51 : decode cL_isSo 51 = .ok (.iload_n 3, 1) := by decide +kernel
theorem dL_isSo_52 : decode cL_isSo 52 = .ok (.iload 7, 2) := by decide +kernel
theorem dL_isSo_54 : decode cL_isSo 54 = .ok (.iconst 2, 1) := by decide +kernel
theorem dL_isSo_55 : decode cL_isSo 55 = .ok (.idiv, 1) := by decide +kernel
theorem dL_isSo_56 : decode cL_isSo 56 = .ok (.iload 7, 2) := by decide +kernel
theorem dL_isSo_58 : decode cL_isSo 58 = .ok (.iconst 2, 1) := by decide +kernel
theorem dL_isSo_59 : decode cL_isSo 59 = .ok (.irem, 1) := by decide +kernel
theorem dL_isSo_60 : decode cL_isSo 60 = .ok (.iconst 0, 1) := by decide +kernel
theorem dL_isSo_61 : decode cL_isSo 61 = .ok (.invokevirtual 49, 3) := by decide +kernel
theorem dL_isSo_64 : decode cL_isSo 64 = .ok (.ifCond .ge 7, 3) := by decide +kernel
theorem dL_isSo_67 : decode cL_isSo 67 = .ok (.iconst 1, 1) := by decide +kernel
theorem dL_isSo_68 : decode cL_isSo 68 = .ok (.goto 4, 3) := by decide +kernel
theorem dL_isSo_71 : decode cL_isSo 71 = .ok (.iconst 0, 1) := by decide +kernel
theorem dL_isSo_72 : decode cL_isSo 72 = .ok (.iadd, 1) := by decide +kernel
theorem dL_isSo_73 : decode cL_isSo 73 = .ok (.istore 6, 2) := by decide +kernel
theorem dL_isSo_75 : decode cL_isSo 75 = .ok (.iinc 7 1, 3) := by decide +kernel
theorem dL_isSo_78 : decode cL_isSo 78 = .ok (.goto (-39), 3) := by decide +kernel
theorem dL_isSo_81 : decode cL_isSo 81 = .ok (.aload_n 0, 1) := by decide +kernel
theorem dL_isSo_82 : decode cL_isSo 82 = .ok (.iload_n 3, 1) := by decide +kernel
theorem dL_isSo_83 : decode cL_isSo 83 = .ok (.bipush 7, 2) := by decide +kernel
theorem dL_isSo_85 : decode cL_isSo 85 = .ok (.invokevirtual 36, 3) := by decide +kernel
theorem dL_isSo_88 : decode cL_isSo 88 = .ok (.ifCond .lt 7, 3) := by decide +kernel
theorem dL_isSo_91 : decode cL_isSo 91 = .ok (.iconst 1, 1) := by decide +kernel
theorem dL_isSo_92 : decode cL_isSo 92 = .ok (.goto 4, 3) := by decide +kernel
theorem dL_isSo_95 : decode cL_isSo 95 = .ok (.iconst 0, 1) := by decide +kernel
theorem dL_isSo_96 : decode cL_isSo 96 = .ok (.istore 7, 2) := by decide +kernel
theorem dL_isSo_98 : decode cL_isSo 98 = .ok (.aload_n 0, 1) := by decide +kernel
theorem dL_isSo_99 : decode cL_isSo 99 = .ok (.iload_n 3, 1) := by decide +kernel
theorem dL_isSo_100 : decode cL_isSo 100 = .ok (.iconst 5, 1) := by decide +kernel
theorem dL_isSo_101 : decode cL_isSo 101 = .ok (.invokevirtual 36, 3) := by decide +kernel
theorem dL_isSo_104 : decode cL_isSo 104 = .ok (.istore 8, 2) := by decide +kernel
theorem dL_isSo_106 : decode cL_isSo 106 = .ok (.aload_n 1, 1) := by decide +kernel
theorem dL_isSo_107 : decode cL_isSo 107 = .ok (.iload 4, 2) := by decide +kernel
theorem dL_isSo_109 : decode cL_isSo 109 = .ok (.iconst 1, 1) := by decide +kernel
theorem dL_isSo_110 : decode cL_isSo 110 = .ok (.iadd, 1) := by decide +kernel
theorem dL_isSo_111 : decode cL_isSo 111 = .ok (.dup2, 1) := by decide +kernel
theorem dL_isSo_112 : decode cL_isSo 112 = .ok (.iaload, 1) := by decide +kernel
theorem dL_isSo_113 : decode cL_isSo 113 = .ok (.iconst 1, 1) := by decide +kernel
theorem dL_isSo_114 : decode cL_isSo 114 = .ok (.iadd, 1) := by decide +kernel
theorem dL_isSo_115 : decode cL_isSo 115 = .ok (.iastore, 1) := by decide +kernel
theorem dL_isSo_116 : decode cL_isSo 116 = .ok (.iload_n 2, 1) := by decide +kernel
theorem dL_isSo_117 : decode cL_isSo 117 = .ok (.iload 6, 2) := by decide +kernel
theorem dL_isSo_119 : decode cL_isSo 119 = .ok (.iadd, 1) := by decide +kernel
theorem dL_isSo_120 : decode cL_isSo 120 = .ok (.istore_n 2, 1) := by decide +kernel
theorem dL_isSo_121 : decode cL_isSo 121 = .ok (.aload_n 0, 1) := by decide +kernel
theorem dL_isSo_122 : decode cL_isSo 122 = .ok (.iload_n 3, 1) := by decide +kernel
theorem dL_isSo_123 : decode cL_isSo 123 = .ok (.iconst 1, 1) := by decide +kernel
theorem dL_isSo_124 : decode cL_isSo 124 = .ok (.invokevirtual 36, 3) := by decide +kernel
theorem dL_isSo_127 : decode cL_isSo 127 = .ok (.iload 6, 2) := by decide +kernel
theorem dL_isSo_129 : decode cL_isSo 129 = .ok (.if_icmp .ne 44, 3) := by decide +kernel
theorem dL_isSo_132 : decode cL_isSo 132 = .ok (.iload 8, 2) := by decide +kernel
theorem dL_isSo_134 : decode cL_isSo 134 = .ok (.ifCond .eq 41, 3) := by decide +kernel
theorem dL_isSo_137 : decode cL_isSo 137 = .ok (.iload 8, 2) := by decide +kernel
theorem dL_isSo_139 : decode cL_isSo 139 = .ok (.bipush 9, 2) := by decide +kernel
theorem dL_isSo_141 : decode cL_isSo 141 = .ok (.if_icmp .lt 32, 3) := by decide +kernel
theorem dL_isSo_144 : decode cL_isSo 144 = .ok (.iload 8, 2) := by decide +kernel
theorem dL_isSo_146 : decode cL_isSo 146 = .ok (.iconst 1, 1) := by decide +kernel
theorem dL_isSo_147 : decode cL_isSo 147 = .ok (.iconst 4, 1) := by decide +kernel
theorem dL_isSo_148 : decode cL_isSo 148 = .ok (.iload 5, 2) := by decide +kernel
theorem dL_isSo_150 : decode cL_isSo 150 = .ok (.imul, 1) := by decide +kernel
theorem dL_isSo_151 : decode cL_isSo 151 = .ok (.iadd, 1) := by decide +kernel
theorem dL_isSo_152 : decode cL_isSo 152 = .ok (.if_icmp .gt 21, 3) := by decide +kernel
theorem dL_isSo_155 : decode cL_isSo 155 = .ok (.iload 8, 2) := by decide +kernel
theorem dL_isSo_157 : decode cL_isSo 157 = .ok (.iconst 4, 1) := by decide +kernel
theorem dL_isSo_158 : decode cL_isSo 158 = .ok (.irem, 1) := by decide +kernel
theorem dL_isSo_159 : decode cL_isSo 159 = .ok (.iconst 1, 1) := by decide +kernel
theorem dL_isSo_160 : decode cL_isSo 160 = .ok (.if_icmp .ne 13, 3) := by decide +kernel
theorem dL_isSo_163 : decode cL_isSo 163 = .ok (.iload 6, 2) := by decide +kernel
theorem dL_isSo_165 : decode cL_isSo 165 = .ok (.ifCond .eq 8, 3) := by decide +kernel
theorem dL_isSo_168 : decode cL_isSo 168 = .ok (.iload 7, 2) := by decide +kernel
theorem dL_isSo_170 : decode cL_isSo 170 = .ok (.ifCond .eq 5, 3) := by decide +kernel
theorem dL_isSo_173 : decode cL_isSo 173 = .ok (.iconst 0, 1) := by decide +kernel
theorem dL_isSo_174 : decode cL_isSo 174 = .ok (.ireturn, 1) := by decide +kernel
theorem dL_isSo_175 : decode cL_isSo 175 = .ok (.iload 4, 2) := by decide +kernel
theorem dL_isSo_177 : decode cL_isSo 177 = .ok (.ifCond .lt 18, 3) := by decide +kernel
theorem dL_isSo_180 : decode cL_isSo 180 = .ok (.iload 4, 2) := by decide +kernel
theorem dL_isSo_182 : decode cL_isSo 182 = .ok (.ifCond .ne 7, 3) := by decide +kernel
theorem dL_isSo_185 : decode cL_isSo 185 = .ok (.iconst 1, 1) := by decide +kernel
theorem dL_isSo_186 : decode cL_isSo 186 = .ok (.goto 4, 3) := by decide +kernel
theorem dL_isSo_189 : decode cL_isSo 189 = .ok (.iconst 0, 1) := by decide +kernel
theorem dL_isSo_190 : decode cL_isSo 190 = .ok (.iload 7, 2) := by decide +kernel
theorem dL_isSo_192 : decode cL_isSo 192 = .ok (.if_icmp .ne 62, 3) := by decide +kernel
theorem dL_isSo_195 : decode cL_isSo 195 = .ok (.iload 4, 2) := by decide +kernel
theorem dL_isSo_197 : decode cL_isSo 197 = .ok (.ifCond .lt 8, 3) := by decide +kernel
theorem dL_isSo_200 : decode cL_isSo 200 = .ok (.iload 8, 2) := by decide +kernel
theorem dL_isSo_202 : decode cL_isSo 202 = .ok (.ifCond .gt 52, 3) := by decide +kernel
theorem dL_isSo_205 : decode cL_isSo 205 = .ok (.iload 4, 2) := by decide +kernel
theorem dL_isSo_207 : decode cL_isSo 207 = .ok (.ifCond .ge 7, 3) := by decide +kernel
theorem dL_isSo_210 : decode cL_isSo 210 = .ok (.iconst 1, 1) := by decide +kernel
theorem dL_isSo_211 : decode cL_isSo 211 = .ok (.goto 4, 3) := by decide +kernel
theorem dL_isSo_214 : decode cL_isSo 214 = .ok (.iconst 0, 1) := by decide +kernel
theorem dL_isSo_215 : decode cL_isSo 215 = .ok (.aload_n 0, 1) := by decide +kernel
theorem dL_isSo_216 : decode cL_isSo 216 = .ok (.iload_n 3, 1) := by decide +kernel
theorem dL_isSo_217 : decode cL_isSo 217 = .ok (.iconst 3, 1) := by decide +kernel
theorem dL_isSo_218 : decode cL_isSo 218 = .ok (.invokevirtual 36, 3) := by decide +kernel
theorem dL_isSo_221 : decode cL_isSo 221 = .ok (.ifCond .ge 7, 3) := by decide +kernel
theorem dL_isSo_224 : decode cL_isSo 224 = .ok (.iconst 1, 1) := by decide +kernel
theorem dL_isSo_225 : decode cL_isSo 225 = .ok (.goto 4, 3) := by decide +kernel
theorem dL_isSo_228 : decode cL_isSo 228 = .ok (.iconst 0, 1) := by decide +kernel
theorem dL_isSo_229 : decode cL_isSo 229 = .ok (.if_icmp .ne 25, 3) := by decide +kernel
theorem dL_isSo_232 : decode cL_isSo 232 = .ok (.iload 7, 2) := by decide +kernel
theorem dL_isSo_234 : decode cL_isSo 234 = .ok (.ifCond .eq 22, 3) := by decide +kernel
theorem dL_isSo_237 : decode cL_isSo 237 = .ok (.aload_n 0, 1) := by decide +kernel
theorem dL_isSo_238 : decode cL_isSo 238 = .ok (.iload_n 3, 1) := by decide +kernel
theorem dL_isSo_239 : decode cL_isSo 239 = .ok (.bipush 6, 2) := by decide +kernel
theorem dL_isSo_241 : decode cL_isSo 241 = .ok (.invokevirtual 36, 3) := by decide +kernel
theorem dL_isSo_244 : decode cL_isSo 244 = .ok (.aload_n 0, 1) := by decide +kernel
theorem dL_isSo_245 : decode cL_isSo 245 = .ok (.iload_n 3, 1) := by decide +kernel
theorem dL_isSo_246 : decode cL_isSo 246 = .ok (.bipush 7, 2) := by decide +kernel
theorem dL_isSo_248 : decode cL_isSo 248 = .ok (.invokevirtual 36, 3) := by decide +kernel
theorem dL_isSo_251 : decode cL_isSo 251 = .ok (.if_icmp .le 5, 3) := by decide +kernel
theorem dL_isSo_254 : decode cL_isSo 254 = .ok (.iconst 0, 1) := by decide +kernel
theorem dL_isSo_255 : decode cL_isSo 255 = .ok (.ireturn, 1) := by decide +kernel
theorem dL_isSo_256 : decode cL_isSo 256 = .ok (.iinc 3 1, 3) := by decide +kernel
theorem dL_isSo_259 : decode cL_isSo 259 = .ok (.goto (-251), 3) := by decide +kernel
theorem dL_isSo_262 : decode cL_isSo 262 = .ok (.iconst 0, 1) := by decide +kernel
theorem dL_isSo_263 : decode cL_isSo 263 = .ok (.istore_n 3, 1) := by decide +kernel
theorem dL_isSo_264 : decode cL_isSo 264 = .ok (.iload_n 3, 1) := by decide +kernel
theorem dL_isSo_265 : decode cL_isSo 265 = .ok (.iconst 5, 1) := by decide +kernel
theorem dL_isSo_266 : decode cL_isSo 266 = .ok (.if_icmp .ge 24, 3) := by decide +kernel
theorem dL_isSo_269 : decode cL_isSo 269 = .ok (.aload_n 0, 1) := by decide +kernel
theorem dL_isSo_270 : decode cL_isSo 270 = .ok (.iconst 1, 1) := by decide +kernel
theorem dL_isSo_271 : decode cL_isSo 271 = .ok (.iload_n 3, 1) := by decide +kernel
theorem dL_isSo_272 : decode cL_isSo 272 = .ok (.iadd, 1) := by decide +kernel
theorem dL_isSo_273 : decode cL_isSo 273 = .ok (.invokevirtual 33, 3) := by decide +kernel
theorem dL_isSo_276 : decode cL_isSo 276 = .ok (.aload_n 1, 1) := by decide +kernel
theorem dL_isSo_277 : decode cL_isSo 277 = .ok (.iload_n 3, 1) := by decide +kernel
theorem dL_isSo_278 : decode cL_isSo 278 = .ok (.iaload, 1) := by decide +kernel
theorem dL_isSo_279 : decode cL_isSo 279 = .ok (.if_icmp .eq 5, 3) := by decide +kernel
theorem dL_isSo_282 : decode cL_isSo 282 = .ok (.iconst 0, 1) := by decide +kernel
theorem dL_isSo_283 : decode cL_isSo 283 = .ok (.ireturn, 1) := by decide +kernel
theorem dL_isSo_284 : decode cL_isSo 284 = .ok (.iinc 3 1, 3) := by decide +kernel
theorem dL_isSo_287 : decode cL_isSo 287 = .ok (.goto (-23), 3) := by decide +kernel
theorem dL_isSo_290 : decode cL_isSo 290 = .ok (.aload_n 0, 1) := by decide +kernel
theorem dL_isSo_291 : decode cL_isSo 291 = .ok (.iconst 1, 1) := by decide +kernel
theorem dL_isSo_292 : decode cL_isSo 292 = .ok (.invokevirtual 94, 3) := by decide +kernel
theorem dL_isSo_295 : decode cL_isSo 295 = .ok (.istore_n 3, 1) := by decide +kernel
theorem dL_isSo_296 : decode cL_isSo 296 = .ok (.aload_n 0, 1) := by decide +kernel
theorem dL_isSo_297 : decode cL_isSo 297 = .ok (.bipush 10, 2) := by decide +kernel
theorem dL_isSo_299 : decode cL_isSo 299 = .ok (.invokevirtual 33, 3) := by decide +kernel
theorem dL_isSo_302 : decode cL_isSo 302 = .ok (.iload_n 2, 1) := by decide +kernel
theorem dL_isSo_303 : decode cL_isSo 303 = .ok (.if_icmp .ne 63, 3) := by decide +kernel
theorem dL_isSo_306 : decode cL_isSo 306 = .ok (.iload_n 3, 1) := by decide +kernel
theorem dL_isSo_307 : decode cL_isSo 307 = .ok (.ifCond .ge 7, 3) := by decide +kernel
theorem dL_isSo_310 : decode cL_isSo 310 = .ok (.iconst 1, 1) := by decide +kernel
theorem dL_isSo_311 : decode cL_isSo 311 = .ok (.goto 4, 3) := by decide +kernel
theorem dL_isSo_314 : decode cL_isSo 314 = .ok (.iconst 0, 1) := by decide +kernel
theorem dL_isSo_315 : decode cL_isSo 315 = .ok (.aload_n 1, 1) := by decide +kernel
theorem dL_isSo_316 : decode cL_isSo 316 = .ok (.iconst 1, 1) := by decide +kernel
theorem dL_isSo_317 : decode cL_isSo 317 = .ok (.iaload, 1) := by decide +kernel
theorem dL_isSo_318 : decode cL_isSo 318 = .ok (.ifCond .ne 7, 3) := by decide +kernel
theorem dL_isSo_321 : decode cL_isSo 321 = .ok (.iconst 1, 1) := by decide +kernel
theorem dL_isSo_322 : decode cL_isSo 322 = .ok (.goto 4, 3) := by decide +kernel
theorem dL_isSo_325 : decode cL_isSo 325 = .ok (.iconst 0, 1) := by decide +kernel
theorem dL_isSo_326 : decode cL_isSo 326 = .ok (.if_icmp .ne 40, 3) := by decide +kernel
theorem dL_isSo_329 : decode cL_isSo 329 = .ok (.iload_n 3, 1) := by decide +kernel
theorem dL_isSo_330 : decode cL_isSo 330 = .ok (.ifCond .lt 32, 3) := by decide +kernel
theorem dL_isSo_333 : decode cL_isSo 333 = .ok (.aload_n 0, 1) := by decide +kernel
theorem dL_isSo_334 : decode cL_isSo 334 = .ok (.iload_n 3, 1) := by decide +kernel
theorem dL_isSo_335 : decode cL_isSo 335 = .ok (.iconst 2, 1) := by decide +kernel
theorem dL_isSo_336 : decode cL_isSo 336 = .ok (.invokevirtual 36, 3) := by decide +kernel
theorem dL_isSo_339 : decode cL_isSo 339 = .ok (.ifCond .ne 27, 3) := by decide +kernel
theorem dL_isSo_342 : decode cL_isSo 342 = .ok (.aload_n 0, 1) := by decide +kernel
theorem dL_isSo_343 : decode cL_isSo 343 = .ok (.iload_n 3, 1) := by decide +kernel
theorem dL_isSo_344 : decode cL_isSo 344 = .ok (.bipush 7, 2) := by decide +kernel
theorem dL_isSo_346 : decode cL_isSo 346 = .ok (.invokevirtual 36, 3) := by decide +kernel
theorem dL_isSo_349 : decode cL_isSo 349 = .ok (.i2d, 1) := by decide +kernel
theorem dL_isSo_350 : decode cL_isSo 350 = .ok (.aload_n 0, 1) := by decide +kernel
theorem dL_isSo_351 : decode cL_isSo 351 = .ok (.invokevirtual 97, 3) := by decide +kernel
theorem dL_isSo_354 : decode cL_isSo 354 = .ok (.ldc2_w 101, 3) := by decide +kernel
theorem dL_isSo_357 : decode cL_isSo 357 = .ok (.dsub, 1) := by decide +kernel
theorem dL_isSo_358 : decode cL_isSo 358 = .ok (.dcmp .l, 1) := by decide +kernel
theorem dL_isSo_359 : decode cL_isSo 359 = .ok (.ifCond .lt 7, 3) := by decide +kernel
theorem dL_isSo_362 : decode cL_isSo 362 = .ok (.iconst 1, 1) := by decide +kernel
theorem dL_isSo_363 : decode cL_isSo 363 = .ok (.goto 4, 3) := by decide +kernel
theorem dL_isSo_366 : decode cL_isSo 366 = .ok (.iconst 0, 1) := by decide +kernel
theorem dL_isSo_367 : decode cL_isSo 367 = .ok (.ireturn, 1) := by decide +kernel
theorem dL_areStanding_0 : decode cL_areStanding 0 = .ok (.aload_n 0, 1) := by decide +kernel
theorem dL_areStanding_1 : decode cL_areStanding 1 = .ok (.iconst 0, 1) := by decide +kernel
theorem dL_areStanding_2 : decode cL_areStanding 2 = .ok (.invokevirtual 33, 3) := by decide +kernel
theorem dL_areStanding_5 : decode cL_areStanding 5 = .ok (.istore_n 1, 1) := by decide +kernel
theorem dL_areStanding_6 : decode cL_areStanding 6 = .ok (.iload_n 1, 1) := by decide +kernel
theorem dL_areStanding_7 : decode cL_areStanding 7 = .ok (.newarray .int, 2) := by decide +kernel
theorem dL_areStanding_9 : decode cL_areStanding 9 = .ok (.astore_n 2, 1) := by decide +kernel
theorem dL_areStanding_10 : decode cL_areStanding 10 = .ok (.iload_n 1, 1) := by decide +kernel
theorem dL_areStanding_11 : decode cL_areStanding 11 = .ok (.newarray .int, 2) := by decide +kernel
theorem dL_areStanding_13 : decode cL_areStanding 13 = .ok (.astore_n 3, 1) := by decide +kernel
theorem dL_areStanding_14 : decode cL_areStanding 14 = .ok (.iload_n 1, 1) := by decide +kernel
theorem dL_areStanding_15 : decode cL_areStanding 15 = .ok (.newarray .int, 2) := by decide +kernel
theorem dL_areStanding_17 : decode cL_areStanding 17 = .ok (.astore 4, 2) := by decide +kernel
theorem dL_areStanding_19 : decode cL_areStanding 19 = .ok (.iconst 0, 1) := by decide +kernel
theorem dL_areStanding_20 : decode cL_areStanding 20 = .ok (.istore 5, 2) := by decide +kernel
theorem dL_areStanding_22 : decode cL_areStanding 22 = .ok (.iload 5, 2) := by decide +kernel
theorem dL_areStanding_24 : decode cL_areStanding 24 = .ok (.iload_n 1, 1) := by decide +kernel
theorem dL_areStanding_25 : decode cL_areStanding 25 = .ok (.if_icmp .ge 43, 3) := by decide +kernel
theorem dL_areStanding_28 : decode cL_areStanding 28 = .ok (.aload_n 2, 1) := by decide +kernel
theorem dL_areStanding_29 : decode cL_areStanding 29 = .ok (.iload 5, 2) := by decide +kernel
theorem dL_areStanding_31 : decode cL_areStanding 31 = .ok (.aload_n 0, 1) := by decide +kernel
theorem dL_areStanding_32 : decode cL_areStanding 32 = .ok (.iload 5, 2) := by decide +kernel
theorem dL_areStanding_34 : decode cL_areStanding 34 = .ok (.iconst 2, 1) := by decide +kernel
theorem dL_areStanding_35 : decode cL_areStanding 35 = .ok (.invokevirtual 36, 3) := by decide +kernel
theorem dL_areStanding_38 : decode cL_areStanding 38 = .ok (.iastore, 1) := by decide +kernel
theorem dL_areStanding_39 : decode cL_areStanding 39 = .ok (.aload_n 3, 1) := by decide +kernel
theorem dL_areStanding_40 : decode cL_areStanding 40 = .ok (.iload 5, 2) := by decide +kernel
theorem dL_areStanding_42 : decode cL_areStanding 42 = .ok (.aload_n 0, 1) := by decide +kernel
theorem dL_areStanding_43 : decode cL_areStanding 43 = .ok (.iload 5, 2) := by decide +kernel
theorem dL_areStanding_45 : decode cL_areStanding 45 = .ok (.iconst 3, 1) := by decide +kernel
theorem dL_areStanding_46 : decode cL_areStanding 46 = .ok (.invokevirtual 36, 3) := by decide +kernel
theorem dL_areStanding_49 : decode cL_areStanding 49 = .ok (.iastore, 1) := by decide +kernel
theorem dL_areStanding_50 : decode cL_areStanding 50 = .ok (.aload 4, 2) := by decide +kernel
theorem dL_areStanding_52 : decode cL_areStanding 52 = .ok (.iload 5, 2) := by decide +kernel
theorem dL_areStanding_54 : decode cL_areStanding 54 = .ok (.aload_n 0, 1) := by decide +kernel
theorem dL_areStanding_55 : decode cL_areStanding 55 = .ok (.iload 5, 2) := by decide +kernel
theorem dL_areStanding_57 : decode cL_areStanding 57 = .ok (.iconst 4, 1) := by decide +kernel
theorem dL_areStanding_58 : decode cL_areStanding 58 = .ok (.invokevirtual 36, 3) := by decide +kernel
theorem dL_areStanding_61 : decode cL_areStanding 61 = .ok (.iastore, 1) := by decide +kernel
theorem dL_areStanding_62 : decode cL_areStanding 62 = .ok (.iinc 5 1, 3) := by decide +kernel
theorem dL_areStanding_65 : decode cL_areStanding 65 = .ok (.goto (-43), 3) := by decide +kernel
theorem dL_areStanding_68 : decode cL_areStanding 68 = .ok (.iconst 0, 1) := by decide +kernel
theorem dL_areStanding_69 : decode cL_areStanding 69 = .ok (.istore 5, 2) := by decide +kernel
theorem dL_areStanding_71 : decode cL_areStanding 71 = .ok (.iload 5, 2) := by decide +kernel
theorem dL_areStanding_73 : decode cL_areStanding 73 = .ok (.iconst 4, 1) := by decide +kernel
theorem dL_areStanding_74 : decode cL_areStanding 74 = .ok (.if_icmp .ge 16, 3) := by decide +kernel
theorem dL_areStanding_77 : decode cL_areStanding 77 = .ok (.aload_n 0, 1) := by decide +kernel
theorem dL_areStanding_78 : decode cL_areStanding 78 = .ok (.iload 5, 2) := by decide +kernel
theorem dL_areStanding_80 : decode cL_areStanding 80 = .ok (.invokevirtual 46, 3) := by decide +kernel
theorem dL_areStanding_83 : decode cL_areStanding 83 = .ok (.pop, 1) := by decide +kernel
theorem dL_areStanding_84 : decode cL_areStanding 84 = .ok (.iinc 5 1, 3) := by decide +kernel
theorem dL_areStanding_87 : decode cL_areStanding 87 = .ok (.goto (-16), 3) := by decide +kernel
theorem dL_areStanding_90 : decode cL_areStanding 90 = .ok (.iconst 0, 1) := by decide +kernel
theorem dL_areStanding_91 : decode cL_areStanding 91 = .ok (.istore 5, 2) := by decide +kernel
theorem dL_areStanding_93 : decode cL_areStanding 93 = .ok (.iload 5, 2) := by decide +kernel
theorem dL_areStanding_95 : decode cL_areStanding 95 = .ok (.iload_n 1, 1) := by decide +kernel
theorem dL_areStanding_96 : decode cL_areStanding 96 = .ok (.if_icmp .ge 40, 3) := by decide +kernel
theorem dL_areStanding_99 : decode cL_areStanding 99 = .ok (.aload_n 2, 1) := by decide +kernel
theorem dL_areStanding_100 : decode cL_areStanding 100 = .ok (.iload 5, 2) := by decide +kernel
theorem dL_areStanding_102 : decode cL_areStanding 102 = .ok (.iaload, 1) := by decide +kernel
theorem dL_areStanding_103 : decode cL_areStanding 103 = .ok (.ifCond .lt 27, 3) := by decide +kernel
theorem dL_areStanding_106 : decode cL_areStanding 106 = .ok (.aload_n 0, 1) := by decide +kernel
theorem dL_areStanding_107 : decode cL_areStanding 107 = .ok (.iload 5, 2) := by decide +kernel
theorem dL_areStanding_109 : decode cL_areStanding 109 = .ok (.aload_n 2, 1) := by decide +kernel
theorem dL_areStanding_110 : decode cL_areStanding 110 = .ok (.iload 5, 2) := by decide +kernel
theorem dL_areStanding_112 : decode cL_areStanding 112 = .ok (.iaload, 1) := by decide +kernel
theorem dL_areStanding_113 : decode cL_areStanding 113 = .ok (.aload_n 3, 1) := by decide +kernel
theorem dL_areStanding_114 : decode cL_areStanding 114 = .ok (.iload 5, 2) := by decide +kernel
theorem dL_areStanding_116 : decode cL_areStanding 116 = .ok (.iaload, 1) := by decide +kernel
theorem dL_areStanding_117 : decode cL_areStanding 117 = .ok (.aload 4, 2) := by decide +kernel
theorem dL_areStanding_119 : decode cL_areStanding 119 = .ok (.iload 5, 2) := by decide +kernel
theorem dL_areStanding_121 : decode cL_areStanding 121 = .ok (.iaload, 1) := by decide +kernel
theorem dL_areStanding_122 : decode cL_areStanding 122 = .ok (.invokevirtual 74, 3) := by decide +kernel
theorem dL_areStanding_125 : decode cL_areStanding 125 = .ok (.ifCond .ne 5, 3) := by decide +kernel
theorem dL_areStanding_128 : decode cL_areStanding 128 = .ok (.iconst 0, 1) := by decide +kernel
theorem dL_areStanding_129 : decode cL_areStanding 129 = .ok (.ireturn, 1) := by decide +kernel
theorem dL_areStanding_130 : decode cL_areStanding 130 = .ok (.iinc 5 1, 3) := by decide +kernel
theorem dL_areStanding_133 : decode cL_areStanding 133 = .ok (.goto (-40), 3) := by decide +kernel
theorem dL_areStanding_136 : decode cL_areStanding 136 = .ok (.aload_n 0, 1) := by decide +kernel
theorem dL_areStanding_137 : decode cL_areStanding 137 = .ok (.iconst 0, 1) := by decide +kernel
theorem dL_areStanding_138 : decode cL_areStanding 138 = .ok (.invokevirtual 33, 3) := by decide +kernel
theorem dL_areStanding_141 : decode cL_areStanding 141 = .ok (.iload_n 1, 1) := by decide +kernel
theorem dL_areStanding_142 : decode cL_areStanding 142 = .ok (.if_icmp .ne 7, 3) := by decide +kernel
theorem dL_areStanding_145 : decode cL_areStanding 145 = .ok (.iconst 1, 1) := by decide +kernel
theorem dL_areStanding_146 : decode cL_areStanding 146 = .ok (.goto 4, 3) := by decide +kernel
theorem dL_areStanding_149 : decode cL_areStanding 149 = .ok (.iconst 0, 1) := by decide +kernel
theorem dL_areStanding_150 : decode cL_areStanding 150 = .ok (.ireturn, 1) := by decide +kernel
