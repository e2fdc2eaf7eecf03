theorem d_L_law_304 : decode b_L_law 304 = .ok (.iadd, 1) := by decide +kernel
theorem d_L_law_305 : decode b_L_law 305 = .ok (.iaload, 1) := by decide +kernel
theorem d_L_law_306 : decode b_L_law 306 = .ok (.invokevirtual 87, 3) := by decide +kernel
theorem d_L_law_309 : decode b_L_law 309 = .ok (.istore 6, 2) := by decide +kernel
theorem d_L_law_311 : decode b_L_law 311 = .ok (.goto 115, 3) := by decide +kernel
theorem d_L_law_314 : decode b_L_law 314 = .ok (.aload_n 1, 1) := by decide +kernel
theorem d_L_law_315 : decode b_L_law 315 = .ok (.aload_n 0, 1) := by decide +kernel
theorem d_L_law_316 : decode b_L_law 316 = .ok (.iload 4, 2) := by decide +kernel
theorem d_L_law_318 : decode b_L_law 318 = .ok (.iconst 1, 1) := by decide +kernel
theorem d_L_law_319 : decode b_L_law 319 = .ok (.iadd, 1) := by decide +kernel
theorem d_L_law_320 : decode b_L_law 320 = .ok (.iaload, 1) := by decide +kernel
theorem d_L_law_321 : decode b_L_law 321 = .ok (.aload_n 3, 1) := by decide +kernel
theorem d_L_law_322 : decode b_L_law 322 = .ok (.invokestatic 88, 3) := by decide +kernel
theorem d_L_law_325 : decode b_L_law 325 = .ok (.istore 5, 2) := by decide +kernel
theorem d_L_law_327 : decode b_L_law 327 = .ok (.aload_n 2, 1) := by decide +kernel
theorem d_L_law_328 : decode b_L_law 328 = .ok (.aload_n 0, 1) := by decide +kernel
theorem d_L_law_329 : decode b_L_law 329 = .ok (.iload 4, 2) := by decide +kernel
theorem d_L_law_331 : decode b_L_law 331 = .ok (.iconst 1, 1) := by decide +kernel
theorem d_L_law_332 : decode b_L_law 332 = .ok (.iadd, 1) := by decide +kernel
theorem d_L_law_333 : decode b_L_law 333 = .ok (.iaload, 1) := by decide +kernel
theorem d_L_law_334 : decode b_L_law 334 = .ok (.invokevirtual 90, 3) := by decide +kernel
theorem d_L_law_337 : decode b_L_law 337 = .ok (.istore 6, 2) := by decide +kernel
theorem d_L_law_339 : decode b_L_law 339 = .ok (.goto 87, 3) := by decide +kernel
theorem d_L_law_342 : decode b_L_law 342 = .ok (.aload_n 1, 1) := by decide +kernel
theorem d_L_law_343 : decode b_L_law 343 = .ok (.aload_n 0, 1) := by decide +kernel
theorem d_L_law_344 : decode b_L_law 344 = .ok (.iload 4, 2) := by decide +kernel
theorem d_L_law_346 : decode b_L_law 346 = .ok (.iconst 1, 1) := by decide +kernel
theorem d_L_law_347 : decode b_L_law 347 = .ok (.iadd, 1) := by decide +kernel
theorem d_L_law_348 : decode b_L_law 348 = .ok (.iaload, 1) := by decide +kernel
theorem d_L_law_349 : decode b_L_law 349 = .ok (.aload_n 3, 1) := by decide +kernel
theorem d_L_law_350 : decode b_L_law 350 = .ok (.invokestatic 91, 3) := by decide +kernel
theorem d_L_law_353 : decode b_L_law 353 = .ok (.istore 5, 2) := by decide +kernel
theorem d_L_law_355 : decode b_L_law 355 = .ok (.aload_n 2, 1) := by decide +kernel
theorem d_L_law_356 : decode b_L_law 356 = .ok (.aload_n 0, 1) := by decide +kernel
theorem d_L_law_357 : decode b_L_law 357 = .ok (.iload 4, 2) := by decide +kernel
theorem d_L_law_359 : decode b_L_law 359 = .ok (.iconst 1, 1) := by decide +kernel
theorem d_L_law_360 : decode b_L_law 360 = .ok (.iadd, 1) := by decide +kernel
theorem d_L_law_361 : decode b_L_law 361 = .ok (.iaload, 1) := by decide +kernel
theorem d_L_law_362 : decode b_L_law 362 = .ok (.invokevirtual 93, 3) := by decide +kernel
theorem d_L_law_365 : decode b_L_law 365 = .ok (.istore 6, 2) := by decide +kernel
theorem d_L_law_367 : decode b_L_law 367 = .ok (.aload_n 2, 1) := by decide +kernel
theorem d_L_law_368 : decode b_L_law 368 = .ok (.invokevirtual 94, 3) := by decide +kernel
theorem d_L_law_371 : decode b_L_law 371 = .ok (.iload 5, 2) := by decide +kernel
theorem d_L_law_373 : decode b_L_law 373 = .ok (.if_icmp .eq 5, 3) := by decide +kernel
theorem d_L_law_378 : decode b_L_law 378 = .ok (.iload 5, 2) := by decide +kernel
theorem d_L_law_380 : decode b_L_law 380 = .ok (.ifCond .ne 15, 3) := by decide +kernel
theorem d_L_law_383 : decode b_L_law 383 = .ok (.aload_n 3, 1) := by decide +kernel
theorem d_L_law_384 : decode b_L_law 384 = .ok (.iconst 0, 1) := by decide +kernel
theorem d_L_law_385 : decode b_L_law 385 = .ok (.laload, 1) := by decide +kernel
theorem d_L_law_386 : decode b_L_law 386 = .ok (.iload 6, 2) := by decide +kernel
theorem d_L_law_388 : decode b_L_law 388 = .ok (.i2l, 1) := by decide +kernel
theorem d_L_law_389 : decode b_L_law 389 = .ok (.lcmp, 1) := by decide +kernel
theorem d_L_law_390 : decode b_L_law 390 = .ok (.ifCond .eq 5, 3) := by decide +kernel
theorem d_L_law_395 : decode b_L_law 395 = .ok (.goto 31, 3) := by decide +kernel
theorem d_L_law_398 : decode b_L_law 398 = .ok (.aload_n 1, 1) := by decide +kernel
theorem d_L_law_399 : decode b_L_law 399 = .ok (.aload_n 0, 1) := by decide +kernel
theorem d_L_law_400 : decode b_L_law 400 = .ok (.iload 4, 2) := by decide +kernel
theorem d_L_law_402 : decode b_L_law 402 = .ok (.iconst 1, 1) := by decide +kernel
theorem d_L_law_403 : decode b_L_law 403 = .ok (.iadd, 1) := by decide +kernel
theorem d_L_law_404 : decode b_L_law 404 = .ok (.iaload, 1) := by decide +kernel
theorem d_L_law_405 : decode b_L_law 405 = .ok (.aload_n 3, 1) := by decide +kernel
theorem d_L_law_406 : decode b_L_law 406 = .ok (.invokestatic 97, 3) := by decide +kernel
theorem d_L_law_409 : decode b_L_law 409 = .ok (.istore 5, 2) := by decide +kernel
theorem d_L_law_411 : decode b_L_law 411 = .ok (.aload_n 2, 1) := by decide +kernel
theorem d_L_law_412 : decode b_L_law 412 = .ok (.aload_n 0, 1) := by decide +kernel
theorem d_L_law_413 : decode b_L_law 413 = .ok (.iload 4, 2) := by decide +kernel
theorem d_L_law_415 : decode b_L_law 415 = .ok (.iconst 1, 1) := by decide +kernel
theorem d_L_law_416 : decode b_L_law 416 = .ok (.iadd, 1) := by decide +kernel
theorem d_L_law_417 : decode b_L_law 417 = .ok (.iaload, 1) := by decide +kernel
theorem d_L_law_418 : decode b_L_law 418 = .ok (.invokevirtual 99, 3) := by decide +kernel
theorem d_L_law_421 : decode b_L_law 421 = .ok (.istore 6, 2) := by decide +kernel
theorem d_L_law_423 : decode b_L_law 423 = .ok (.goto 3, 3) := by decide +kernel
theorem d_L_law_426 : decode b_L_law 426 = .ok (.iinc 4 4, 3) := by decide +kernel
theorem d_L_law_429 : decode b_L_law 429 = .ok (.goto (-406), 3) := by decide +kernel
theorem d_L_law_432 : decode b_L_law 432 = .ok (.iconst 1, 1) := by decide +kernel
theorem d_L_law_433 : decode b_L_law 433 = .ok (.ireturn, 1) := by decide +kernel
theorem d_M_init_0 : decode b_M_init 0 = .ok (.aload_n 0, 1) := by decide +kernel
theorem d_M_init_1 : decode b_M_init 1 = .ok (.invokespecial 1, 3) := by decide +kernel
theorem d_M_init_4 : decode b_M_init 4 = .ok (.aload_n 0, 1) := by decide +kernel
theorem d_M_init_5 : decode b_M_init 5 = .ok (.bipush 46, 2) := by decide +kernel
theorem d_M_init_7 : decode b_M_init 7 = .ok (.newarray .long, 2) := by decide +kernel
theorem d_M_init_9 : decode b_M_init 9 = .ok (.putfield 7, 3) := by decide +kernel
theorem d_M_init_12 : decode b_M_init 12 = .ok (.aload_n 0, 1) := by decide +kernel
theorem d_M_init_13 : decode b_M_init 13 = .ok (.bipush 46, 2) := by decide +kernel
theorem d_M_init_15 : decode b_M_init 15 = .ok (.newarray .int, 2) := by decide +kernel
theorem d_M_init_17 : decode b_M_init 17 = .ok (.putfield 13, 3) := by decide +kernel
theorem d_M_init_20 : decode b_M_init 20 = .ok (.aload_n 0, 1) := by decide +kernel
theorem d_M_init_21 : decode b_M_init 21 = .ok (.bipush 28, 2) := by decide +kernel
theorem d_M_init_23 : decode b_M_init 23 = .ok (.newarray .int, 2) := by decide +kernel
theorem d_M_init_25 : decode b_M_init 25 = .ok (.putfield 17, 3) := by decide +kernel
theorem d_M_init_28 : decode b_M_init 28 = .ok (.aload_n 0, 1) := by decide +kernel
theorem d_M_init_29 : decode b_M_init 29 = .ok (.bipush 28, 2) := by decide +kernel
theorem d_M_init_31 : decode b_M_init 31 = .ok (.newarray .int, 2) := by decide +kernel
theorem d_M_init_33 : decode b_M_init 33 = .ok (.putfield 20, 3) := by decide +kernel
theorem d_M_init_36 : decode b_M_init 36 = .ok (.aload_n 0, 1) := by decide +kernel
theorem d_M_init_37 : decode b_M_init 37 = .ok (.iconst 2, 1) := by decide +kernel
theorem d_M_init_38 : decode b_M_init 38 = .ok (.newarray .int, 2) := by decide +kernel
theorem d_M_init_40 : decode b_M_init 40 = .ok (.putfield 23, 3) := by decide +kernel
theorem d_M_init_43 : decode b_M_init 43 = .ok (.aload_n 0, 1) := by decide +kernel
theorem d_M_init_44 : decode b_M_init 44 = .ok (.bipush 32, 2) := by decide +kernel
theorem d_M_init_46 : decode b_M_init 46 = .ok (.newarray .int, 2) := by decide +kernel
theorem d_M_init_48 : decode b_M_init 48 = .ok (.putfield 26, 3) := by decide +kernel
theorem d_M_init_51 : decode b_M_init 51 = .ok (.aload_n 0, 1) := by decide +kernel
theorem d_M_init_52 : decode b_M_init 52 = .ok (.bipush 32, 2) := by decide +kernel
theorem d_M_init_54 : decode b_M_init 54 = .ok (.newarray .int, 2) := by decide +kernel
theorem d_M_init_56 : decode b_M_init 56 = .ok (.putfield 29, 3) := by decide +kernel
theorem d_M_init_59 : decode b_M_init 59 = .ok (.aload_n 0, 1) := by decide +kernel
theorem d_M_init_60 : decode b_M_init 60 = .ok (.bipush 32, 2) := by decide +kernel
theorem d_M_init_62 : decode b_M_init 62 = .ok (.newarray .int, 2) := by decide +kernel
theorem d_M_init_64 : decode b_M_init 64 = .ok (.putfield 32, 3) := by decide +kernel
theorem d_M_init_67 : decode b_M_init 67 = .ok (.aload_n 0, 1) := by decide +kernel
theorem d_M_init_68 : decode b_M_init 68 = .ok (.bipush 32, 2) := by decide +kernel
theorem d_M_init_70 : decode b_M_init 70 = .ok (.newarray .int, 2) := by decide +kernel
theorem d_M_init_72 : decode b_M_init 72 = .ok (.putfield 35, 3) := by decide +kernel
theorem d_M_init_75 : decode b_M_init 75 = .ok (.aload_n 0, 1) := by decide +kernel
theorem d_M_init_76 : decode b_M_init 76 = .ok (.bipush 32, 2) := by decide +kernel
theorem d_M_init_78 : decode b_M_init 78 = .ok (.newarray .int, 2) := by decide +kernel
theorem d_M_init_80 : decode b_M_init 80 = .ok (.putfield 38, 3) := by decide +kernel
theorem d_M_init_83 : decode b_M_init 83 = .ok (.aload_n 0, 1) := by decide +kernel
theorem d_M_init_84 : decode b_M_init 84 = .ok (.bipush 32, 2) := by decide +kernel
theorem d_M_init_86 : decode b_M_init 86 = .ok (.newarray .long, 2) := by decide +kernel
theorem d_M_init_88 : decode b_M_init 88 = .ok (.putfield 41, 3) := by decide +kernel
theorem d_M_init_91 : decode b_M_init 91 = .ok (.aload_n 0, 1) := by decide +kernel
theorem d_M_init_92 : decode b_M_init 92 = .ok (.bipush 32, 2) := by decide +kernel
theorem d_M_init_94 : decode b_M_init 94 = .ok (.newarray .long, 2) := by decide +kernel
theorem d_M_init_96 : decode b_M_init 96 = .ok (.putfield 44, 3) := by decide +kernel
theorem d_M_init_99 : decode b_M_init 99 = .ok (.aload_n 0, 1) := by decide +kernel
theorem d_M_init_100 : decode b_M_init 100 = .ok (.bipush 32, 2) := by decide +kernel
theorem d_M_init_102 : decode b_M_init 102 = .ok (.newarray .long, 2) := by decide +kernel
theorem d_M_init_104 : decode b_M_init 104 = .ok (.putfield 47, 3) := by decide +kernel
theorem d_M_init_107 : decode b_M_init 107 = .ok (.aload_n 0, 1) := by decide +kernel
theorem d_M_init_108 : decode b_M_init 108 = .ok (.bipush 32, 2) := by decide +kernel
theorem d_M_init_110 : decode b_M_init 110 = .ok (.newarray .int, 2) := by decide +kernel
theorem d_M_init_112 : decode b_M_init 112 = .ok (.putfield 50, 3) := by decide +kernel
theorem d_M_init_115 : decode b_M_init 115 = .ok (.aload_n 0, 1) := by decide +kernel
theorem d_M_init_116 : decode b_M_init 116 = .ok (.bipush 32, 2) := by decide +kernel
theorem d_M_init_118 : decode b_M_init 118 = .ok (.newarray .int, 2) := by decide +kernel
theorem d_M_init_120 : decode b_M_init 120 = .ok (.putfield 53, 3) := by decide +kernel
theorem d_M_init_123 : decode b_M_init 123 = .ok (.aload_n 0, 1) := by decide +kernel
theorem d_M_init_124 : decode b_M_init 124 = .ok (.bipush 32, 2) := by decide +kernel
theorem d_M_init_126 : decode b_M_init 126 = .ok (.newarray .boolean, 2) := by decide +kernel
theorem d_M_init_128 : decode b_M_init 128 = .ok (.putfield 56, 3) := by decide +kernel
theorem d_M_init_131 : decode b_M_init 131 = .ok (.aload_n 0, 1) := by decide +kernel
theorem d_M_init_132 : decode b_M_init 132 = .ok (.iconst (-1), 1) := by decide +kernel
theorem d_M_init_133 : decode b_M_init 133 = .ok (.putfield 60, 3) := by decide +kernel
theorem d_M_init_136 : decode b_M_init 136 = .ok (.aload_n 0, 1) := by decide +kernel
theorem d_M_init_137 : decode b_M_init 137 = .ok (.sipush 16384, 3) := by decide +kernel
theorem d_M_init_140 : decode b_M_init 140 = .ok (.newarray .int, 2) := by decide +kernel
theorem d_M_init_142 : decode b_M_init 142 = .ok (.putfield 64, 3) := by decide +kernel
theorem d_M_init_145 : decode b_M_init 145 = .ok (.aload_n 0, 1) := by decide +kernel
