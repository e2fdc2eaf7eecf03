theorem d_M_show_333 : decode b_M_show 333 = .ok (.iushr, 1) := by decide +kernel
theorem d_M_show_334 : decode b_M_show 334 = .ok (.ldc_w 431, 3) := by decide +kernel
theorem d_M_show_337 : decode b_M_show 337 = .ok (.imul, 1) := by decide +kernel
theorem d_M_show_338 : decode b_M_show 338 = .ok (.iload_n 1, 1) := by decide +kernel
theorem d_M_show_339 : decode b_M_show 339 = .ok (.bipush 12, 2) := by decide +kernel
theorem d_M_show_341 : decode b_M_show 341 = .ok (.ishr, 1) := by decide +kernel
theorem d_M_show_342 : decode b_M_show 342 = .ok (.sipush 255, 3) := by decide +kernel
theorem d_M_show_345 : decode b_M_show 345 = .ok (.iand, 1) := by decide +kernel
theorem d_M_show_346 : decode b_M_show 346 = .ok (.sipush 4096, 3) := by decide +kernel
theorem d_M_show_349 : decode b_M_show 349 = .ok (.imul, 1) := by decide +kernel
theorem d_M_show_350 : decode b_M_show 350 = .ok (.iadd, 1) := by decide +kernel
theorem d_M_show_351 : decode b_M_show 351 = .ok (.iload_n 1, 1) := by decide +kernel
theorem d_M_show_352 : decode b_M_show 352 = .ok (.bipush 20, 2) := by decide +kernel
theorem d_M_show_354 : decode b_M_show 354 = .ok (.ishr, 1) := by decide +kernel
theorem d_M_show_355 : decode b_M_show 355 = .ok (.iconst 1, 1) := by decide +kernel
theorem d_M_show_356 : decode b_M_show 356 = .ok (.iand, 1) := by decide +kernel
theorem d_M_show_357 : decode b_M_show 357 = .ok (.sipush 2048, 3) := by decide +kernel
theorem d_M_show_360 : decode b_M_show 360 = .ok (.imul, 1) := by decide +kernel
theorem d_M_show_361 : decode b_M_show 361 = .ok (.iadd, 1) := by decide +kernel
theorem d_M_show_362 : decode b_M_show 362 = .ok (.iload_n 1, 1) := by decide +kernel
theorem d_M_show_363 : decode b_M_show 363 = .ok (.bipush 21, 2) := by decide +kernel
theorem d_M_show_365 : decode b_M_show 365 = .ok (.ishr, 1) := by decide +kernel
theorem d_M_show_366 : decode b_M_show 366 = .ok (.sipush 1023, 3) := by decide +kernel
theorem d_M_show_369 : decode b_M_show 369 = .ok (.iand, 1) := by decide +kernel
theorem d_M_show_370 : decode b_M_show 370 = .ok (.iconst 2, 1) := by decide +kernel
theorem d_M_show_371 : decode b_M_show 371 = .ok (.imul, 1) := by decide +kernel
theorem d_M_show_372 : decode b_M_show 372 = .ok (.iadd, 1) := by decide +kernel
theorem d_M_show_373 : decode b_M_show 373 = .ok (.bipush 21, 2) := by decide +kernel
theorem d_M_show_375 : decode b_M_show 375 = .ok (.invokestatic 428, 3) := by decide +kernel
theorem d_M_show_378 : decode b_M_show 378 = .ok (.istore 8, 2) := by decide +kernel
theorem d_M_show_380 : decode b_M_show 380 = .ok (.aload_n 0, 1) := by decide +kernel
theorem d_M_show_381 : decode b_M_show 381 = .ok (.iload 8, 2) := by decide +kernel
theorem d_M_show_383 : decode b_M_show 383 = .ok (.invokevirtual 419, 3) := by decide +kernel
theorem d_M_show_386 : decode b_M_show 386 = .ok (.iload_n 3, 1) := by decide +kernel
theorem d_M_show_387 : decode b_M_show 387 = .ok (.iconst 5, 1) := by decide +kernel
theorem d_M_show_388 : decode b_M_show 388 = .ok (.if_icmp .eq 9, 3) := by decide +kernel
theorem d_M_show_391 : decode b_M_show 391 = .ok (.iload_n 3, 1) := by decide +kernel
theorem d_M_show_392 : decode b_M_show 392 = .ok (.bipush 6, 2) := by decide +kernel
theorem d_M_show_394 : decode b_M_show 394 = .ok (.if_icmp .ne 17, 3) := by decide +kernel
theorem d_M_show_397 : decode b_M_show 397 = .ok (.aload_n 0, 1) := by decide +kernel
theorem d_M_show_398 : decode b_M_show 398 = .ok (.bipush 40, 2) := by decide +kernel
theorem d_M_show_400 : decode b_M_show 400 = .ok (.iload 5, 2) := by decide +kernel
theorem d_M_show_402 : decode b_M_show 402 = .ok (.invokevirtual 425, 3) := by decide +kernel
theorem d_M_show_405 : decode b_M_show 405 = .ok (.aload_n 0, 1) := by decide +kernel
theorem d_M_show_406 : decode b_M_show 406 = .ok (.bipush 41, 2) := by decide +kernel
theorem d_M_show_408 : decode b_M_show 408 = .ok (.invokevirtual 414, 3) := by decide +kernel
theorem d_M_show_411 : decode b_M_show 411 = .ok (.aload_n 0, 1) := by decide +kernel
theorem d_M_show_412 : decode b_M_show 412 = .ok (.getfield 411, 3) := by decide +kernel
