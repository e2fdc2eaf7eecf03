theorem d_M_init_353 : decode b_M_init 353 = .ok (.ldc2_w 110, 3) := by decide +kernel
theorem d_M_init_356 : decode b_M_init 356 = .ok (.lastore, 1) := by decide +kernel
theorem d_M_init_357 : decode b_M_init 357 = .ok (.aload_n 0, 1) := by decide +kernel
theorem d_M_init_358 : decode b_M_init 358 = .ok (.getfield 7, 3) := by decide +kernel
theorem d_M_init_361 : decode b_M_init 361 = .ok (.bipush 21, 2) := by decide +kernel
theorem d_M_init_363 : decode b_M_init 363 = .ok (.ldc2_w 112, 3) := by decide +kernel
theorem d_M_init_366 : decode b_M_init 366 = .ok (.lastore, 1) := by decide +kernel
theorem d_M_init_367 : decode b_M_init 367 = .ok (.aload_n 0, 1) := by decide +kernel
theorem d_M_init_368 : decode b_M_init 368 = .ok (.getfield 7, 3) := by decide +kernel
theorem d_M_init_371 : decode b_M_init 371 = .ok (.bipush 22, 2) := by decide +kernel
theorem d_M_init_373 : decode b_M_init 373 = .ok (.ldc2_w 114, 3) := by decide +kernel
theorem d_M_init_376 : decode b_M_init 376 = .ok (.lastore, 1) := by decide +kernel
theorem d_M_init_377 : decode b_M_init 377 = .ok (.aload_n 0, 1) := by decide +kernel
theorem d_M_init_378 : decode b_M_init 378 = .ok (.getfield 7, 3) := by decide +kernel
theorem d_M_init_381 : decode b_M_init 381 = .ok (.bipush 23, 2) := by decide +kernel
theorem d_M_init_383 : decode b_M_init 383 = .ok (.ldc2_w 116, 3) := by decide +kernel
theorem d_M_init_386 : decode b_M_init 386 = .ok (.lastore, 1) := by decide +kernel
theorem d_M_init_387 : decode b_M_init 387 = .ok (.aload_n 0, 1) := by decide +kernel
theorem d_M_init_388 : decode b_M_init 388 = .ok (.getfield 7, 3) := by decide +kernel
theorem d_M_init_391 : decode b_M_init 391 = .ok (.bipush 24, 2) := by decide +kernel
