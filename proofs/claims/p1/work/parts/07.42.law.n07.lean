theorem d_L_law_305 : decode b_L_law 305 = .ok (.goto 339, 3) := by decide +kernel
theorem d_L_law_308 : decode b_L_law 308 = .ok (.aload_n 1, 1) := by decide +kernel
theorem d_L_law_309 : decode b_L_law 309 = .ok (.aload_n 3, 1) := by decide +kernel
theorem d_L_law_310 : decode b_L_law 310 = .ok (.invokestatic 81, 3) := by decide +kernel
theorem d_L_law_313 : decode b_L_law 313 = .ok (.istore 5, 2) := by decide +kernel
theorem d_L_law_315 : decode b_L_law 315 = .ok (.aload_n 2, 1) := by decide +kernel
theorem d_L_law_316 : decode b_L_law 316 = .ok (.invokevirtual 83, 3) := by decide +kernel
theorem d_L_law_319 : decode b_L_law 319 = .ok (.istore 6, 2) := by decide +kernel
theorem d_L_law_321 : decode b_L_law 321 = .ok (.aload_n 2, 1) := by decide +kernel
theorem d_L_law_322 : decode b_L_law 322 = .ok (.invokevirtual 66, 3) := by decide +kernel
theorem d_L_law_325 : decode b_L_law 325 = .ok (.iload 5, 2) := by decide +kernel
theorem d_L_law_327 : decode b_L_law 327 = .ok (.if_icmp .eq 5, 3) := by decide +kernel
theorem d_L_law_332 : decode b_L_law 332 = .ok (.iload 5, 2) := by decide +kernel
theorem d_L_law_334 : decode b_L_law 334 = .ok (.ifCond .ne 15, 3) := by decide +kernel
theorem d_L_law_349 : decode b_L_law 349 = .ok (.goto 295, 3) := by decide +kernel
theorem d_L_law_352 : decode b_L_law 352 = .ok (.aload_n 1, 1) := by decide +kernel
theorem d_L_law_353 : decode b_L_law 353 = .ok (.aload_n 0, 1) := by decide +kernel
theorem d_L_law_354 : decode b_L_law 354 = .ok (.iload 4, 2) := by decide +kernel
theorem d_L_law_356 : decode b_L_law 356 = .ok (.iconst 1, 1) := by decide +kernel
theorem d_L_law_357 : decode b_L_law 357 = .ok (.iadd, 1) := by decide +kernel
theorem d_L_law_358 : decode b_L_law 358 = .ok (.iaload, 1) := by decide +kernel
theorem d_L_law_359 : decode b_L_law 359 = .ok (.aload_n 3, 1) := by decide +kernel
theorem d_L_law_360 : decode b_L_law 360 = .ok (.invokestatic 84, 3) := by decide +kernel
theorem d_L_law_363 : decode b_L_law 363 = .ok (.istore 5, 2) := by decide +kernel
theorem d_L_law_365 : decode b_L_law 365 = .ok (.aload_n 2, 1) := by decide +kernel
theorem d_L_law_366 : decode b_L_law 366 = .ok (.aload_n 0, 1) := by decide +kernel
theorem d_L_law_367 : decode b_L_law 367 = .ok (.iload 4, 2) := by decide +kernel
theorem d_L_law_369 : decode b_L_law 369 = .ok (.iconst 1, 1) := by decide +kernel
theorem d_L_law_370 : decode b_L_law 370 = .ok (.iadd, 1) := by decide +kernel
theorem d_L_law_371 : decode b_L_law 371 = .ok (.iaload, 1) := by decide +kernel
