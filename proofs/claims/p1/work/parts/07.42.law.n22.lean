theorem d_M_init_313 : decode b_M_init 313 = .ok (.ldc2_w 102, 3) := by decide +kernel
theorem d_M_init_316 : decode b_M_init 316 = .ok (.lastore, 1) := by decide +kernel
theorem d_M_init_317 : decode b_M_init 317 = .ok (.aload_n 0, 1) := by decide +kernel
theorem d_M_init_318 : decode b_M_init 318 = .ok (.getfield 7, 3) := by decide +kernel
theorem d_M_init_321 : decode b_M_init 321 = .ok (.bipush 17, 2) := by decide +kernel
theorem d_M_init_323 : decode b_M_init 323 = .ok (.ldc2_w 104, 3) := by decide +kernel
theorem d_M_init_326 : decode b_M_init 326 = .ok (.lastore, 1) := by decide +kernel
theorem d_M_init_327 : decode b_M_init 327 = .ok (.aload_n 0, 1) := by decide +kernel
theorem d_M_init_328 : decode b_M_init 328 = .ok (.getfield 7, 3) := by decide +kernel
theorem d_M_init_331 : decode b_M_init 331 = .ok (.bipush 18, 2) := by decide +kernel
theorem d_M_init_333 : decode b_M_init 333 = .ok (.ldc2_w 106, 3) := by decide +kernel
theorem d_M_init_336 : decode b_M_init 336 = .ok (.lastore, 1) := by decide +kernel
theorem d_M_init_337 : decode b_M_init 337 = .ok (.aload_n 0, 1) := by decide +kernel
theorem d_M_init_338 : decode b_M_init 338 = .ok (.getfield 7, 3) := by decide +kernel
theorem d_M_init_341 : decode b_M_init 341 = .ok (.bipush 19, 2) := by decide +kernel
theorem d_M_init_343 : decode b_M_init 343 = .ok (.ldc2_w 108, 3) := by decide +kernel
theorem d_M_init_346 : decode b_M_init 346 = .ok (.lastore, 1) := by decide +kernel
theorem d_M_init_347 : decode b_M_init 347 = .ok (.aload_n 0, 1) := by decide +kernel
theorem d_M_init_348 : decode b_M_init 348 = .ok (.getfield 7, 3) := by decide +kernel
theorem d_M_init_351 : decode b_M_init 351 = .ok (.bipush 20, 2) := by decide +kernel
