theorem d_M_init_393 : decode b_M_init 393 = .ok (.ldc2_w 118, 3) := by decide +kernel
theorem d_M_init_396 : decode b_M_init 396 = .ok (.lastore, 1) := by decide +kernel
theorem d_M_init_397 : decode b_M_init 397 = .ok (.aload_n 0, 1) := by decide +kernel
theorem d_M_init_398 : decode b_M_init 398 = .ok (.getfield 7, 3) := by decide +kernel
theorem d_M_init_401 : decode b_M_init 401 = .ok (.bipush 25, 2) := by decide +kernel
theorem d_M_init_403 : decode b_M_init 403 = .ok (.ldc2_w 120, 3) := by decide +kernel
theorem d_M_init_406 : decode b_M_init 406 = .ok (.lastore, 1) := by decide +kernel
theorem d_M_init_407 : decode b_M_init 407 = .ok (.aload_n 0, 1) := by decide +kernel
theorem d_M_init_408 : decode b_M_init 408 = .ok (.getfield 7, 3) := by decide +kernel
theorem d_M_init_411 : decode b_M_init 411 = .ok (.bipush 26, 2) := by decide +kernel
theorem d_M_init_413 : decode b_M_init 413 = .ok (.ldc2_w 122, 3) := by decide +kernel
theorem d_M_init_416 : decode b_M_init 416 = .ok (.lastore, 1) := by decide +kernel
theorem d_M_init_417 : decode b_M_init 417 = .ok (.aload_n 0, 1) := by decide +kernel
theorem d_M_init_418 : decode b_M_init 418 = .ok (.getfield 7, 3) := by decide +kernel
theorem d_M_init_421 : decode b_M_init 421 = .ok (.bipush 27, 2) := by decide +kernel
theorem d_M_init_423 : decode b_M_init 423 = .ok (.ldc2_w 124, 3) := by decide +kernel
theorem d_M_init_426 : decode b_M_init 426 = .ok (.lastore, 1) := by decide +kernel
theorem d_M_init_427 : decode b_M_init 427 = .ok (.aload_n 0, 1) := by decide +kernel
theorem d_M_init_428 : decode b_M_init 428 = .ok (.getfield 7, 3) := by decide +kernel
theorem d_M_init_431 : decode b_M_init 431 = .ok (.bipush 28, 2) := by decide +kernel
