theorem d_M_init_473 : decode b_M_init 473 = .ok (.ldc2_w 134, 3) := by decide +kernel
theorem d_M_init_476 : decode b_M_init 476 = .ok (.lastore, 1) := by decide +kernel
theorem d_M_init_477 : decode b_M_init 477 = .ok (.aload_n 0, 1) := by decide +kernel
theorem d_M_init_478 : decode b_M_init 478 = .ok (.getfield 7, 3) := by decide +kernel
theorem d_M_init_481 : decode b_M_init 481 = .ok (.bipush 33, 2) := by decide +kernel
theorem d_M_init_483 : decode b_M_init 483 = .ok (.ldc2_w 136, 3) := by decide +kernel
theorem d_M_init_486 : decode b_M_init 486 = .ok (.lastore, 1) := by decide +kernel
theorem d_M_init_487 : decode b_M_init 487 = .ok (.aload_n 0, 1) := by decide +kernel
theorem d_M_init_488 : decode b_M_init 488 = .ok (.getfield 7, 3) := by decide +kernel
theorem d_M_init_491 : decode b_M_init 491 = .ok (.bipush 34, 2) := by decide +kernel
theorem d_M_init_493 : decode b_M_init 493 = .ok (.ldc2_w 138, 3) := by decide +kernel
theorem d_M_init_496 : decode b_M_init 496 = .ok (.lastore, 1) := by decide +kernel
theorem d_M_init_497 : decode b_M_init 497 = .ok (.aload_n 0, 1) := by decide +kernel
theorem d_M_init_498 : decode b_M_init 498 = .ok (.getfield 7, 3) := by decide +kernel
theorem d_M_init_501 : decode b_M_init 501 = .ok (.bipush 35, 2) := by decide +kernel
theorem d_M_init_503 : decode b_M_init 503 = .ok (.ldc2_w 140, 3) := by decide +kernel
theorem d_M_init_506 : decode b_M_init 506 = .ok (.lastore, 1) := by decide +kernel
theorem d_M_init_507 : decode b_M_init 507 = .ok (.aload_n 0, 1) := by decide +kernel
theorem d_M_init_508 : decode b_M_init 508 = .ok (.getfield 7, 3) := by decide +kernel
theorem d_M_init_511 : decode b_M_init 511 = .ok (.bipush 36, 2) := by decide +kernel
