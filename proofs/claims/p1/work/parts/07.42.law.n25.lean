theorem d_M_init_433 : decode b_M_init 433 = .ok (.ldc2_w 126, 3) := by decide +kernel
theorem d_M_init_436 : decode b_M_init 436 = .ok (.lastore, 1) := by decide +kernel
theorem d_M_init_437 : decode b_M_init 437 = .ok (.aload_n 0, 1) := by decide +kernel
theorem d_M_init_438 : decode b_M_init 438 = .ok (.getfield 7, 3) := by decide +kernel
theorem d_M_init_441 : decode b_M_init 441 = .ok (.bipush 29, 2) := by decide +kernel
theorem d_M_init_443 : decode b_M_init 443 = .ok (.ldc2_w 128, 3) := by decide +kernel
theorem d_M_init_446 : decode b_M_init 446 = .ok (.lastore, 1) := by decide +kernel
theorem d_M_init_447 : decode b_M_init 447 = .ok (.aload_n 0, 1) := by decide +kernel
theorem d_M_init_448 : decode b_M_init 448 = .ok (.getfield 7, 3) := by decide +kernel
theorem d_M_init_451 : decode b_M_init 451 = .ok (.bipush 30, 2) := by decide +kernel
theorem d_M_init_453 : decode b_M_init 453 = .ok (.ldc2_w 130, 3) := by decide +kernel
theorem d_M_init_456 : decode b_M_init 456 = .ok (.lastore, 1) := by decide +kernel
theorem d_M_init_457 : decode b_M_init 457 = .ok (.aload_n 0, 1) := by decide +kernel
theorem d_M_init_458 : decode b_M_init 458 = .ok (.getfield 7, 3) := by decide +kernel
theorem d_M_init_461 : decode b_M_init 461 = .ok (.bipush 31, 2) := by decide +kernel
theorem d_M_init_463 : decode b_M_init 463 = .ok (.ldc2_w 132, 3) := by decide +kernel
theorem d_M_init_466 : decode b_M_init 466 = .ok (.lastore, 1) := by decide +kernel
theorem d_M_init_467 : decode b_M_init 467 = .ok (.aload_n 0, 1) := by decide +kernel
theorem d_M_init_468 : decode b_M_init 468 = .ok (.getfield 7, 3) := by decide +kernel
theorem d_M_init_471 : decode b_M_init 471 = .ok (.bipush 32, 2) := by decide +kernel
