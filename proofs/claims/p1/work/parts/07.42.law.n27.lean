theorem d_M_init_513 : decode b_M_init 513 = .ok (.ldc2_w 142, 3) := by decide +kernel
theorem d_M_init_516 : decode b_M_init 516 = .ok (.lastore, 1) := by decide +kernel
theorem d_M_init_517 : decode b_M_init 517 = .ok (.aload_n 0, 1) := by decide +kernel
theorem d_M_init_518 : decode b_M_init 518 = .ok (.getfield 7, 3) := by decide +kernel
theorem d_M_init_521 : decode b_M_init 521 = .ok (.bipush 37, 2) := by decide +kernel
theorem d_M_init_523 : decode b_M_init 523 = .ok (.ldc2_w 144, 3) := by decide +kernel
theorem d_M_init_526 : decode b_M_init 526 = .ok (.lastore, 1) := by decide +kernel
theorem d_M_init_527 : decode b_M_init 527 = .ok (.aload_n 0, 1) := by decide +kernel
theorem d_M_init_528 : decode b_M_init 528 = .ok (.getfield 7, 3) := by decide +kernel
theorem d_M_init_531 : decode b_M_init 531 = .ok (.bipush 38, 2) := by decide +kernel
theorem d_M_init_533 : decode b_M_init 533 = .ok (.ldc2_w 146, 3) := by decide +kernel
theorem d_M_init_536 : decode b_M_init 536 = .ok (.lastore, 1) := by decide +kernel
theorem d_M_init_537 : decode b_M_init 537 = .ok (.aload_n 0, 1) := by decide +kernel
theorem d_M_init_538 : decode b_M_init 538 = .ok (.getfield 7, 3) := by decide +kernel
theorem d_M_init_541 : decode b_M_init 541 = .ok (.bipush 39, 2) := by decide +kernel
theorem d_M_init_543 : decode b_M_init 543 = .ok (.ldc2_w 148, 3) := by decide +kernel
theorem d_M_init_546 : decode b_M_init 546 = .ok (.lastore, 1) := by decide +kernel
theorem d_M_init_547 : decode b_M_init 547 = .ok (.aload_n 0, 1) := by decide +kernel
theorem d_M_init_548 : decode b_M_init 548 = .ok (.getfield 7, 3) := by decide +kernel
theorem d_M_init_551 : decode b_M_init 551 = .ok (.bipush 40, 2) := by decide +kernel
