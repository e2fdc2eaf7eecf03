theorem d_M_init_553 : decode b_M_init 553 = .ok (.ldc2_w 150, 3) := by decide +kernel
theorem d_M_init_556 : decode b_M_init 556 = .ok (.lastore, 1) := by decide +kernel
theorem d_M_init_557 : decode b_M_init 557 = .ok (.aload_n 0, 1) := by decide +kernel
theorem d_M_init_558 : decode b_M_init 558 = .ok (.getfield 7, 3) := by decide +kernel
theorem d_M_init_561 : decode b_M_init 561 = .ok (.bipush 41, 2) := by decide +kernel
theorem d_M_init_563 : decode b_M_init 563 = .ok (.ldc2_w 152, 3) := by decide +kernel
theorem d_M_init_566 : decode b_M_init 566 = .ok (.lastore, 1) := by decide +kernel
theorem d_M_init_567 : decode b_M_init 567 = .ok (.aload_n 0, 1) := by decide +kernel
theorem d_M_init_568 : decode b_M_init 568 = .ok (.getfield 7, 3) := by decide +kernel
theorem d_M_init_571 : decode b_M_init 571 = .ok (.bipush 42, 2) := by decide +kernel
theorem d_M_init_573 : decode b_M_init 573 = .ok (.ldc2_w 154, 3) := by decide +kernel
theorem d_M_init_576 : decode b_M_init 576 = .ok (.lastore, 1) := by decide +kernel
theorem d_M_init_577 : decode b_M_init 577 = .ok (.aload_n 0, 1) := by decide +kernel
theorem d_M_init_578 : decode b_M_init 578 = .ok (.getfield 7, 3) := by decide +kernel
theorem d_M_init_581 : decode b_M_init 581 = .ok (.bipush 43, 2) := by decide +kernel
theorem d_M_init_583 : decode b_M_init 583 = .ok (.ldc2_w 156, 3) := by decide +kernel
theorem d_M_init_586 : decode b_M_init 586 = .ok (.lastore, 1) := by decide +kernel
theorem d_M_init_587 : decode b_M_init 587 = .ok (.aload_n 0, 1) := by decide +kernel
theorem d_M_init_588 : decode b_M_init 588 = .ok (.getfield 7, 3) := by decide +kernel
theorem d_M_init_591 : decode b_M_init 591 = .ok (.bipush 44, 2) := by decide +kernel
