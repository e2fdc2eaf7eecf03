theorem d_M_init_593 : decode b_M_init 593 = .ok (.ldc2_w 158, 3) := by decide +kernel
theorem d_M_init_596 : decode b_M_init 596 = .ok (.lastore, 1) := by decide +kernel
theorem d_M_init_597 : decode b_M_init 597 = .ok (.aload_n 0, 1) := by decide +kernel
theorem d_M_init_598 : decode b_M_init 598 = .ok (.getfield 7, 3) := by decide +kernel
theorem d_M_init_601 : decode b_M_init 601 = .ok (.bipush 45, 2) := by decide +kernel
theorem d_M_init_603 : decode b_M_init 603 = .ok (.ldc2_w 160, 3) := by decide +kernel
theorem d_M_init_606 : decode b_M_init 606 = .ok (.lastore, 1) := by decide +kernel
theorem d_M_init_607 : decode b_M_init 607 = .ok (.aload_n 0, 1) := by decide +kernel
theorem d_M_init_608 : decode b_M_init 608 = .ok (.getfield 13, 3) := by decide +kernel
theorem d_M_init_611 : decode b_M_init 611 = .ok (.iconst 0, 1) := by decide +kernel
theorem d_M_init_612 : decode b_M_init 612 = .ok (.ldc 162, 2) := by decide +kernel
theorem d_M_init_614 : decode b_M_init 614 = .ok (.iastore, 1) := by decide +kernel
theorem d_M_init_615 : decode b_M_init 615 = .ok (.aload_n 0, 1) := by decide +kernel
theorem d_M_init_616 : decode b_M_init 616 = .ok (.getfield 13, 3) := by decide +kernel
theorem d_M_init_619 : decode b_M_init 619 = .ok (.iconst 1, 1) := by decide +kernel
theorem d_M_init_620 : decode b_M_init 620 = .ok (.ldc 163, 2) := by decide +kernel
theorem d_M_init_622 : decode b_M_init 622 = .ok (.iastore, 1) := by decide +kernel
theorem d_M_init_623 : decode b_M_init 623 = .ok (.aload_n 0, 1) := by decide +kernel
theorem d_M_init_624 : decode b_M_init 624 = .ok (.getfield 13, 3) := by decide +kernel
theorem d_M_init_627 : decode b_M_init 627 = .ok (.iconst 2, 1) := by decide +kernel
