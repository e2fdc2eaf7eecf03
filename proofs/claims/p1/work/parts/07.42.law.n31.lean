theorem d_M_init_661 : decode b_M_init 661 = .ok (.ldc 168, 2) := by decide +kernel
theorem d_M_init_663 : decode b_M_init 663 = .ok (.iastore, 1) := by decide +kernel
theorem d_M_init_664 : decode b_M_init 664 = .ok (.aload_n 0, 1) := by decide +kernel
theorem d_M_init_665 : decode b_M_init 665 = .ok (.getfield 13, 3) := by decide +kernel
theorem d_M_init_668 : decode b_M_init 668 = .ok (.bipush 7, 2) := by decide +kernel
theorem d_M_init_670 : decode b_M_init 670 = .ok (.ldc 169, 2) := by decide +kernel
theorem d_M_init_672 : decode b_M_init 672 = .ok (.iastore, 1) := by decide +kernel
theorem d_M_init_673 : decode b_M_init 673 = .ok (.aload_n 0, 1) := by decide +kernel
theorem d_M_init_674 : decode b_M_init 674 = .ok (.getfield 13, 3) := by decide +kernel
theorem d_M_init_677 : decode b_M_init 677 = .ok (.bipush 8, 2) := by decide +kernel
theorem d_M_init_679 : decode b_M_init 679 = .ok (.ldc 170, 2) := by decide +kernel
theorem d_M_init_681 : decode b_M_init 681 = .ok (.iastore, 1) := by decide +kernel
theorem d_M_init_682 : decode b_M_init 682 = .ok (.aload_n 0, 1) := by decide +kernel
theorem d_M_init_683 : decode b_M_init 683 = .ok (.getfield 13, 3) := by decide +kernel
theorem d_M_init_686 : decode b_M_init 686 = .ok (.bipush 9, 2) := by decide +kernel
theorem d_M_init_688 : decode b_M_init 688 = .ok (.ldc 171, 2) := by decide +kernel
theorem d_M_init_690 : decode b_M_init 690 = .ok (.iastore, 1) := by decide +kernel
theorem d_M_init_691 : decode b_M_init 691 = .ok (.aload_n 0, 1) := by decide +kernel
theorem d_M_init_692 : decode b_M_init 692 = .ok (.getfield 13, 3) := by decide +kernel
theorem d_M_init_695 : decode b_M_init 695 = .ok (.bipush 10, 2) := by decide +kernel
