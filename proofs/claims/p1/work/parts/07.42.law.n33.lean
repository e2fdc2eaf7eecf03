theorem d_M_init_733 : decode b_M_init 733 = .ok (.ldc 176, 2) := by decide +kernel
theorem d_M_init_735 : decode b_M_init 735 = .ok (.iastore, 1) := by decide +kernel
theorem d_M_init_736 : decode b_M_init 736 = .ok (.aload_n 0, 1) := by decide +kernel
theorem d_M_init_737 : decode b_M_init 737 = .ok (.getfield 13, 3) := by decide +kernel
theorem d_M_init_740 : decode b_M_init 740 = .ok (.bipush 15, 2) := by decide +kernel
theorem d_M_init_742 : decode b_M_init 742 = .ok (.ldc 177, 2) := by decide +kernel
theorem d_M_init_744 : decode b_M_init 744 = .ok (.iastore, 1) := by decide +kernel
theorem d_M_init_745 : decode b_M_init 745 = .ok (.aload_n 0, 1) := by decide +kernel
theorem d_M_init_746 : decode b_M_init 746 = .ok (.getfield 13, 3) := by decide +kernel
theorem d_M_init_749 : decode b_M_init 749 = .ok (.bipush 16, 2) := by decide +kernel
theorem d_M_init_751 : decode b_M_init 751 = .ok (.ldc 178, 2) := by decide +kernel
theorem d_M_init_753 : decode b_M_init 753 = .ok (.iastore, 1) := by decide +kernel
theorem d_M_init_754 : decode b_M_init 754 = .ok (.aload_n 0, 1) := by decide +kernel
theorem d_M_init_755 : decode b_M_init 755 = .ok (.getfield 13, 3) := by decide +kernel
theorem d_M_init_758 : decode b_M_init 758 = .ok (.bipush 17, 2) := by decide +kernel
theorem d_M_init_760 : decode b_M_init 760 = .ok (.ldc 179, 2) := by decide +kernel
theorem d_M_init_762 : decode b_M_init 762 = .ok (.iastore, 1) := by decide +kernel
theorem d_M_init_763 : decode b_M_init 763 = .ok (.aload_n 0, 1) := by decide +kernel
theorem d_M_init_764 : decode b_M_init 764 = .ok (.getfield 13, 3) := by decide +kernel
theorem d_M_init_767 : decode b_M_init 767 = .ok (.bipush 18, 2) := by decide +kernel
