theorem d_M_init_769 : decode b_M_init 769 = .ok (.ldc 180, 2) := by decide +kernel
theorem d_M_init_771 : decode b_M_init 771 = .ok (.iastore, 1) := by decide +kernel
theorem d_M_init_772 : decode b_M_init 772 = .ok (.aload_n 0, 1) := by decide +kernel
theorem d_M_init_773 : decode b_M_init 773 = .ok (.getfield 13, 3) := by decide +kernel
theorem d_M_init_776 : decode b_M_init 776 = .ok (.bipush 19, 2) := by decide +kernel
theorem d_M_init_778 : decode b_M_init 778 = .ok (.ldc 181, 2) := by decide +kernel
theorem d_M_init_780 : decode b_M_init 780 = .ok (.iastore, 1) := by decide +kernel
theorem d_M_init_781 : decode b_M_init 781 = .ok (.aload_n 0, 1) := by decide +kernel
theorem d_M_init_782 : decode b_M_init 782 = .ok (.getfield 13, 3) := by decide +kernel
theorem d_M_init_785 : decode b_M_init 785 = .ok (.bipush 20, 2) := by decide +kernel
theorem d_M_init_787 : decode b_M_init 787 = .ok (.ldc 182, 2) := by decide +kernel
theorem d_M_init_789 : decode b_M_init 789 = .ok (.iastore, 1) := by decide +kernel
theorem d_M_init_790 : decode b_M_init 790 = .ok (.aload_n 0, 1) := by decide +kernel
theorem d_M_init_791 : decode b_M_init 791 = .ok (.getfield 13, 3) := by decide +kernel
theorem d_M_init_794 : decode b_M_init 794 = .ok (.bipush 21, 2) := by decide +kernel
theorem d_M_init_796 : decode b_M_init 796 = .ok (.ldc 183, 2) := by decide +kernel
theorem d_M_init_798 : decode b_M_init 798 = .ok (.iastore, 1) := by decide +kernel
theorem d_M_init_799 : decode b_M_init 799 = .ok (.aload_n 0, 1) := by decide +kernel
theorem d_M_init_800 : decode b_M_init 800 = .ok (.getfield 13, 3) := by decide +kernel
theorem d_M_init_803 : decode b_M_init 803 = .ok (.bipush 22, 2) := by decide +kernel
