theorem d_M_init_697 : decode b_M_init 697 = .ok (.ldc 172, 2) := by decide +kernel
theorem d_M_init_699 : decode b_M_init 699 = .ok (.iastore, 1) := by decide +kernel
theorem d_M_init_700 : decode b_M_init 700 = .ok (.aload_n 0, 1) := by decide +kernel
theorem d_M_init_701 : decode b_M_init 701 = .ok (.getfield 13, 3) := by decide +kernel
theorem d_M_init_704 : decode b_M_init 704 = .ok (.bipush 11, 2) := by decide +kernel
theorem d_M_init_706 : decode b_M_init 706 = .ok (.ldc 173, 2) := by decide +kernel
theorem d_M_init_708 : decode b_M_init 708 = .ok (.iastore, 1) := by decide +kernel
theorem d_M_init_709 : decode b_M_init 709 = .ok (.aload_n 0, 1) := by decide +kernel
theorem d_M_init_710 : decode b_M_init 710 = .ok (.getfield 13, 3) := by decide +kernel
theorem d_M_init_713 : decode b_M_init 713 = .ok (.bipush 12, 2) := by decide +kernel
theorem d_M_init_715 : decode b_M_init 715 = .ok (.ldc 174, 2) := by decide +kernel
theorem d_M_init_717 : decode b_M_init 717 = .ok (.iastore, 1) := by decide +kernel
theorem d_M_init_718 : decode b_M_init 718 = .ok (.aload_n 0, 1) := by decide +kernel
theorem d_M_init_719 : decode b_M_init 719 = .ok (.getfield 13, 3) := by decide +kernel
theorem d_M_init_722 : decode b_M_init 722 = .ok (.bipush 13, 2) := by decide +kernel
theorem d_M_init_724 : decode b_M_init 724 = .ok (.ldc 175, 2) := by decide +kernel
theorem d_M_init_726 : decode b_M_init 726 = .ok (.iastore, 1) := by decide +kernel
theorem d_M_init_727 : decode b_M_init 727 = .ok (.aload_n 0, 1) := by decide +kernel
theorem d_M_init_728 : decode b_M_init 728 = .ok (.getfield 13, 3) := by decide +kernel
theorem d_M_init_731 : decode b_M_init 731 = .ok (.bipush 14, 2) := by decide +kernel
