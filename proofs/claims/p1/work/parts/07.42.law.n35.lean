theorem d_M_init_805 : decode b_M_init 805 = .ok (.ldc 184, 2) := by decide +kernel
theorem d_M_init_807 : decode b_M_init 807 = .ok (.iastore, 1) := by decide +kernel
theorem d_M_init_808 : decode b_M_init 808 = .ok (.aload_n 0, 1) := by decide +kernel
theorem d_M_init_809 : decode b_M_init 809 = .ok (.getfield 13, 3) := by decide +kernel
theorem d_M_init_812 : decode b_M_init 812 = .ok (.bipush 23, 2) := by decide +kernel
theorem d_M_init_814 : decode b_M_init 814 = .ok (.ldc 185, 2) := by decide +kernel
theorem d_M_init_816 : decode b_M_init 816 = .ok (.iastore, 1) := by decide +kernel
theorem d_M_init_817 : decode b_M_init 817 = .ok (.aload_n 0, 1) := by decide +kernel
theorem d_M_init_818 : decode b_M_init 818 = .ok (.getfield 13, 3) := by decide +kernel
theorem d_M_init_821 : decode b_M_init 821 = .ok (.bipush 24, 2) := by decide +kernel
theorem d_M_init_823 : decode b_M_init 823 = .ok (.ldc 186, 2) := by decide +kernel
theorem d_M_init_825 : decode b_M_init 825 = .ok (.iastore, 1) := by decide +kernel
theorem d_M_init_826 : decode b_M_init 826 = .ok (.aload_n 0, 1) := by decide +kernel
theorem d_M_init_827 : decode b_M_init 827 = .ok (.getfield 13, 3) := by decide +kernel
theorem d_M_init_830 : decode b_M_init 830 = .ok (.bipush 25, 2) := by decide +kernel
theorem d_M_init_832 : decode b_M_init 832 = .ok (.ldc 187, 2) := by decide +kernel
theorem d_M_init_834 : decode b_M_init 834 = .ok (.iastore, 1) := by decide +kernel
theorem d_M_init_835 : decode b_M_init 835 = .ok (.aload_n 0, 1) := by decide +kernel
theorem d_M_init_836 : decode b_M_init 836 = .ok (.getfield 13, 3) := by decide +kernel
theorem d_M_init_839 : decode b_M_init 839 = .ok (.bipush 26, 2) := by decide +kernel
