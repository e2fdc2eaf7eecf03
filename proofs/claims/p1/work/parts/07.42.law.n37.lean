theorem d_M_init_877 : decode b_M_init 877 = .ok (.ldc 192, 2) := by decide +kernel
theorem d_M_init_879 : decode b_M_init 879 = .ok (.iastore, 1) := by decide +kernel
theorem d_M_init_880 : decode b_M_init 880 = .ok (.aload_n 0, 1) := by decide +kernel
theorem d_M_init_881 : decode b_M_init 881 = .ok (.getfield 13, 3) := by decide +kernel
theorem d_M_init_884 : decode b_M_init 884 = .ok (.bipush 31, 2) := by decide +kernel
theorem d_M_init_886 : decode b_M_init 886 = .ok (.ldc 193, 2) := by decide +kernel
theorem d_M_init_888 : decode b_M_init 888 = .ok (.iastore, 1) := by decide +kernel
theorem d_M_init_889 : decode b_M_init 889 = .ok (.aload_n 0, 1) := by decide +kernel
theorem d_M_init_890 : decode b_M_init 890 = .ok (.getfield 13, 3) := by decide +kernel
theorem d_M_init_893 : decode b_M_init 893 = .ok (.bipush 32, 2) := by decide +kernel
theorem d_M_init_895 : decode b_M_init 895 = .ok (.ldc 194, 2) := by decide +kernel
theorem d_M_init_897 : decode b_M_init 897 = .ok (.iastore, 1) := by decide +kernel
theorem d_M_init_898 : decode b_M_init 898 = .ok (.aload_n 0, 1) := by decide +kernel
theorem d_M_init_899 : decode b_M_init 899 = .ok (.getfield 13, 3) := by decide +kernel
theorem d_M_init_902 : decode b_M_init 902 = .ok (.bipush 33, 2) := by decide +kernel
theorem d_M_init_904 : decode b_M_init 904 = .ok (.ldc 195, 2) := by decide +kernel
theorem d_M_init_906 : decode b_M_init 906 = .ok (.iastore, 1) := by decide +kernel
theorem d_M_init_907 : decode b_M_init 907 = .ok (.aload_n 0, 1) := by decide +kernel
theorem d_M_init_908 : decode b_M_init 908 = .ok (.getfield 13, 3) := by decide +kernel
theorem d_M_init_911 : decode b_M_init 911 = .ok (.bipush 34, 2) := by decide +kernel
