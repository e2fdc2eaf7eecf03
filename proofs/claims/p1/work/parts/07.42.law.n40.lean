theorem d_M_init_985 : decode b_M_init 985 = .ok (.ldc 204, 2) := by decide +kernel
theorem d_M_init_987 : decode b_M_init 987 = .ok (.iastore, 1) := by decide +kernel
theorem d_M_init_988 : decode b_M_init 988 = .ok (.aload_n 0, 1) := by decide +kernel
theorem d_M_init_989 : decode b_M_init 989 = .ok (.getfield 13, 3) := by decide +kernel
theorem d_M_init_992 : decode b_M_init 992 = .ok (.bipush 43, 2) := by decide +kernel
theorem d_M_init_994 : decode b_M_init 994 = .ok (.ldc 205, 2) := by decide +kernel
theorem d_M_init_996 : decode b_M_init 996 = .ok (.iastore, 1) := by decide +kernel
theorem d_M_init_997 : decode b_M_init 997 = .ok (.aload_n 0, 1) := by decide +kernel
theorem d_M_init_998 : decode b_M_init 998 = .ok (.getfield 13, 3) := by decide +kernel
theorem d_M_init_1001 : decode b_M_init 1001 = .ok (.bipush 44, 2) := by decide +kernel
theorem d_M_init_1003 : decode b_M_init 1003 = .ok (.ldc 206, 2) := by decide +kernel
theorem d_M_init_1005 : decode b_M_init 1005 = .ok (.iastore, 1) := by decide +kernel
theorem d_M_init_1006 : decode b_M_init 1006 = .ok (.aload_n 0, 1) := by decide +kernel
theorem d_M_init_1007 : decode b_M_init 1007 = .ok (.getfield 13, 3) := by decide +kernel
theorem d_M_init_1010 : decode b_M_init 1010 = .ok (.bipush 45, 2) := by decide +kernel
theorem d_M_init_1012 : decode b_M_init 1012 = .ok (.ldc 207, 2) := by decide +kernel
theorem d_M_init_1014 : decode b_M_init 1014 = .ok (.iastore, 1) := by decide +kernel
theorem d_M_init_1015 : decode b_M_init 1015 = .ok (.return_, 1) := by decide +kernel
