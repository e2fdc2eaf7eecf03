theorem d_M_init_949 : decode b_M_init 949 = .ok (.ldc 200, 2) := by decide +kernel
theorem d_M_init_951 : decode b_M_init 951 = .ok (.iastore, 1) := by decide +kernel
theorem d_M_init_952 : decode b_M_init 952 = .ok (.aload_n 0, 1) := by decide +kernel
theorem d_M_init_953 : decode b_M_init 953 = .ok (.getfield 13, 3) := by decide +kernel
theorem d_M_init_956 : decode b_M_init 956 = .ok (.bipush 39, 2) := by decide +kernel
theorem d_M_init_958 : decode b_M_init 958 = .ok (.ldc 201, 2) := by decide +kernel
theorem d_M_init_960 : decode b_M_init 960 = .ok (.iastore, 1) := by decide +kernel
theorem d_M_init_961 : decode b_M_init 961 = .ok (.aload_n 0, 1) := by decide +kernel
theorem d_M_init_962 : decode b_M_init 962 = .ok (.getfield 13, 3) := by decide +kernel
theorem d_M_init_965 : decode b_M_init 965 = .ok (.bipush 40, 2) := by decide +kernel
theorem d_M_init_967 : decode b_M_init 967 = .ok (.ldc 202, 2) := by decide +kernel
theorem d_M_init_969 : decode b_M_init 969 = .ok (.iastore, 1) := by decide +kernel
theorem d_M_init_970 : decode b_M_init 970 = .ok (.aload_n 0, 1) := by decide +kernel
theorem d_M_init_971 : decode b_M_init 971 = .ok (.getfield 13, 3) := by decide +kernel
theorem d_M_init_974 : decode b_M_init 974 = .ok (.bipush 41, 2) := by decide +kernel
theorem d_M_init_976 : decode b_M_init 976 = .ok (.ldc 203, 2) := by decide +kernel
theorem d_M_init_978 : decode b_M_init 978 = .ok (.iastore, 1) := by decide +kernel
theorem d_M_init_979 : decode b_M_init 979 = .ok (.aload_n 0, 1) := by decide +kernel
theorem d_M_init_980 : decode b_M_init 980 = .ok (.getfield 13, 3) := by decide +kernel
theorem d_M_init_983 : decode b_M_init 983 = .ok (.bipush 42, 2) := by decide +kernel
