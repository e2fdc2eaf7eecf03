theorem d_M_init_913 : decode b_M_init 913 = .ok (.ldc 196, 2) := by decide +kernel
theorem d_M_init_915 : decode b_M_init 915 = .ok (.iastore, 1) := by decide +kernel
theorem d_M_init_916 : decode b_M_init 916 = .ok (.aload_n 0, 1) := by decide +kernel
theorem d_M_init_917 : decode b_M_init 917 = .ok (.getfield 13, 3) := by decide +kernel
theorem d_M_init_920 : decode b_M_init 920 = .ok (.bipush 35, 2) := by decide +kernel
theorem d_M_init_922 : decode b_M_init 922 = .ok (.ldc 197, 2) := by decide +kernel
theorem d_M_init_924 : decode b_M_init 924 = .ok (.iastore, 1) := by decide +kernel
theorem d_M_init_925 : decode b_M_init 925 = .ok (.aload_n 0, 1) := by decide +kernel
theorem d_M_init_926 : decode b_M_init 926 = .ok (.getfield 13, 3) := by decide +kernel
theorem d_M_init_929 : decode b_M_init 929 = .ok (.bipush 36, 2) := by decide +kernel
theorem d_M_init_931 : decode b_M_init 931 = .ok (.ldc 198, 2) := by decide +kernel
theorem d_M_init_933 : decode b_M_init 933 = .ok (.iastore, 1) := by decide +kernel
theorem d_M_init_934 : decode b_M_init 934 = .ok (.aload_n 0, 1) := by decide +kernel
theorem d_M_init_935 : decode b_M_init 935 = .ok (.getfield 13, 3) := by decide +kernel
theorem d_M_init_938 : decode b_M_init 938 = .ok (.bipush 37, 2) := by decide +kernel
theorem d_M_init_940 : decode b_M_init 940 = .ok (.ldc 199, 2) := by decide +kernel
theorem d_M_init_942 : decode b_M_init 942 = .ok (.iastore, 1) := by decide +kernel
theorem d_M_init_943 : decode b_M_init 943 = .ok (.aload_n 0, 1) := by decide +kernel
theorem d_M_init_944 : decode b_M_init 944 = .ok (.getfield 13, 3) := by decide +kernel
theorem d_M_init_947 : decode b_M_init 947 = .ok (.bipush 38, 2) := by decide +kernel
