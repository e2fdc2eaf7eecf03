theorem d_M_init_841 : decode b_M_init 841 = .ok (.ldc 188, 2) := by decide +kernel
theorem d_M_init_843 : decode b_M_init 843 = .ok (.iastore, 1) := by decide +kernel
theorem d_M_init_844 : decode b_M_init 844 = .ok (.aload_n 0, 1) := by decide +kernel
theorem d_M_init_845 : decode b_M_init 845 = .ok (.getfield 13, 3) := by decide +kernel
theorem d_M_init_848 : decode b_M_init 848 = .ok (.bipush 27, 2) := by decide +kernel
theorem d_M_init_850 : decode b_M_init 850 = .ok (.ldc 189, 2) := by decide +kernel
theorem d_M_init_852 : decode b_M_init 852 = .ok (.iastore, 1) := by decide +kernel
theorem d_M_init_853 : decode b_M_init 853 = .ok (.aload_n 0, 1) := by decide +kernel
theorem d_M_init_854 : decode b_M_init 854 = .ok (.getfield 13, 3) := by decide +kernel
theorem d_M_init_857 : decode b_M_init 857 = .ok (.bipush 28, 2) := by decide +kernel
theorem d_M_init_859 : decode b_M_init 859 = .ok (.ldc 190, 2) := by decide +kernel
theorem d_M_init_861 : decode b_M_init 861 = .ok (.iastore, 1) := by decide +kernel
theorem d_M_init_862 : decode b_M_init 862 = .ok (.aload_n 0, 1) := by decide +kernel
theorem d_M_init_863 : decode b_M_init 863 = .ok (.getfield 13, 3) := by decide +kernel
theorem d_M_init_866 : decode b_M_init 866 = .ok (.bipush 29, 2) := by decide +kernel
theorem d_M_init_868 : decode b_M_init 868 = .ok (.ldc 191, 2) := by decide +kernel
theorem d_M_init_870 : decode b_M_init 870 = .ok (.iastore, 1) := by decide +kernel
theorem d_M_init_871 : decode b_M_init 871 = .ok (.aload_n 0, 1) := by decide +kernel
theorem d_M_init_872 : decode b_M_init 872 = .ok (.getfield 13, 3) := by decide +kernel
theorem d_M_init_875 : decode b_M_init 875 = .ok (.bipush 30, 2) := by decide +kernel
