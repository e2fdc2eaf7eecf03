theorem d_L_law_98 : decode b_L_law 98 = .ok (.iaload, 1) := by decide +kernel
theorem d_L_law_99 : decode b_L_law 99 = .ok (.i2l, 1) := by decide +kernel
theorem d_L_law_100 : decode b_L_law 100 = .ok (.bipush 32, 2) := by decide +kernel
theorem d_L_law_102 : decode b_L_law 102 = .ok (.lshl, 1) := by decide +kernel
theorem d_L_law_103 : decode b_L_law 103 = .ok (.aload_n 0, 1) := by decide +kernel
theorem d_L_law_104 : decode b_L_law 104 = .ok (.iload 4, 2) := by decide +kernel
theorem d_L_law_106 : decode b_L_law 106 = .ok (.iconst 2, 1) := by decide +kernel
theorem d_L_law_107 : decode b_L_law 107 = .ok (.iadd, 1) := by decide +kernel
theorem d_L_law_108 : decode b_L_law 108 = .ok (.iaload, 1) := by decide +kernel
theorem d_L_law_109 : decode b_L_law 109 = .ok (.i2l, 1) := by decide +kernel
theorem d_L_law_110 : decode b_L_law 110 = .ok (.ldc2_w 58, 3) := by decide +kernel
theorem d_L_law_113 : decode b_L_law 113 = .ok (.land, 1) := by decide +kernel
theorem d_L_law_114 : decode b_L_law 114 = .ok (.lor, 1) := by decide +kernel
theorem d_L_law_115 : decode b_L_law 115 = .ok (.aload_n 0, 1) := by decide +kernel
theorem d_L_law_116 : decode b_L_law 116 = .ok (.iload 4, 2) := by decide +kernel
theorem d_L_law_118 : decode b_L_law 118 = .ok (.iconst 3, 1) := by decide +kernel
theorem d_L_law_119 : decode b_L_law 119 = .ok (.iadd, 1) := by decide +kernel
theorem d_L_law_120 : decode b_L_law 120 = .ok (.iaload, 1) := by decide +kernel
theorem d_L_law_121 : decode b_L_law 121 = .ok (.invokestatic 60, 3) := by decide +kernel
theorem d_L_law_124 : decode b_L_law 124 = .ok (.istore 5, 2) := by decide +kernel
theorem d_L_law_126 : decode b_L_law 126 = .ok (.aload_n 2, 1) := by decide +kernel
theorem d_L_law_127 : decode b_L_law 127 = .ok (.aload_n 0, 1) := by decide +kernel
theorem d_L_law_128 : decode b_L_law 128 = .ok (.iload 4, 2) := by decide +kernel
theorem d_L_law_130 : decode b_L_law 130 = .ok (.iconst 1, 1) := by decide +kernel
theorem d_L_law_131 : decode b_L_law 131 = .ok (.iadd, 1) := by decide +kernel
theorem d_L_law_132 : decode b_L_law 132 = .ok (.iaload, 1) := by decide +kernel
theorem d_L_law_133 : decode b_L_law 133 = .ok (.i2l, 1) := by decide +kernel
theorem d_L_law_134 : decode b_L_law 134 = .ok (.bipush 32, 2) := by decide +kernel
theorem d_L_law_136 : decode b_L_law 136 = .ok (.lshl, 1) := by decide +kernel
theorem d_L_law_137 : decode b_L_law 137 = .ok (.aload_n 0, 1) := by decide +kernel
