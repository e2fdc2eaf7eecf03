theorem d_M_init_158 : decode b_M_init 158 = .ok (.ldc2_w 70, 3) := by decide +kernel
theorem d_M_init_161 : decode b_M_init 161 = .ok (.lastore, 1) := by decide +kernel
theorem d_M_init_162 : decode b_M_init 162 = .ok (.aload_n 0, 1) := by decide +kernel
theorem d_M_init_163 : decode b_M_init 163 = .ok (.getfield 7, 3) := by decide +kernel
theorem d_M_init_166 : decode b_M_init 166 = .ok (.iconst 1, 1) := by decide +kernel
theorem d_M_init_167 : decode b_M_init 167 = .ok (.ldc2_w 72, 3) := by decide +kernel
theorem d_M_init_170 : decode b_M_init 170 = .ok (.lastore, 1) := by decide +kernel
theorem d_M_init_171 : decode b_M_init 171 = .ok (.aload_n 0, 1) := by decide +kernel
theorem d_M_init_172 : decode b_M_init 172 = .ok (.getfield 7, 3) := by decide +kernel
theorem d_M_init_175 : decode b_M_init 175 = .ok (.iconst 2, 1) := by decide +kernel
theorem d_M_init_176 : decode b_M_init 176 = .ok (.ldc2_w 74, 3) := by decide +kernel
theorem d_M_init_179 : decode b_M_init 179 = .ok (.lastore, 1) := by decide +kernel
theorem d_M_init_180 : decode b_M_init 180 = .ok (.aload_n 0, 1) := by decide +kernel
theorem d_M_init_181 : decode b_M_init 181 = .ok (.getfield 7, 3) := by decide +kernel
theorem d_M_init_184 : decode b_M_init 184 = .ok (.iconst 3, 1) := by decide +kernel
theorem d_M_init_185 : decode b_M_init 185 = .ok (.ldc2_w 76, 3) := by decide +kernel
theorem d_M_init_188 : decode b_M_init 188 = .ok (.lastore, 1) := by decide +kernel
theorem d_M_init_189 : decode b_M_init 189 = .ok (.aload_n 0, 1) := by decide +kernel
theorem d_M_init_190 : decode b_M_init 190 = .ok (.getfield 7, 3) := by decide +kernel
theorem d_M_init_193 : decode b_M_init 193 = .ok (.iconst 4, 1) := by decide +kernel
