theorem d_M_init_194 : decode b_M_init 194 = .ok (.ldc2_w 78, 3) := by decide +kernel
theorem d_M_init_197 : decode b_M_init 197 = .ok (.lastore, 1) := by decide +kernel
theorem d_M_init_198 : decode b_M_init 198 = .ok (.aload_n 0, 1) := by decide +kernel
theorem d_M_init_199 : decode b_M_init 199 = .ok (.getfield 7, 3) := by decide +kernel
theorem d_M_init_202 : decode b_M_init 202 = .ok (.iconst 5, 1) := by decide +kernel
theorem d_M_init_203 : decode b_M_init 203 = .ok (.ldc2_w 80, 3) := by decide +kernel
theorem d_M_init_206 : decode b_M_init 206 = .ok (.lastore, 1) := by decide +kernel
theorem d_M_init_207 : decode b_M_init 207 = .ok (.aload_n 0, 1) := by decide +kernel
theorem d_M_init_208 : decode b_M_init 208 = .ok (.getfield 7, 3) := by decide +kernel
theorem d_M_init_211 : decode b_M_init 211 = .ok (.bipush 6, 2) := by decide +kernel
theorem d_M_init_213 : decode b_M_init 213 = .ok (.ldc2_w 82, 3) := by decide +kernel
theorem d_M_init_216 : decode b_M_init 216 = .ok (.lastore, 1) := by decide +kernel
theorem d_M_init_217 : decode b_M_init 217 = .ok (.aload_n 0, 1) := by decide +kernel
theorem d_M_init_218 : decode b_M_init 218 = .ok (.getfield 7, 3) := by decide +kernel
theorem d_M_init_221 : decode b_M_init 221 = .ok (.bipush 7, 2) := by decide +kernel
theorem d_M_init_223 : decode b_M_init 223 = .ok (.ldc2_w 84, 3) := by decide +kernel
theorem d_M_init_226 : decode b_M_init 226 = .ok (.lastore, 1) := by decide +kernel
theorem d_M_init_227 : decode b_M_init 227 = .ok (.aload_n 0, 1) := by decide +kernel
theorem d_M_init_228 : decode b_M_init 228 = .ok (.getfield 7, 3) := by decide +kernel
theorem d_M_init_231 : decode b_M_init 231 = .ok (.bipush 8, 2) := by decide +kernel
