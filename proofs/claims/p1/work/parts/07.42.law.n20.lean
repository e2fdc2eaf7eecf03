theorem d_M_init_233 : decode b_M_init 233 = .ok (.ldc2_w 86, 3) := by decide +kernel
theorem d_M_init_236 : decode b_M_init 236 = .ok (.lastore, 1) := by decide +kernel
theorem d_M_init_237 : decode b_M_init 237 = .ok (.aload_n 0, 1) := by decide +kernel
theorem d_M_init_238 : decode b_M_init 238 = .ok (.getfield 7, 3) := by decide +kernel
theorem d_M_init_241 : decode b_M_init 241 = .ok (.bipush 9, 2) := by decide +kernel
theorem d_M_init_243 : decode b_M_init 243 = .ok (.ldc2_w 88, 3) := by decide +kernel
theorem d_M_init_246 : decode b_M_init 246 = .ok (.lastore, 1) := by decide +kernel
theorem d_M_init_247 : decode b_M_init 247 = .ok (.aload_n 0, 1) := by decide +kernel
theorem d_M_init_248 : decode b_M_init 248 = .ok (.getfield 7, 3) := by decide +kernel
theorem d_M_init_251 : decode b_M_init 251 = .ok (.bipush 10, 2) := by decide +kernel
theorem d_M_init_253 : decode b_M_init 253 = .ok (.ldc2_w 90, 3) := by decide +kernel
theorem d_M_init_256 : decode b_M_init 256 = .ok (.lastore, 1) := by decide +kernel
theorem d_M_init_257 : decode b_M_init 257 = .ok (.aload_n 0, 1) := by decide +kernel
theorem d_M_init_258 : decode b_M_init 258 = .ok (.getfield 7, 3) := by decide +kernel
theorem d_M_init_261 : decode b_M_init 261 = .ok (.bipush 11, 2) := by decide +kernel
theorem d_M_init_263 : decode b_M_init 263 = .ok (.ldc2_w 92, 3) := by decide +kernel
theorem d_M_init_266 : decode b_M_init 266 = .ok (.lastore, 1) := by decide +kernel
theorem d_M_init_267 : decode b_M_init 267 = .ok (.aload_n 0, 1) := by decide +kernel
theorem d_M_init_268 : decode b_M_init 268 = .ok (.getfield 7, 3) := by decide +kernel
theorem d_M_init_271 : decode b_M_init 271 = .ok (.bipush 12, 2) := by decide +kernel
