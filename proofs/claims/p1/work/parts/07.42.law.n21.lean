theorem d_M_init_273 : decode b_M_init 273 = .ok (.ldc2_w 94, 3) := by decide +kernel
theorem d_M_init_276 : decode b_M_init 276 = .ok (.lastore, 1) := by decide +kernel
theorem d_M_init_277 : decode b_M_init 277 = .ok (.aload_n 0, 1) := by decide +kernel
theorem d_M_init_278 : decode b_M_init 278 = .ok (.getfield 7, 3) := by decide +kernel
theorem d_M_init_281 : decode b_M_init 281 = .ok (.bipush 13, 2) := by decide +kernel
theorem d_M_init_283 : decode b_M_init 283 = .ok (.ldc2_w 96, 3) := by decide +kernel
theorem d_M_init_286 : decode b_M_init 286 = .ok (.lastore, 1) := by decide +kernel
theorem d_M_init_287 : decode b_M_init 287 = .ok (.aload_n 0, 1) := by decide +kernel
theorem d_M_init_288 : decode b_M_init 288 = .ok (.getfield 7, 3) := by decide +kernel
theorem d_M_init_291 : decode b_M_init 291 = .ok (.bipush 14, 2) := by decide +kernel
theorem d_M_init_293 : decode b_M_init 293 = .ok (.ldc2_w 98, 3) := by decide +kernel
theorem d_M_init_296 : decode b_M_init 296 = .ok (.lastore, 1) := by decide +kernel
theorem d_M_init_297 : decode b_M_init 297 = .ok (.aload_n 0, 1) := by decide +kernel
theorem d_M_init_298 : decode b_M_init 298 = .ok (.getfield 7, 3) := by decide +kernel
theorem d_M_init_301 : decode b_M_init 301 = .ok (.bipush 15, 2) := by decide +kernel
theorem d_M_init_303 : decode b_M_init 303 = .ok (.ldc2_w 100, 3) := by decide +kernel
theorem d_M_init_306 : decode b_M_init 306 = .ok (.lastore, 1) := by decide +kernel
theorem d_M_init_307 : decode b_M_init 307 = .ok (.aload_n 0, 1) := by decide +kernel
theorem d_M_init_308 : decode b_M_init 308 = .ok (.getfield 7, 3) := by decide +kernel
theorem d_M_init_311 : decode b_M_init 311 = .ok (.bipush 16, 2) := by decide +kernel
