theorem d_L_law_242 : decode b_L_law 242 = .ok (.iload 4, 2) := by decide +kernel
theorem d_L_law_244 : decode b_L_law 244 = .ok (.iconst 1, 1) := by decide +kernel
theorem d_L_law_245 : decode b_L_law 245 = .ok (.iadd, 1) := by decide +kernel
theorem d_L_law_246 : decode b_L_law 246 = .ok (.iaload, 1) := by decide +kernel
theorem d_L_law_247 : decode b_L_law 247 = .ok (.invokevirtual 76, 3) := by decide +kernel
theorem d_L_law_250 : decode b_L_law 250 = .ok (.aload_n 2, 1) := by decide +kernel
theorem d_L_law_251 : decode b_L_law 251 = .ok (.invokevirtual 66, 3) := by decide +kernel
theorem d_L_law_254 : decode b_L_law 254 = .ok (.iload 5, 2) := by decide +kernel
theorem d_L_law_256 : decode b_L_law 256 = .ok (.if_icmp .eq 5, 3) := by decide +kernel
theorem d_L_law_261 : decode b_L_law 261 = .ok (.goto 383, 3) := by decide +kernel
theorem d_L_law_264 : decode b_L_law 264 = .ok (.aload_n 1, 1) := by decide +kernel
theorem d_L_law_265 : decode b_L_law 265 = .ok (.aload_n 3, 1) := by decide +kernel
theorem d_L_law_266 : decode b_L_law 266 = .ok (.invokestatic 77, 3) := by decide +kernel
theorem d_L_law_269 : decode b_L_law 269 = .ok (.istore 5, 2) := by decide +kernel
theorem d_L_law_271 : decode b_L_law 271 = .ok (.aload_n 2, 1) := by decide +kernel
theorem d_L_law_272 : decode b_L_law 272 = .ok (.invokevirtual 80, 3) := by decide +kernel
theorem d_L_law_275 : decode b_L_law 275 = .ok (.istore 6, 2) := by decide +kernel
theorem d_L_law_277 : decode b_L_law 277 = .ok (.aload_n 2, 1) := by decide +kernel
theorem d_L_law_278 : decode b_L_law 278 = .ok (.invokevirtual 66, 3) := by decide +kernel
theorem d_L_law_281 : decode b_L_law 281 = .ok (.iload 5, 2) := by decide +kernel
theorem d_L_law_283 : decode b_L_law 283 = .ok (.if_icmp .eq 5, 3) := by decide +kernel
theorem d_L_law_288 : decode b_L_law 288 = .ok (.iload 5, 2) := by decide +kernel
theorem d_L_law_290 : decode b_L_law 290 = .ok (.ifCond .ne 15, 3) := by decide +kernel
theorem d_L_law_293 : decode b_L_law 293 = .ok (.aload_n 3, 1) := by decide +kernel
theorem d_L_law_294 : decode b_L_law 294 = .ok (.iconst 0, 1) := by decide +kernel
theorem d_L_law_295 : decode b_L_law 295 = .ok (.laload, 1) := by decide +kernel
theorem d_L_law_296 : decode b_L_law 296 = .ok (.iload 6, 2) := by decide +kernel
theorem d_L_law_298 : decode b_L_law 298 = .ok (.i2l, 1) := by decide +kernel
theorem d_L_law_299 : decode b_L_law 299 = .ok (.lcmp, 1) := by decide +kernel
theorem d_L_law_300 : decode b_L_law 300 = .ok (.ifCond .eq 5, 3) := by decide +kernel
