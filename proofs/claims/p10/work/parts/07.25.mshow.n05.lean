theorem d_M_show_257 : decode b_M_show 257 = .ok (.iushr, 1) := by decide +kernel
theorem d_M_show_258 : decode b_M_show 258 = .ok (.bipush 32, 2) := by decide +kernel
theorem d_M_show_260 : decode b_M_show 260 = .ok (.imul, 1) := by decide +kernel
theorem d_M_show_261 : decode b_M_show 261 = .ok (.iload 4, 2) := by decide +kernel
theorem d_M_show_263 : decode b_M_show 263 = .ok (.iadd, 1) := by decide +kernel
theorem d_M_show_264 : decode b_M_show 264 = .ok (.bipush 12, 2) := by decide +kernel
theorem d_M_show_266 : decode b_M_show 266 = .ok (.invokestatic 428, 3) := by decide +kernel
theorem d_M_show_269 : decode b_M_show 269 = .ok (.istore 8, 2) := by decide +kernel
theorem d_M_show_271 : decode b_M_show 271 = .ok (.iload_n 3, 1) := by decide +kernel
theorem d_M_show_272 : decode b_M_show 272 = .ok (.bipush 7, 2) := by decide +kernel
theorem d_M_show_274 : decode b_M_show 274 = .ok (.if_icmp .ne 50, 3) := by decide +kernel
theorem d_M_show_277 : decode b_M_show 277 = .ok (.iload_n 1, 1) := by decide +kernel
theorem d_M_show_278 : decode b_M_show 278 = .ok (.bipush 31, 2) := by decide +kernel
theorem d_M_show_280 : decode b_M_show 280 = .ok (.iushr, 1) := by decide +kernel
theorem d_M_show_281 : decode b_M_show 281 = .ok (.sipush 4096, 3) := by decide +kernel
theorem d_M_show_284 : decode b_M_show 284 = .ok (.imul, 1) := by decide +kernel
theorem d_M_show_285 : decode b_M_show 285 = .ok (.iload_n 1, 1) := by decide +kernel
theorem d_M_show_286 : decode b_M_show 286 = .ok (.bipush 7, 2) := by decide +kernel
theorem d_M_show_288 : decode b_M_show 288 = .ok (.ishr, 1) := by decide +kernel
theorem d_M_show_289 : decode b_M_show 289 = .ok (.iconst 1, 1) := by decide +kernel
theorem d_M_show_290 : decode b_M_show 290 = .ok (.iand, 1) := by decide +kernel
theorem d_M_show_291 : decode b_M_show 291 = .ok (.sipush 2048, 3) := by decide +kernel
theorem d_M_show_294 : decode b_M_show 294 = .ok (.imul, 1) := by decide +kernel
theorem d_M_show_295 : decode b_M_show 295 = .ok (.iadd, 1) := by decide +kernel
theorem d_M_show_296 : decode b_M_show 296 = .ok (.iload_n 1, 1) := by decide +kernel
theorem d_M_show_297 : decode b_M_show 297 = .ok (.bipush 25, 2) := by decide +kernel
theorem d_M_show_299 : decode b_M_show 299 = .ok (.ishr, 1) := by decide +kernel
theorem d_M_show_300 : decode b_M_show 300 = .ok (.bipush 63, 2) := by decide +kernel
theorem d_M_show_302 : decode b_M_show 302 = .ok (.iand, 1) := by decide +kernel
theorem d_M_show_303 : decode b_M_show 303 = .ok (.bipush 32, 2) := by decide +kernel
theorem d_M_show_305 : decode b_M_show 305 = .ok (.imul, 1) := by decide +kernel
theorem d_M_show_306 : decode b_M_show 306 = .ok (.iadd, 1) := by decide +kernel
theorem d_M_show_307 : decode b_M_show 307 = .ok (.iload_n 1, 1) := by decide +kernel
theorem d_M_show_308 : decode b_M_show 308 = .ok (.bipush 8, 2) := by decide +kernel
theorem d_M_show_310 : decode b_M_show 310 = .ok (.ishr, 1) := by decide +kernel
theorem d_M_show_311 : decode b_M_show 311 = .ok (.bipush 15, 2) := by decide +kernel
theorem d_M_show_313 : decode b_M_show 313 = .ok (.iand, 1) := by decide +kernel
theorem d_M_show_314 : decode b_M_show 314 = .ok (.iconst 2, 1) := by decide +kernel
theorem d_M_show_315 : decode b_M_show 315 = .ok (.imul, 1) := by decide +kernel
theorem d_M_show_316 : decode b_M_show 316 = .ok (.iadd, 1) := by decide +kernel
theorem d_M_show_317 : decode b_M_show 317 = .ok (.bipush 13, 2) := by decide +kernel
theorem d_M_show_319 : decode b_M_show 319 = .ok (.invokestatic 428, 3) := by decide +kernel
theorem d_M_show_322 : decode b_M_show 322 = .ok (.istore 8, 2) := by decide +kernel
theorem d_M_show_324 : decode b_M_show 324 = .ok (.iload_n 3, 1) := by decide +kernel
theorem d_M_show_325 : decode b_M_show 325 = .ok (.bipush 8, 2) := by decide +kernel
theorem d_M_show_327 : decode b_M_show 327 = .ok (.if_icmp .ne 53, 3) := by decide +kernel
theorem d_M_show_330 : decode b_M_show 330 = .ok (.iload_n 1, 1) := by decide +kernel
theorem d_M_show_331 : decode b_M_show 331 = .ok (.bipush 31, 2) := by decide +kernel
