theorem d_M_link_197 : decode b_M_link 197 = .ok (.aload_n 0, 1) := by decide +kernel
theorem d_M_link_198 : decode b_M_link 198 = .ok (.getfield 208, 3) := by decide +kernel
theorem d_M_link_201 : decode b_M_link 201 = .ok (.ifCond .ne 48, 3) := by decide +kernel
theorem d_M_link_204 : decode b_M_link 204 = .ok (.aload_n 0, 1) := by decide +kernel
theorem d_M_link_205 : decode b_M_link 205 = .ok (.iload_n 3, 1) := by decide +kernel
theorem d_M_link_206 : decode b_M_link 206 = .ok (.invokevirtual 374, 3) := by decide +kernel
theorem d_M_link_209 : decode b_M_link 209 = .ok (.ifCond .eq 40, 3) := by decide +kernel
theorem d_M_link_249 : decode b_M_link 249 = .ok (.iinc 3 1, 3) := by decide +kernel
theorem d_M_link_252 : decode b_M_link 252 = .ok (.goto (-61), 3) := by decide +kernel
theorem d_M_link_255 : decode b_M_link 255 = .ok (.aload_n 0, 1) := by decide +kernel
theorem d_M_link_256 : decode b_M_link 256 = .ok (.getfield 208, 3) := by decide +kernel
theorem d_M_link_259 : decode b_M_link 259 = .ok (.ifCond .le 5, 3) := by decide +kernel
theorem d_M_link_264 : decode b_M_link 264 = .ok (.iconst 0, 1) := by decide +kernel
theorem d_M_link_265 : decode b_M_link 265 = .ok (.istore_n 3, 1) := by decide +kernel
theorem d_M_link_266 : decode b_M_link 266 = .ok (.iload_n 3, 1) := by decide +kernel
theorem d_M_link_267 : decode b_M_link 267 = .ok (.iload_n 1, 1) := by decide +kernel
theorem d_M_link_268 : decode b_M_link 268 = .ok (.if_icmp .ge 16, 3) := by decide +kernel
theorem d_M_link_284 : decode b_M_link 284 = .ok (.iconst 0, 1) := by decide +kernel
theorem d_M_link_285 : decode b_M_link 285 = .ok (.istore_n 3, 1) := by decide +kernel
theorem d_M_link_286 : decode b_M_link 286 = .ok (.iload_n 3, 1) := by decide +kernel
theorem d_M_link_287 : decode b_M_link 287 = .ok (.bipush 32, 2) := by decide +kernel
theorem d_M_link_289 : decode b_M_link 289 = .ok (.if_icmp .ge 22, 3) := by decide +kernel
theorem d_M_link_292 : decode b_M_link 292 = .ok (.aload_n 0, 1) := by decide +kernel
theorem d_M_link_293 : decode b_M_link 293 = .ok (.iload_n 3, 1) := by decide +kernel
theorem d_M_link_294 : decode b_M_link 294 = .ok (.invokevirtual 374, 3) := by decide +kernel
theorem d_M_link_297 : decode b_M_link 297 = .ok (.ifCond .eq 8, 3) := by decide +kernel
theorem d_M_link_305 : decode b_M_link 305 = .ok (.iinc 3 1, 3) := by decide +kernel
theorem d_M_link_308 : decode b_M_link 308 = .ok (.goto (-22), 3) := by decide +kernel
theorem d_M_link_311 : decode b_M_link 311 = .ok (.aload_n 0, 1) := by decide +kernel
theorem d_M_link_312 : decode b_M_link 312 = .ok (.iload_n 1, 1) := by decide +kernel
theorem d_M_link_313 : decode b_M_link 313 = .ok (.putfield 60, 3) := by decide +kernel
theorem d_M_link_316 : decode b_M_link 316 = .ok (.iload_n 1, 1) := by decide +kernel
theorem d_M_link_317 : decode b_M_link 317 = .ok (.ireturn, 1) := by decide +kernel
