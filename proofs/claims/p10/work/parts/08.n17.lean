theorem d_M_link_246 : decode b_M_link 246 = .ok (.putfield 208, 3) := by decide +kernel
theorem d_M_link_249 : decode b_M_link 249 = .ok (.iinc 3 1, 3) := by decide +kernel
theorem d_M_link_252 : decode b_M_link 252 = .ok (.goto (-61), 3) := by decide +kernel
theorem d_M_link_255 : decode b_M_link 255 = .ok (.aload_n 0, 1) := by decide +kernel
theorem d_M_link_256 : decode b_M_link 256 = .ok (.getfield 208, 3) := by decide +kernel
theorem d_M_link_259 : decode b_M_link 259 = .ok (.ifCond .le 5, 3) := by decide +kernel
theorem d_M_link_262 : decode b_M_link 262 = .ok (.iconst 0, 1) := by decide +kernel
theorem d_M_link_263 : decode b_M_link 263 = .ok (.ireturn, 1) := by decide +kernel
theorem d_M_link_264 : decode b_M_link 264 = .ok (.iconst 0, 1) := by decide +kernel
theorem d_M_link_265 : decode b_M_link 265 = .ok (.istore_n 3, 1) := by decide +kernel
theorem d_M_link_266 : decode b_M_link 266 = .ok (.iload_n 3, 1) := by decide +kernel
theorem d_M_link_267 : decode b_M_link 267 = .ok (.iload_n 1, 1) := by decide +kernel
theorem d_M_link_268 : decode b_M_link 268 = .ok (.if_icmp .ge 16, 3) := by decide +kernel
theorem d_M_link_271 : decode b_M_link 271 = .ok (.aload_n 0, 1) := by decide +kernel
theorem d_M_link_272 : decode b_M_link 272 = .ok (.getfield 64, 3) := by decide +kernel
theorem d_M_link_275 : decode b_M_link 275 = .ok (.iload_n 3, 1) := by decide +kernel
theorem d_M_link_276 : decode b_M_link 276 = .ok (.iconst 0, 1) := by decide +kernel
theorem d_M_link_277 : decode b_M_link 277 = .ok (.iastore, 1) := by decide +kernel
theorem d_M_link_278 : decode b_M_link 278 = .ok (.iinc 3 1, 3) := by decide +kernel
theorem d_M_link_281 : decode b_M_link 281 = .ok (.goto (-15), 3) := by decide +kernel
theorem d_M_link_284 : decode b_M_link 284 = .ok (.iconst 0, 1) := by decide +kernel
theorem d_M_link_285 : decode b_M_link 285 = .ok (.istore_n 3, 1) := by decide +kernel
theorem d_M_link_286 : decode b_M_link 286 = .ok (.iload_n 3, 1) := by decide +kernel
theorem d_M_link_287 : decode b_M_link 287 = .ok (.bipush 32, 2) := by decide +kernel
theorem d_M_link_289 : decode b_M_link 289 = .ok (.if_icmp .ge 22, 3) := by decide +kernel
theorem d_M_link_292 : decode b_M_link 292 = .ok (.aload_n 0, 1) := by decide +kernel
theorem d_M_link_293 : decode b_M_link 293 = .ok (.iload_n 3, 1) := by decide +kernel
theorem d_M_link_294 : decode b_M_link 294 = .ok (.invokevirtual 374, 3) := by decide +kernel
theorem d_M_link_297 : decode b_M_link 297 = .ok (.ifCond .eq 8, 3) := by decide +kernel
theorem d_M_link_300 : decode b_M_link 300 = .ok (.aload_n 0, 1) := by decide +kernel
theorem d_M_link_301 : decode b_M_link 301 = .ok (.iload_n 3, 1) := by decide +kernel
theorem d_M_link_302 : decode b_M_link 302 = .ok (.invokevirtual 387, 3) := by decide +kernel
theorem d_M_link_305 : decode b_M_link 305 = .ok (.iinc 3 1, 3) := by decide +kernel
theorem d_M_link_308 : decode b_M_link 308 = .ok (.goto (-22), 3) := by decide +kernel
theorem d_M_link_311 : decode b_M_link 311 = .ok (.aload_n 0, 1) := by decide +kernel
theorem d_M_link_312 : decode b_M_link 312 = .ok (.iload_n 1, 1) := by decide +kernel
theorem d_M_link_313 : decode b_M_link 313 = .ok (.putfield 60, 3) := by decide +kernel
theorem d_M_link_316 : decode b_M_link 316 = .ok (.iload_n 1, 1) := by decide +kernel
theorem d_M_link_317 : decode b_M_link 317 = .ok (.ireturn, 1) := by decide +kernel
theorem d_M_lowest_0 : decode b_M_lowest 0 = .ok (.lload_n 0, 1) := by decide +kernel
theorem d_M_lowest_1 : decode b_M_lowest 1 = .ok (.ldc2_w 361, 3) := by decide +kernel
theorem d_M_lowest_4 : decode b_M_lowest 4 = .ok (.land, 1) := by decide +kernel
theorem d_M_lowest_5 : decode b_M_lowest 5 = .ok (.l2i, 1) := by decide +kernel
theorem d_M_lowest_6 : decode b_M_lowest 6 = .ok (.istore_n 2, 1) := by decide +kernel
theorem d_M_lowest_7 : decode b_M_lowest 7 = .ok (.iload_n 2, 1) := by decide +kernel
theorem d_M_lowest_8 : decode b_M_lowest 8 = .ok (.sipush 2047, 3) := by decide +kernel
theorem d_M_lowest_11 : decode b_M_lowest 11 = .ok (.if_icmp .le 11, 3) := by decide +kernel
theorem d_M_lowest_14 : decode b_M_lowest 14 = .ok (.iload_n 2, 1) := by decide +kernel
theorem d_M_lowest_15 : decode b_M_lowest 15 = .ok (.sipush 4096, 3) := by decide +kernel
theorem d_M_lowest_18 : decode b_M_lowest 18 = .ok (.isub, 1) := by decide +kernel
theorem d_M_lowest_19 : decode b_M_lowest 19 = .ok (.goto 4, 3) := by decide +kernel
theorem d_M_lowest_22 : decode b_M_lowest 22 = .ok (.iload_n 2, 1) := by decide +kernel
theorem d_M_lowest_23 : decode b_M_lowest 23 = .ok (.ireturn, 1) := by decide +kernel
theorem d_M_named_0 : decode b_M_named 0 = .ok (.aload_n 0, 1) := by decide +kernel
theorem d_M_named_1 : decode b_M_named 1 = .ok (.getfield 217, 3) := by decide +kernel
theorem d_M_named_4 : decode b_M_named 4 = .ok (.ifCond .eq 4, 3) := by decide +kernel
theorem d_M_named_7 : decode b_M_named 7 = .ok (.return_, 1) := by decide +kernel
theorem d_M_named_8 : decode b_M_named 8 = .ok (.aload_n 0, 1) := by decide +kernel
theorem d_M_named_9 : decode b_M_named 9 = .ok (.invokevirtual 251, 3) := by decide +kernel
theorem d_M_named_12 : decode b_M_named 12 = .ok (.aload_n 0, 1) := by decide +kernel
theorem d_M_named_13 : decode b_M_named 13 = .ok (.aload_n 0, 1) := by decide +kernel
theorem d_M_named_14 : decode b_M_named 14 = .ok (.invokevirtual 284, 3) := by decide +kernel
theorem d_M_named_17 : decode b_M_named 17 = .ok (.putfield 287, 3) := by decide +kernel
theorem d_M_named_20 : decode b_M_named 20 = .ok (.return_, 1) := by decide +kernel
theorem d_M_number_0 : decode b_M_number 0 = .ok (.aload_n 0, 1) := by decide +kernel
theorem d_M_number_1 : decode b_M_number 1 = .ok (.invokevirtual 225, 3) := by decide +kernel
theorem d_M_number_4 : decode b_M_number 4 = .ok (.aload_n 0, 1) := by decide +kernel
theorem d_M_number_5 : decode b_M_number 5 = .ok (.invokevirtual 221, 3) := by decide +kernel
theorem d_M_number_8 : decode b_M_number 8 = .ok (.bipush 45, 2) := by decide +kernel
theorem d_M_number_10 : decode b_M_number 10 = .ok (.if_icmp .ne 7, 3) := by decide +kernel
theorem d_M_number_13 : decode b_M_number 13 = .ok (.iconst 1, 1) := by decide +kernel
theorem d_M_number_14 : decode b_M_number 14 = .ok (.goto 4, 3) := by decide +kernel
theorem d_M_number_17 : decode b_M_number 17 = .ok (.iconst 0, 1) := by decide +kernel
theorem d_M_number_18 : decode b_M_number 18 = .ok (.istore 5, 2) := by decide +kernel
theorem d_M_number_20 : decode b_M_number 20 = .ok (.iload 5, 2) := by decide +kernel
theorem d_M_number_22 : decode b_M_number 22 = .ok (.ifCond .eq 13, 3) := by decide +kernel
theorem d_M_number_25 : decode b_M_number 25 = .ok (.aload_n 0, 1) := by decide +kernel
theorem d_M_number_26 : decode b_M_number 26 = .ok (.dup, 1) := by decide +kernel
theorem d_M_number_27 : decode b_M_number 27 = .ok (.getfield 211, 3) := by decide +kernel
theorem d_M_number_30 : decode b_M_number 30 = .ok (.iconst 1, 1) := by decide +kernel
theorem d_M_number_31 : decode b_M_number 31 = .ok (.iadd, 1) := by decide +kernel
theorem d_M_number_32 : decode b_M_number 32 = .ok (.putfield 211, 3) := by decide +kernel
theorem d_M_number_35 : decode b_M_number 35 = .ok (.aload_n 0, 1) := by decide +kernel
theorem d_M_number_36 : decode b_M_number 36 = .ok (.aload_n 0, 1) := by decide +kernel
theorem d_M_number_37 : decode b_M_number 37 = .ok (.invokevirtual 221, 3) := by decide +kernel
theorem d_M_number_40 : decode b_M_number 40 = .ok (.invokestatic 235, 3) := by decide +kernel
theorem d_M_number_43 : decode b_M_number 43 = .ok (.invokevirtual 238, 3) := by decide +kernel
theorem d_M_number_46 : decode b_M_number 46 = .ok (.aload_n 0, 1) := by decide +kernel
theorem d_M_number_47 : decode b_M_number 47 = .ok (.getfield 217, 3) := by decide +kernel
theorem d_M_number_50 : decode b_M_number 50 = .ok (.ifCond .eq 5, 3) := by decide +kernel
theorem d_M_number_53 : decode b_M_number 53 = .ok (.lconst 0, 1) := by decide +kernel
theorem d_M_number_54 : decode b_M_number 54 = .ok (.lreturn, 1) := by decide +kernel
theorem d_M_number_55 : decode b_M_number 55 = .ok (.aload_n 0, 1) := by decide +kernel
theorem d_M_number_56 : decode b_M_number 56 = .ok (.invokevirtual 251, 3) := by decide +kernel
theorem d_M_number_59 : decode b_M_number 59 = .ok (.aload_n 0, 1) := by decide +kernel
theorem d_M_number_60 : decode b_M_number 60 = .ok (.getfield 228, 3) := by decide +kernel
theorem d_M_number_63 : decode b_M_number 63 = .ok (.iconst 1, 1) := by decide +kernel
theorem d_M_number_64 : decode b_M_number 64 = .ok (.if_icmp .le 18, 3) := by decide +kernel
theorem d_M_number_67 : decode b_M_number 67 = .ok (.aload_n 0, 1) := by decide +kernel
theorem d_M_number_68 : decode b_M_number 68 = .ok (.getfield 20, 3) := by decide +kernel
theorem d_M_number_71 : decode b_M_number 71 = .ok (.iconst 1, 1) := by decide +kernel
theorem d_M_number_72 : decode b_M_number 72 = .ok (.iaload, 1) := by decide +kernel
theorem d_M_number_73 : decode b_M_number 73 = .ok (.bipush 120, 2) := by decide +kernel
theorem d_M_number_75 : decode b_M_number 75 = .ok (.if_icmp .ne 7, 3) := by decide +kernel
theorem d_M_number_78 : decode b_M_number 78 = .ok (.iconst 1, 1) := by decide +kernel
theorem d_M_number_79 : decode b_M_number 79 = .ok (.goto 4, 3) := by decide +kernel
theorem d_M_number_82 : decode b_M_number 82 = .ok (.iconst 0, 1) := by decide +kernel
theorem d_M_number_83 : decode b_M_number 83 = .ok (.istore 6, 2) := by decide +kernel
theorem d_M_number_85 : decode b_M_number 85 = .ok (.aload_n 0, 1) := by decide +kernel
theorem d_M_number_86 : decode b_M_number 86 = .ok (.aload_n 0, 1) := by decide +kernel
theorem d_M_number_87 : decode b_M_number 87 = .ok (.getfield 228, 3) := by decide +kernel
theorem d_M_number_90 : decode b_M_number 90 = .ok (.bipush 10, 2) := by decide +kernel
theorem d_M_number_92 : decode b_M_number 92 = .ok (.if_icmp .gt 36, 3) := by decide +kernel
theorem d_M_number_95 : decode b_M_number 95 = .ok (.iload 6, 2) := by decide +kernel
theorem d_M_number_97 : decode b_M_number 97 = .ok (.ifCond .eq 27, 3) := by decide +kernel
theorem d_M_number_100 : decode b_M_number 100 = .ok (.iload 5, 2) := by decide +kernel
theorem d_M_number_102 : decode b_M_number 102 = .ok (.ifCond .ne 26, 3) := by decide +kernel
theorem d_M_number_105 : decode b_M_number 105 = .ok (.aload_n 0, 1) := by decide +kernel
theorem d_M_number_106 : decode b_M_number 106 = .ok (.getfield 20, 3) := by decide +kernel
theorem d_M_number_109 : decode b_M_number 109 = .ok (.iconst 0, 1) := by decide +kernel
theorem d_M_number_110 : decode b_M_number 110 = .ok (.iaload, 1) := by decide +kernel
theorem d_M_number_111 : decode b_M_number 111 = .ok (.bipush 48, 2) := by decide +kernel
theorem d_M_number_113 : decode b_M_number 113 = .ok (.if_icmp .ne 15, 3) := by decide +kernel
theorem d_M_number_116 : decode b_M_number 116 = .ok (.aload_n 0, 1) := by decide +kernel
theorem d_M_number_117 : decode b_M_number 117 = .ok (.getfield 228, 3) := by decide +kernel
theorem d_M_number_120 : decode b_M_number 120 = .ok (.iconst 2, 1) := by decide +kernel
theorem d_M_number_121 : decode b_M_number 121 = .ok (.if_icmp .le 7, 3) := by decide +kernel
theorem d_M_number_124 : decode b_M_number 124 = .ok (.iconst 1, 1) := by decide +kernel
theorem d_M_number_125 : decode b_M_number 125 = .ok (.goto 4, 3) := by decide +kernel
theorem d_M_number_128 : decode b_M_number 128 = .ok (.iconst 0, 1) := by decide +kernel
theorem d_M_number_129 : decode b_M_number 129 = .ok (.invokevirtual 238, 3) := by decide +kernel
theorem d_M_number_132 : decode b_M_number 132 = .ok (.lconst 0, 1) := by decide +kernel
theorem d_M_number_133 : decode b_M_number 133 = .ok (.lstore 7, 2) := by decide +kernel
theorem d_M_number_135 : decode b_M_number 135 = .ok (.iload 6, 2) := by decide +kernel
theorem d_M_number_137 : decode b_M_number 137 = .ok (.ifCond .eq 7, 3) := by decide +kernel
theorem d_M_number_140 : decode b_M_number 140 = .ok (.iconst 2, 1) := by decide +kernel
theorem d_M_number_141 : decode b_M_number 141 = .ok (.goto 4, 3) := by decide +kernel
theorem d_M_number_144 : decode b_M_number 144 = .ok (.iconst 0, 1) := by decide +kernel
theorem d_M_number_145 : decode b_M_number 145 = .ok (.istore 9, 2) := by decide +kernel
theorem d_M_number_147 : decode b_M_number 147 = .ok (.iload 9, 2) := by decide +kernel
theorem d_M_number_149 : decode b_M_number 149 = .ok (.aload_n 0, 1) := by decide +kernel
theorem d_M_number_150 : decode b_M_number 150 = .ok (.getfield 228, 3) := by decide +kernel
theorem d_M_number_153 : decode b_M_number 153 = .ok (.if_icmp .ge 114, 3) := by decide +kernel
theorem d_M_number_156 : decode b_M_number 156 = .ok (.aload_n 0, 1) := by decide +kernel
theorem d_M_number_157 : decode b_M_number 157 = .ok (.getfield 217, 3) := by decide +kernel
theorem d_M_number_160 : decode b_M_number 160 = .ok (.ifCond .ne 107, 3) := by decide +kernel
theorem d_M_number_163 : decode b_M_number 163 = .ok (.aload_n 0, 1) := by decide +kernel
theorem d_M_number_164 : decode b_M_number 164 = .ok (.getfield 20, 3) := by decide +kernel
theorem d_M_number_167 : decode b_M_number 167 = .ok (.iload 9, 2) := by decide +kernel
theorem d_M_number_169 : decode b_M_number 169 = .ok (.iaload, 1) := by decide +kernel
