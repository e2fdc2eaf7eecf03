theorem d_M_operands_158 : decode b_M_operands 158 = .ok (.aload_n 0, 1) := by decide +kernel
theorem d_M_operands_159 : decode b_M_operands 159 = .ok (.invokevirtual 278, 3) := by decide +kernel
theorem d_M_operands_162 : decode b_M_operands 162 = .ok (.putfield 296, 3) := by decide +kernel
theorem d_M_operands_165 : decode b_M_operands 165 = .ok (.iload_n 1, 1) := by decide +kernel
theorem d_M_operands_166 : decode b_M_operands 166 = .ok (.iconst 2, 1) := by decide +kernel
theorem d_M_operands_167 : decode b_M_operands 167 = .ok (.if_icmp .ne 17, 3) := by decide +kernel
theorem d_M_operands_170 : decode b_M_operands 170 = .ok (.aload_n 0, 1) := by decide +kernel
theorem d_M_operands_171 : decode b_M_operands 171 = .ok (.aload_n 0, 1) := by decide +kernel
theorem d_M_operands_172 : decode b_M_operands 172 = .ok (.ldc2_w 266, 3) := by decide +kernel
theorem d_M_operands_175 : decode b_M_operands 175 = .ok (.ldc2_w 268, 3) := by decide +kernel
theorem d_M_operands_178 : decode b_M_operands 178 = .ok (.invokevirtual 270, 3) := by decide +kernel
theorem d_M_operands_181 : decode b_M_operands 181 = .ok (.putfield 274, 3) := by decide +kernel
theorem d_M_operands_184 : decode b_M_operands 184 = .ok (.iload_n 1, 1) := by decide +kernel
theorem d_M_operands_185 : decode b_M_operands 185 = .ok (.iconst 3, 1) := by decide +kernel
theorem d_M_operands_186 : decode b_M_operands 186 = .ok (.if_icmp .ne 15, 3) := by decide +kernel
theorem d_M_operands_189 : decode b_M_operands 189 = .ok (.aload_n 0, 1) := by decide +kernel
theorem d_M_operands_190 : decode b_M_operands 190 = .ok (.aload_n 0, 1) := by decide +kernel
theorem d_M_operands_191 : decode b_M_operands 191 = .ok (.lconst 0, 1) := by decide +kernel
theorem d_M_operands_192 : decode b_M_operands 192 = .ok (.ldc2_w 299, 3) := by decide +kernel
theorem d_M_operands_195 : decode b_M_operands 195 = .ok (.invokevirtual 270, 3) := by decide +kernel
theorem d_M_operands_198 : decode b_M_operands 198 = .ok (.putfield 274, 3) := by decide +kernel
theorem d_M_operands_201 : decode b_M_operands 201 = .ok (.iload_n 1, 1) := by decide +kernel
theorem d_M_operands_202 : decode b_M_operands 202 = .ok (.iconst 4, 1) := by decide +kernel
theorem d_M_operands_203 : decode b_M_operands 203 = .ok (.if_icmp .ne 15, 3) := by decide +kernel
theorem d_M_operands_206 : decode b_M_operands 206 = .ok (.aload_n 0, 1) := by decide +kernel
theorem d_M_operands_207 : decode b_M_operands 207 = .ok (.aload_n 0, 1) := by decide +kernel
theorem d_M_operands_208 : decode b_M_operands 208 = .ok (.lconst 0, 1) := by decide +kernel
theorem d_M_operands_209 : decode b_M_operands 209 = .ok (.ldc2_w 301, 3) := by decide +kernel
theorem d_M_operands_212 : decode b_M_operands 212 = .ok (.invokevirtual 270, 3) := by decide +kernel
theorem d_M_operands_215 : decode b_M_operands 215 = .ok (.putfield 274, 3) := by decide +kernel
theorem d_M_operands_218 : decode b_M_operands 218 = .ok (.iload_n 1, 1) := by decide +kernel
theorem d_M_operands_219 : decode b_M_operands 219 = .ok (.iconst 5, 1) := by decide +kernel
theorem d_M_operands_220 : decode b_M_operands 220 = .ok (.if_icmp .eq 9, 3) := by decide +kernel
theorem d_M_operands_223 : decode b_M_operands 223 = .ok (.iload_n 1, 1) := by decide +kernel
theorem d_M_operands_224 : decode b_M_operands 224 = .ok (.bipush 6, 2) := by decide +kernel
theorem d_M_operands_226 : decode b_M_operands 226 = .ok (.if_icmp .ne 7, 3) := by decide +kernel
theorem d_M_operands_229 : decode b_M_operands 229 = .ok (.aload_n 0, 1) := by decide +kernel
theorem d_M_operands_230 : decode b_M_operands 230 = .ok (.invokevirtual 303, 3) := by decide +kernel
theorem d_M_operands_233 : decode b_M_operands 233 = .ok (.iload_n 1, 1) := by decide +kernel
theorem d_M_operands_234 : decode b_M_operands 234 = .ok (.bipush 7, 2) := by decide +kernel
theorem d_M_operands_236 : decode b_M_operands 236 = .ok (.if_icmp .ne 15, 3) := by decide +kernel
theorem d_M_operands_239 : decode b_M_operands 239 = .ok (.aload_n 0, 1) := by decide +kernel
theorem d_M_operands_240 : decode b_M_operands 240 = .ok (.aload_n 0, 1) := by decide +kernel
theorem d_M_operands_241 : decode b_M_operands 241 = .ok (.invokevirtual 278, 3) := by decide +kernel
theorem d_M_operands_244 : decode b_M_operands 244 = .ok (.putfield 296, 3) := by decide +kernel
theorem d_M_operands_247 : decode b_M_operands 247 = .ok (.aload_n 0, 1) := by decide +kernel
theorem d_M_operands_248 : decode b_M_operands 248 = .ok (.invokevirtual 293, 3) := by decide +kernel
theorem d_M_operands_251 : decode b_M_operands 251 = .ok (.iload_n 1, 1) := by decide +kernel
theorem d_M_operands_252 : decode b_M_operands 252 = .ok (.bipush 9, 2) := by decide +kernel
theorem d_M_operands_254 : decode b_M_operands 254 = .ok (.if_icmp .ne 17, 3) := by decide +kernel
theorem d_M_operands_257 : decode b_M_operands 257 = .ok (.aload_n 0, 1) := by decide +kernel
theorem d_M_operands_258 : decode b_M_operands 258 = .ok (.aload_n 0, 1) := by decide +kernel
theorem d_M_operands_259 : decode b_M_operands 259 = .ok (.ldc2_w 306, 3) := by decide +kernel
theorem d_M_operands_262 : decode b_M_operands 262 = .ok (.ldc2_w 308, 3) := by decide +kernel
theorem d_M_operands_265 : decode b_M_operands 265 = .ok (.invokevirtual 270, 3) := by decide +kernel
theorem d_M_operands_268 : decode b_M_operands 268 = .ok (.putfield 274, 3) := by decide +kernel
theorem d_M_operands_271 : decode b_M_operands 271 = .ok (.iload_n 1, 1) := by decide +kernel
theorem d_M_operands_272 : decode b_M_operands 272 = .ok (.bipush 11, 2) := by decide +kernel
theorem d_M_operands_274 : decode b_M_operands 274 = .ok (.if_icmp .ne 17, 3) := by decide +kernel
theorem d_M_operands_277 : decode b_M_operands 277 = .ok (.aload_n 0, 1) := by decide +kernel
theorem d_M_operands_278 : decode b_M_operands 278 = .ok (.aload_n 0, 1) := by decide +kernel
theorem d_M_operands_279 : decode b_M_operands 279 = .ok (.ldc2_w 306, 3) := by decide +kernel
theorem d_M_operands_282 : decode b_M_operands 282 = .ok (.ldc2_w 310, 3) := by decide +kernel
theorem d_M_operands_285 : decode b_M_operands 285 = .ok (.invokevirtual 270, 3) := by decide +kernel
theorem d_M_operands_288 : decode b_M_operands 288 = .ok (.putfield 274, 3) := by decide +kernel
theorem d_M_operands_291 : decode b_M_operands 291 = .ok (.iload_n 1, 1) := by decide +kernel
theorem d_M_operands_292 : decode b_M_operands 292 = .ok (.bipush 12, 2) := by decide +kernel
theorem d_M_operands_294 : decode b_M_operands 294 = .ok (.if_icmp .ne 17, 3) := by decide +kernel
theorem d_M_operands_297 : decode b_M_operands 297 = .ok (.aload_n 0, 1) := by decide +kernel
theorem d_M_operands_298 : decode b_M_operands 298 = .ok (.aload_n 0, 1) := by decide +kernel
theorem d_M_operands_299 : decode b_M_operands 299 = .ok (.ldc2_w 312, 3) := by decide +kernel
theorem d_M_operands_302 : decode b_M_operands 302 = .ok (.ldc2_w 314, 3) := by decide +kernel
theorem d_M_operands_305 : decode b_M_operands 305 = .ok (.invokevirtual 270, 3) := by decide +kernel
theorem d_M_operands_308 : decode b_M_operands 308 = .ok (.putfield 274, 3) := by decide +kernel
theorem d_M_operands_311 : decode b_M_operands 311 = .ok (.iload_n 1, 1) := by decide +kernel
theorem d_M_operands_312 : decode b_M_operands 312 = .ok (.bipush 13, 2) := by decide +kernel
theorem d_M_operands_314 : decode b_M_operands 314 = .ok (.if_icmp .ne 15, 3) := by decide +kernel
theorem d_M_operands_317 : decode b_M_operands 317 = .ok (.aload_n 0, 1) := by decide +kernel
theorem d_M_operands_318 : decode b_M_operands 318 = .ok (.aload_n 0, 1) := by decide +kernel
theorem d_M_operands_319 : decode b_M_operands 319 = .ok (.lconst 0, 1) := by decide +kernel
theorem d_M_operands_320 : decode b_M_operands 320 = .ok (.ldc2_w 316, 3) := by decide +kernel
theorem d_M_operands_323 : decode b_M_operands 323 = .ok (.invokevirtual 270, 3) := by decide +kernel
theorem d_M_operands_326 : decode b_M_operands 326 = .ok (.putfield 274, 3) := by decide +kernel
theorem d_M_operands_329 : decode b_M_operands 329 = .ok (.iload_n 1, 1) := by decide +kernel
theorem d_M_operands_330 : decode b_M_operands 330 = .ok (.bipush 7, 2) := by decide +kernel
theorem d_M_operands_332 : decode b_M_operands 332 = .ok (.if_icmp .eq 27, 3) := by decide +kernel
theorem d_M_operands_335 : decode b_M_operands 335 = .ok (.iload_n 1, 1) := by decide +kernel
theorem d_M_operands_336 : decode b_M_operands 336 = .ok (.bipush 8, 2) := by decide +kernel
theorem d_M_operands_338 : decode b_M_operands 338 = .ok (.if_icmp .eq 21, 3) := by decide +kernel
theorem d_M_operands_341 : decode b_M_operands 341 = .ok (.iload_n 1, 1) := by decide +kernel
theorem d_M_operands_342 : decode b_M_operands 342 = .ok (.bipush 10, 2) := by decide +kernel
theorem d_M_operands_344 : decode b_M_operands 344 = .ok (.if_icmp .eq 15, 3) := by decide +kernel
theorem d_M_operands_347 : decode b_M_operands 347 = .ok (.iload_n 1, 1) := by decide +kernel
theorem d_M_operands_348 : decode b_M_operands 348 = .ok (.bipush 14, 2) := by decide +kernel
theorem d_M_operands_350 : decode b_M_operands 350 = .ok (.if_icmp .eq 9, 3) := by decide +kernel
theorem d_M_operands_353 : decode b_M_operands 353 = .ok (.iload_n 1, 1) := by decide +kernel
theorem d_M_operands_354 : decode b_M_operands 354 = .ok (.bipush 17, 2) := by decide +kernel
theorem d_M_operands_356 : decode b_M_operands 356 = .ok (.if_icmp .le 7, 3) := by decide +kernel
theorem d_M_operands_359 : decode b_M_operands 359 = .ok (.aload_n 0, 1) := by decide +kernel
theorem d_M_operands_360 : decode b_M_operands 360 = .ok (.invokevirtual 318, 3) := by decide +kernel
theorem d_M_operands_363 : decode b_M_operands 363 = .ok (.return_, 1) := by decide +kernel
theorem d_M_operation_0 : decode b_M_operation 0 = .ok (.aload_n 0, 1) := by decide +kernel
theorem d_M_operation_1 : decode b_M_operation 1 = .ok (.invokevirtual 244, 3) := by decide +kernel
theorem d_M_operation_4 : decode b_M_operation 4 = .ok (.lstore_n 1, 1) := by decide +kernel
theorem d_M_operation_5 : decode b_M_operation 5 = .ok (.iconst (-1), 1) := by decide +kernel
theorem d_M_operation_6 : decode b_M_operation 6 = .ok (.istore_n 3, 1) := by decide +kernel
theorem d_M_operation_7 : decode b_M_operation 7 = .ok (.iconst 0, 1) := by decide +kernel
theorem d_M_operation_8 : decode b_M_operation 8 = .ok (.istore 4, 2) := by decide +kernel
theorem d_M_operation_10 : decode b_M_operation 10 = .ok (.iload 4, 2) := by decide +kernel
theorem d_M_operation_12 : decode b_M_operation 12 = .ok (.bipush 46, 2) := by decide +kernel
theorem d_M_operation_14 : decode b_M_operation 14 = .ok (.if_icmp .ge 24, 3) := by decide +kernel
theorem d_M_operation_17 : decode b_M_operation 17 = .ok (.aload_n 0, 1) := by decide +kernel
theorem d_M_operation_18 : decode b_M_operation 18 = .ok (.getfield 7, 3) := by decide +kernel
theorem d_M_operation_21 : decode b_M_operation 21 = .ok (.iload 4, 2) := by decide +kernel
theorem d_M_operation_23 : decode b_M_operation 23 = .ok (.laload, 1) := by decide +kernel
theorem d_M_operation_24 : decode b_M_operation 24 = .ok (.lload_n 1, 1) := by decide +kernel
theorem d_M_operation_25 : decode b_M_operation 25 = .ok (.lcmp, 1) := by decide +kernel
theorem d_M_operation_26 : decode b_M_operation 26 = .ok (.ifCond .ne 6, 3) := by decide +kernel
theorem d_M_operation_29 : decode b_M_operation 29 = .ok (.iload 4, 2) := by decide +kernel
theorem d_M_operation_31 : decode b_M_operation 31 = .ok (.istore_n 3, 1) := by decide +kernel
theorem d_M_operation_32 : decode b_M_operation 32 = .ok (.iinc 4 1, 3) := by decide +kernel
theorem d_M_operation_35 : decode b_M_operation 35 = .ok (.goto (-25), 3) := by decide +kernel
theorem d_M_operation_38 : decode b_M_operation 38 = .ok (.aload_n 0, 1) := by decide +kernel
theorem d_M_operation_39 : decode b_M_operation 39 = .ok (.iload_n 3, 1) := by decide +kernel
theorem d_M_operation_40 : decode b_M_operation 40 = .ok (.ifCond .lt 7, 3) := by decide +kernel
theorem d_M_operation_43 : decode b_M_operation 43 = .ok (.iconst 1, 1) := by decide +kernel
theorem d_M_operation_44 : decode b_M_operation 44 = .ok (.goto 4, 3) := by decide +kernel
theorem d_M_operation_47 : decode b_M_operation 47 = .ok (.iconst 0, 1) := by decide +kernel
theorem d_M_operation_48 : decode b_M_operation 48 = .ok (.invokevirtual 238, 3) := by decide +kernel
theorem d_M_operation_51 : decode b_M_operation 51 = .ok (.aload_n 0, 1) := by decide +kernel
theorem d_M_operation_52 : decode b_M_operation 52 = .ok (.getfield 217, 3) := by decide +kernel
theorem d_M_operation_55 : decode b_M_operation 55 = .ok (.ifCond .eq 4, 3) := by decide +kernel
theorem d_M_operation_58 : decode b_M_operation 58 = .ok (.return_, 1) := by decide +kernel
theorem d_M_operation_59 : decode b_M_operation 59 = .ok (.aload_n 0, 1) := by decide +kernel
theorem d_M_operation_60 : decode b_M_operation 60 = .ok (.getfield 13, 3) := by decide +kernel
theorem d_M_operation_63 : decode b_M_operation 63 = .ok (.iload_n 3, 1) := by decide +kernel
theorem d_M_operation_64 : decode b_M_operation 64 = .ok (.iaload, 1) := by decide +kernel
theorem d_M_operation_65 : decode b_M_operation 65 = .ok (.ldc_w 321, 3) := by decide +kernel
theorem d_M_operation_68 : decode b_M_operation 68 = .ok (.idiv, 1) := by decide +kernel
theorem d_M_operation_69 : decode b_M_operation 69 = .ok (.istore 4, 2) := by decide +kernel
theorem d_M_operation_71 : decode b_M_operation 71 = .ok (.aload_n 0, 1) := by decide +kernel
theorem d_M_operation_72 : decode b_M_operation 72 = .ok (.aload_n 0, 1) := by decide +kernel
theorem d_M_operation_73 : decode b_M_operation 73 = .ok (.getfield 13, 3) := by decide +kernel
theorem d_M_operation_76 : decode b_M_operation 76 = .ok (.iload_n 3, 1) := by decide +kernel
theorem d_M_operation_77 : decode b_M_operation 77 = .ok (.iaload, 1) := by decide +kernel
theorem d_M_operation_78 : decode b_M_operation 78 = .ok (.bipush 100, 2) := by decide +kernel
theorem d_M_operation_80 : decode b_M_operation 80 = .ok (.idiv, 1) := by decide +kernel
theorem d_M_operation_81 : decode b_M_operation 81 = .ok (.sipush 1000, 3) := by decide +kernel
theorem d_M_operation_84 : decode b_M_operation 84 = .ok (.irem, 1) := by decide +kernel
theorem d_M_operation_85 : decode b_M_operation 85 = .ok (.aload_n 0, 1) := by decide +kernel
