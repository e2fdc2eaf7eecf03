theorem d_M_encode_222 : decode b_M_encode 222 = .ok (.if_icmp .ne 25, 3) := by decide +kernel
theorem d_M_encode_225 : decode b_M_encode 225 = .ok (.aload_n 0, 1) := by decide +kernel
theorem d_M_encode_226 : decode b_M_encode 226 = .ok (.iload_n 3, 1) := by decide +kernel
theorem d_M_encode_227 : decode b_M_encode 227 = .ok (.aload_n 0, 1) := by decide +kernel
theorem d_M_encode_228 : decode b_M_encode 228 = .ok (.getfield 32, 3) := by decide +kernel
theorem d_M_encode_231 : decode b_M_encode 231 = .ok (.iload_n 1, 1) := by decide +kernel
theorem d_M_encode_232 : decode b_M_encode 232 = .ok (.iaload, 1) := by decide +kernel
theorem d_M_encode_233 : decode b_M_encode 233 = .ok (.aload_n 0, 1) := by decide +kernel
theorem d_M_encode_234 : decode b_M_encode 234 = .ok (.iload_n 1, 1) := by decide +kernel
theorem d_M_encode_235 : decode b_M_encode 235 = .ok (.invokevirtual 384, 3) := by decide +kernel
theorem d_M_encode_238 : decode b_M_encode 238 = .ok (.invokestatic 401, 3) := by decide +kernel
theorem d_M_encode_241 : decode b_M_encode 241 = .ok (.invokevirtual 394, 3) := by decide +kernel
theorem d_M_encode_244 : decode b_M_encode 244 = .ok (.goto 173, 3) := by decide +kernel
theorem d_M_encode_247 : decode b_M_encode 247 = .ok (.iload_n 2, 1) := by decide +kernel
theorem d_M_encode_248 : decode b_M_encode 248 = .ok (.bipush 9, 2) := by decide +kernel
theorem d_M_encode_250 : decode b_M_encode 250 = .ok (.if_icmp .ne 55, 3) := by decide +kernel
theorem d_M_encode_253 : decode b_M_encode 253 = .ok (.aload_n 0, 1) := by decide +kernel
theorem d_M_encode_254 : decode b_M_encode 254 = .ok (.getfield 41, 3) := by decide +kernel
theorem d_M_encode_257 : decode b_M_encode 257 = .ok (.iload_n 1, 1) := by decide +kernel
theorem d_M_encode_258 : decode b_M_encode 258 = .ok (.laload, 1) := by decide +kernel
theorem d_M_encode_259 : decode b_M_encode 259 = .ok (.ldc2_w 266, 3) := by decide +kernel
theorem d_M_encode_262 : decode b_M_encode 262 = .ok (.lcmp, 1) := by decide +kernel
theorem d_M_encode_263 : decode b_M_encode 263 = .ok (.ifCond .lt 42, 3) := by decide +kernel
theorem d_M_encode_266 : decode b_M_encode 266 = .ok (.aload_n 0, 1) := by decide +kernel
theorem d_M_encode_267 : decode b_M_encode 267 = .ok (.getfield 41, 3) := by decide +kernel
theorem d_M_encode_270 : decode b_M_encode 270 = .ok (.iload_n 1, 1) := by decide +kernel
theorem d_M_encode_271 : decode b_M_encode 271 = .ok (.laload, 1) := by decide +kernel
theorem d_M_encode_272 : decode b_M_encode 272 = .ok (.ldc2_w 268, 3) := by decide +kernel
theorem d_M_encode_275 : decode b_M_encode 275 = .ok (.lcmp, 1) := by decide +kernel
theorem d_M_encode_276 : decode b_M_encode 276 = .ok (.ifCond .gt 29, 3) := by decide +kernel
theorem d_M_encode_279 : decode b_M_encode 279 = .ok (.aload_n 0, 1) := by decide +kernel
theorem d_M_encode_280 : decode b_M_encode 280 = .ok (.iload_n 3, 1) := by decide +kernel
theorem d_M_encode_281 : decode b_M_encode 281 = .ok (.bipush 19, 2) := by decide +kernel
theorem d_M_encode_283 : decode b_M_encode 283 = .ok (.aload_n 0, 1) := by decide +kernel
theorem d_M_encode_284 : decode b_M_encode 284 = .ok (.getfield 32, 3) := by decide +kernel
theorem d_M_encode_287 : decode b_M_encode 287 = .ok (.iload_n 1, 1) := by decide +kernel
theorem d_M_encode_288 : decode b_M_encode 288 = .ok (.iaload, 1) := by decide +kernel
theorem d_M_encode_289 : decode b_M_encode 289 = .ok (.bipush 7, 2) := by decide +kernel
theorem d_M_encode_291 : decode b_M_encode 291 = .ok (.ishl, 1) := by decide +kernel
theorem d_M_encode_292 : decode b_M_encode 292 = .ok (.ior, 1) := by decide +kernel
theorem d_M_encode_293 : decode b_M_encode 293 = .ok (.iload 4, 2) := by decide +kernel
theorem d_M_encode_295 : decode b_M_encode 295 = .ok (.bipush 20, 2) := by decide +kernel
theorem d_M_encode_297 : decode b_M_encode 297 = .ok (.ishl, 1) := by decide +kernel
theorem d_M_encode_298 : decode b_M_encode 298 = .ok (.ior, 1) := by decide +kernel
theorem d_M_encode_299 : decode b_M_encode 299 = .ok (.invokevirtual 394, 3) := by decide +kernel
theorem d_M_encode_302 : decode b_M_encode 302 = .ok (.goto 115, 3) := by decide +kernel
theorem d_M_encode_305 : decode b_M_encode 305 = .ok (.iload_n 2, 1) := by decide +kernel
theorem d_M_encode_306 : decode b_M_encode 306 = .ok (.bipush 9, 2) := by decide +kernel
theorem d_M_encode_308 : decode b_M_encode 308 = .ok (.if_icmp .ne 40, 3) := by decide +kernel
theorem d_M_encode_311 : decode b_M_encode 311 = .ok (.aload_n 0, 1) := by decide +kernel
theorem d_M_encode_312 : decode b_M_encode 312 = .ok (.iload_n 3, 1) := by decide +kernel
theorem d_M_encode_313 : decode b_M_encode 313 = .ok (.aload_n 0, 1) := by decide +kernel
theorem d_M_encode_314 : decode b_M_encode 314 = .ok (.getfield 32, 3) := by decide +kernel
theorem d_M_encode_317 : decode b_M_encode 317 = .ok (.iload_n 1, 1) := by decide +kernel
theorem d_M_encode_318 : decode b_M_encode 318 = .ok (.iaload, 1) := by decide +kernel
theorem d_M_encode_319 : decode b_M_encode 319 = .ok (.aload_n 0, 1) := by decide +kernel
theorem d_M_encode_320 : decode b_M_encode 320 = .ok (.getfield 41, 3) := by decide +kernel
theorem d_M_encode_323 : decode b_M_encode 323 = .ok (.iload_n 1, 1) := by decide +kernel
theorem d_M_encode_324 : decode b_M_encode 324 = .ok (.laload, 1) := by decide +kernel
theorem d_M_encode_325 : decode b_M_encode 325 = .ok (.bipush 27, 2) := by decide +kernel
theorem d_M_encode_327 : decode b_M_encode 327 = .ok (.aload_n 0, 1) := by decide +kernel
theorem d_M_encode_328 : decode b_M_encode 328 = .ok (.iload_n 1, 1) := by decide +kernel
theorem d_M_encode_329 : decode b_M_encode 329 = .ok (.invokevirtual 367, 3) := by decide +kernel
theorem d_M_encode_332 : decode b_M_encode 332 = .ok (.bipush 8, 2) := by decide +kernel
theorem d_M_encode_334 : decode b_M_encode 334 = .ok (.if_icmp .ne 7, 3) := by decide +kernel
theorem d_M_encode_337 : decode b_M_encode 337 = .ok (.iconst 1, 1) := by decide +kernel
theorem d_M_encode_338 : decode b_M_encode 338 = .ok (.goto 4, 3) := by decide +kernel
theorem d_M_encode_341 : decode b_M_encode 341 = .ok (.iconst 0, 1) := by decide +kernel
theorem d_M_encode_342 : decode b_M_encode 342 = .ok (.invokevirtual 404, 3) := by decide +kernel
theorem d_M_encode_345 : decode b_M_encode 345 = .ok (.goto 72, 3) := by decide +kernel
theorem d_M_encode_348 : decode b_M_encode 348 = .ok (.iload_n 2, 1) := by decide +kernel
theorem d_M_encode_349 : decode b_M_encode 349 = .ok (.bipush 10, 2) := by decide +kernel
theorem d_M_encode_351 : decode b_M_encode 351 = .ok (.if_icmp .ne 32, 3) := by decide +kernel
theorem d_M_encode_354 : decode b_M_encode 354 = .ok (.aload_n 0, 1) := by decide +kernel
theorem d_M_encode_355 : decode b_M_encode 355 = .ok (.iload_n 3, 1) := by decide +kernel
theorem d_M_encode_356 : decode b_M_encode 356 = .ok (.aload_n 0, 1) := by decide +kernel
theorem d_M_encode_357 : decode b_M_encode 357 = .ok (.getfield 32, 3) := by decide +kernel
theorem d_M_encode_360 : decode b_M_encode 360 = .ok (.iload_n 1, 1) := by decide +kernel
theorem d_M_encode_361 : decode b_M_encode 361 = .ok (.iaload, 1) := by decide +kernel
theorem d_M_encode_362 : decode b_M_encode 362 = .ok (.aload_n 0, 1) := by decide +kernel
theorem d_M_encode_363 : decode b_M_encode 363 = .ok (.getfield 53, 3) := by decide +kernel
theorem d_M_encode_366 : decode b_M_encode 366 = .ok (.aload_n 0, 1) := by decide +kernel
theorem d_M_encode_367 : decode b_M_encode 367 = .ok (.getfield 50, 3) := by decide +kernel
theorem d_M_encode_370 : decode b_M_encode 370 = .ok (.iload_n 1, 1) := by decide +kernel
theorem d_M_encode_371 : decode b_M_encode 371 = .ok (.iaload, 1) := by decide +kernel
theorem d_M_encode_372 : decode b_M_encode 372 = .ok (.iaload, 1) := by decide +kernel
theorem d_M_encode_373 : decode b_M_encode 373 = .ok (.i2l, 1) := by decide +kernel
theorem d_M_encode_374 : decode b_M_encode 374 = .ok (.bipush 19, 2) := by decide +kernel
theorem d_M_encode_376 : decode b_M_encode 376 = .ok (.iconst 1, 1) := by decide +kernel
theorem d_M_encode_377 : decode b_M_encode 377 = .ok (.invokevirtual 404, 3) := by decide +kernel
theorem d_M_encode_380 : decode b_M_encode 380 = .ok (.goto 37, 3) := by decide +kernel
theorem d_M_encode_383 : decode b_M_encode 383 = .ok (.iload_n 2, 1) := by decide +kernel
theorem d_M_encode_384 : decode b_M_encode 384 = .ok (.bipush 11, 2) := by decide +kernel
theorem d_M_encode_386 : decode b_M_encode 386 = .ok (.if_icmp .ne 13, 3) := by decide +kernel
theorem d_M_encode_389 : decode b_M_encode 389 = .ok (.aload_n 0, 1) := by decide +kernel
theorem d_M_encode_390 : decode b_M_encode 390 = .ok (.iload_n 3, 1) := by decide +kernel
theorem d_M_encode_391 : decode b_M_encode 391 = .ok (.iload 4, 2) := by decide +kernel
theorem d_M_encode_393 : decode b_M_encode 393 = .ok (.invokevirtual 394, 3) := by decide +kernel
theorem d_M_encode_396 : decode b_M_encode 396 = .ok (.goto 21, 3) := by decide +kernel
theorem d_M_encode_399 : decode b_M_encode 399 = .ok (.iload_n 2, 1) := by decide +kernel
theorem d_M_encode_400 : decode b_M_encode 400 = .ok (.bipush 12, 2) := by decide +kernel
theorem d_M_encode_402 : decode b_M_encode 402 = .ok (.if_icmp .ne 15, 3) := by decide +kernel
theorem d_M_encode_405 : decode b_M_encode 405 = .ok (.aload_n 0, 1) := by decide +kernel
theorem d_M_encode_406 : decode b_M_encode 406 = .ok (.getfield 64, 3) := by decide +kernel
theorem d_M_encode_409 : decode b_M_encode 409 = .ok (.iload_n 3, 1) := by decide +kernel
theorem d_M_encode_410 : decode b_M_encode 410 = .ok (.iload 4, 2) := by decide +kernel
theorem d_M_encode_412 : decode b_M_encode 412 = .ok (.sipush 255, 3) := by decide +kernel
theorem d_M_encode_415 : decode b_M_encode 415 = .ok (.iand, 1) := by decide +kernel
theorem d_M_encode_416 : decode b_M_encode 416 = .ok (.iastore, 1) := by decide +kernel
theorem d_M_encode_417 : decode b_M_encode 417 = .ok (.return_, 1) := by decide +kernel
theorem d_M_find_0 : decode b_M_find 0 = .ok (.iconst 0, 1) := by decide +kernel
theorem d_M_find_1 : decode b_M_find 1 = .ok (.istore 4, 2) := by decide +kernel
theorem d_M_find_3 : decode b_M_find 3 = .ok (.iload 4, 2) := by decide +kernel
theorem d_M_find_5 : decode b_M_find 5 = .ok (.aload_n 0, 1) := by decide +kernel
theorem d_M_find_6 : decode b_M_find 6 = .ok (.getfield 23, 3) := by decide +kernel
theorem d_M_find_9 : decode b_M_find 9 = .ok (.iload_n 1, 1) := by decide +kernel
theorem d_M_find_10 : decode b_M_find 10 = .ok (.iaload, 1) := by decide +kernel
theorem d_M_find_11 : decode b_M_find 11 = .ok (.if_icmp .ge 34, 3) := by decide +kernel
theorem d_M_find_14 : decode b_M_find 14 = .ok (.aload_n 0, 1) := by decide +kernel
theorem d_M_find_15 : decode b_M_find 15 = .ok (.getfield 44, 3) := by decide +kernel
theorem d_M_find_18 : decode b_M_find 18 = .ok (.bipush 16, 2) := by decide +kernel
theorem d_M_find_20 : decode b_M_find 20 = .ok (.iload_n 1, 1) := by decide +kernel
theorem d_M_find_21 : decode b_M_find 21 = .ok (.imul, 1) := by decide +kernel
theorem d_M_find_22 : decode b_M_find 22 = .ok (.iload 4, 2) := by decide +kernel
theorem d_M_find_24 : decode b_M_find 24 = .ok (.iadd, 1) := by decide +kernel
theorem d_M_find_25 : decode b_M_find 25 = .ok (.laload, 1) := by decide +kernel
theorem d_M_find_26 : decode b_M_find 26 = .ok (.lload_n 2, 1) := by decide +kernel
theorem d_M_find_27 : decode b_M_find 27 = .ok (.lcmp, 1) := by decide +kernel
theorem d_M_find_28 : decode b_M_find 28 = .ok (.ifCond .ne 11, 3) := by decide +kernel
theorem d_M_find_31 : decode b_M_find 31 = .ok (.bipush 16, 2) := by decide +kernel
theorem d_M_find_33 : decode b_M_find 33 = .ok (.iload_n 1, 1) := by decide +kernel
theorem d_M_find_34 : decode b_M_find 34 = .ok (.imul, 1) := by decide +kernel
theorem d_M_find_35 : decode b_M_find 35 = .ok (.iload 4, 2) := by decide +kernel
theorem d_M_find_37 : decode b_M_find 37 = .ok (.iadd, 1) := by decide +kernel
theorem d_M_find_38 : decode b_M_find 38 = .ok (.ireturn, 1) := by decide +kernel
theorem d_M_find_39 : decode b_M_find 39 = .ok (.iinc 4 1, 3) := by decide +kernel
theorem d_M_find_42 : decode b_M_find 42 = .ok (.goto (-39), 3) := by decide +kernel
theorem d_M_find_45 : decode b_M_find 45 = .ok (.iconst (-1), 1) := by decide +kernel
theorem d_M_find_46 : decode b_M_find 46 = .ok (.ireturn, 1) := by decide +kernel
theorem d_M_gives_0 : decode b_M_gives 0 = .ok (.iconst 0, 1) := by decide +kernel
theorem d_M_gives_1 : decode b_M_gives 1 = .ok (.istore 4, 2) := by decide +kernel
theorem d_M_gives_3 : decode b_M_gives 3 = .ok (.iload 4, 2) := by decide +kernel
theorem d_M_gives_5 : decode b_M_gives 5 = .ok (.aload_n 0, 1) := by decide +kernel
theorem d_M_gives_6 : decode b_M_gives 6 = .ok (.getfield 23, 3) := by decide +kernel
theorem d_M_gives_9 : decode b_M_gives 9 = .ok (.iload_n 1, 1) := by decide +kernel
theorem d_M_gives_10 : decode b_M_gives 10 = .ok (.iaload, 1) := by decide +kernel
theorem d_M_gives_11 : decode b_M_gives 11 = .ok (.if_icmp .ge 45, 3) := by decide +kernel
theorem d_M_gives_14 : decode b_M_gives 14 = .ok (.aload_n 0, 1) := by decide +kernel
theorem d_M_gives_15 : decode b_M_gives 15 = .ok (.getfield 26, 3) := by decide +kernel
theorem d_M_gives_18 : decode b_M_gives 18 = .ok (.bipush 16, 2) := by decide +kernel
