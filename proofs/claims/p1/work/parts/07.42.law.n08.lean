theorem d_L_law_372 : decode b_L_law 372 = .ok (.invokevirtual 86, 3) := by decide +kernel
theorem d_L_law_375 : decode b_L_law 375 = .ok (.istore 6, 2) := by decide +kernel
theorem d_L_law_377 : decode b_L_law 377 = .ok (.aload_n 2, 1) := by decide +kernel
theorem d_L_law_378 : decode b_L_law 378 = .ok (.invokevirtual 66, 3) := by decide +kernel
theorem d_L_law_381 : decode b_L_law 381 = .ok (.iload 5, 2) := by decide +kernel
theorem d_L_law_383 : decode b_L_law 383 = .ok (.if_icmp .eq 5, 3) := by decide +kernel
theorem d_L_law_388 : decode b_L_law 388 = .ok (.iload 5, 2) := by decide +kernel
theorem d_L_law_390 : decode b_L_law 390 = .ok (.ifCond .ne 15, 3) := by decide +kernel
theorem d_L_law_405 : decode b_L_law 405 = .ok (.goto 239, 3) := by decide +kernel
theorem d_L_law_408 : decode b_L_law 408 = .ok (.aload_n 1, 1) := by decide +kernel
theorem d_L_law_409 : decode b_L_law 409 = .ok (.aload_n 0, 1) := by decide +kernel
theorem d_L_law_410 : decode b_L_law 410 = .ok (.iload 4, 2) := by decide +kernel
theorem d_L_law_412 : decode b_L_law 412 = .ok (.iconst 1, 1) := by decide +kernel
theorem d_L_law_413 : decode b_L_law 413 = .ok (.iadd, 1) := by decide +kernel
theorem d_L_law_414 : decode b_L_law 414 = .ok (.iaload, 1) := by decide +kernel
theorem d_L_law_415 : decode b_L_law 415 = .ok (.aload_n 0, 1) := by decide +kernel
theorem d_L_law_416 : decode b_L_law 416 = .ok (.iload 4, 2) := by decide +kernel
theorem d_L_law_418 : decode b_L_law 418 = .ok (.iconst 2, 1) := by decide +kernel
theorem d_L_law_419 : decode b_L_law 419 = .ok (.iadd, 1) := by decide +kernel
theorem d_L_law_420 : decode b_L_law 420 = .ok (.iaload, 1) := by decide +kernel
theorem d_L_law_421 : decode b_L_law 421 = .ok (.aload_n 3, 1) := by decide +kernel
theorem d_L_law_422 : decode b_L_law 422 = .ok (.invokestatic 87, 3) := by decide +kernel
theorem d_L_law_425 : decode b_L_law 425 = .ok (.istore 5, 2) := by decide +kernel
theorem d_L_law_427 : decode b_L_law 427 = .ok (.aload_n 2, 1) := by decide +kernel
theorem d_L_law_428 : decode b_L_law 428 = .ok (.aload_n 0, 1) := by decide +kernel
theorem d_L_law_429 : decode b_L_law 429 = .ok (.iload 4, 2) := by decide +kernel
theorem d_L_law_431 : decode b_L_law 431 = .ok (.iconst 1, 1) := by decide +kernel
theorem d_L_law_432 : decode b_L_law 432 = .ok (.iadd, 1) := by decide +kernel
theorem d_L_law_433 : decode b_L_law 433 = .ok (.iaload, 1) := by decide +kernel
theorem d_L_law_434 : decode b_L_law 434 = .ok (.aload_n 0, 1) := by decide +kernel
