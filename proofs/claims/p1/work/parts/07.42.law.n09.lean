theorem d_L_law_435 : decode b_L_law 435 = .ok (.iload 4, 2) := by decide +kernel
theorem d_L_law_437 : decode b_L_law 437 = .ok (.iconst 2, 1) := by decide +kernel
theorem d_L_law_438 : decode b_L_law 438 = .ok (.iadd, 1) := by decide +kernel
theorem d_L_law_439 : decode b_L_law 439 = .ok (.iaload, 1) := by decide +kernel
theorem d_L_law_440 : decode b_L_law 440 = .ok (.invokevirtual 90, 3) := by decide +kernel
theorem d_L_law_443 : decode b_L_law 443 = .ok (.istore 6, 2) := by decide +kernel
theorem d_L_law_445 : decode b_L_law 445 = .ok (.aload_n 2, 1) := by decide +kernel
theorem d_L_law_446 : decode b_L_law 446 = .ok (.invokevirtual 66, 3) := by decide +kernel
theorem d_L_law_449 : decode b_L_law 449 = .ok (.iload 5, 2) := by decide +kernel
theorem d_L_law_451 : decode b_L_law 451 = .ok (.if_icmp .eq 5, 3) := by decide +kernel
theorem d_L_law_456 : decode b_L_law 456 = .ok (.iload 5, 2) := by decide +kernel
theorem d_L_law_458 : decode b_L_law 458 = .ok (.ifCond .ne 15, 3) := by decide +kernel
theorem d_L_law_473 : decode b_L_law 473 = .ok (.goto 171, 3) := by decide +kernel
theorem d_L_law_476 : decode b_L_law 476 = .ok (.aload_n 1, 1) := by decide +kernel
theorem d_L_law_477 : decode b_L_law 477 = .ok (.aload_n 0, 1) := by decide +kernel
theorem d_L_law_478 : decode b_L_law 478 = .ok (.iload 4, 2) := by decide +kernel
theorem d_L_law_480 : decode b_L_law 480 = .ok (.iconst 1, 1) := by decide +kernel
theorem d_L_law_481 : decode b_L_law 481 = .ok (.iadd, 1) := by decide +kernel
theorem d_L_law_482 : decode b_L_law 482 = .ok (.iaload, 1) := by decide +kernel
theorem d_L_law_483 : decode b_L_law 483 = .ok (.aload_n 3, 1) := by decide +kernel
theorem d_L_law_484 : decode b_L_law 484 = .ok (.invokestatic 91, 3) := by decide +kernel
theorem d_L_law_487 : decode b_L_law 487 = .ok (.istore 5, 2) := by decide +kernel
theorem d_L_law_489 : decode b_L_law 489 = .ok (.aload_n 2, 1) := by decide +kernel
theorem d_L_law_490 : decode b_L_law 490 = .ok (.aload_n 0, 1) := by decide +kernel
theorem d_L_law_491 : decode b_L_law 491 = .ok (.iload 4, 2) := by decide +kernel
theorem d_L_law_493 : decode b_L_law 493 = .ok (.iconst 1, 1) := by decide +kernel
theorem d_L_law_494 : decode b_L_law 494 = .ok (.iadd, 1) := by decide +kernel
theorem d_L_law_495 : decode b_L_law 495 = .ok (.iaload, 1) := by decide +kernel
theorem d_L_law_496 : decode b_L_law 496 = .ok (.invokevirtual 93, 3) := by decide +kernel
theorem d_L_law_499 : decode b_L_law 499 = .ok (.istore 6, 2) := by decide +kernel
