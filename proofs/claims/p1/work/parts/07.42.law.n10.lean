theorem d_L_law_501 : decode b_L_law 501 = .ok (.aload_n 2, 1) := by decide +kernel
theorem d_L_law_502 : decode b_L_law 502 = .ok (.invokevirtual 66, 3) := by decide +kernel
theorem d_L_law_505 : decode b_L_law 505 = .ok (.iload 5, 2) := by decide +kernel
theorem d_L_law_507 : decode b_L_law 507 = .ok (.if_icmp .eq 5, 3) := by decide +kernel
theorem d_L_law_512 : decode b_L_law 512 = .ok (.iload 5, 2) := by decide +kernel
theorem d_L_law_514 : decode b_L_law 514 = .ok (.ifCond .ne 15, 3) := by decide +kernel
theorem d_L_law_517 : decode b_L_law 517 = .ok (.aload_n 3, 1) := by decide +kernel
theorem d_L_law_518 : decode b_L_law 518 = .ok (.iconst 0, 1) := by decide +kernel
theorem d_L_law_519 : decode b_L_law 519 = .ok (.laload, 1) := by decide +kernel
theorem d_L_law_520 : decode b_L_law 520 = .ok (.iload 6, 2) := by decide +kernel
theorem d_L_law_522 : decode b_L_law 522 = .ok (.i2l, 1) := by decide +kernel
theorem d_L_law_523 : decode b_L_law 523 = .ok (.lcmp, 1) := by decide +kernel
theorem d_L_law_524 : decode b_L_law 524 = .ok (.ifCond .eq 5, 3) := by decide +kernel
theorem d_L_law_529 : decode b_L_law 529 = .ok (.goto 115, 3) := by decide +kernel
theorem d_L_law_532 : decode b_L_law 532 = .ok (.aload_n 1, 1) := by decide +kernel
theorem d_L_law_533 : decode b_L_law 533 = .ok (.aload_n 0, 1) := by decide +kernel
theorem d_L_law_534 : decode b_L_law 534 = .ok (.iload 4, 2) := by decide +kernel
theorem d_L_law_536 : decode b_L_law 536 = .ok (.iconst 1, 1) := by decide +kernel
theorem d_L_law_537 : decode b_L_law 537 = .ok (.iadd, 1) := by decide +kernel
theorem d_L_law_538 : decode b_L_law 538 = .ok (.iaload, 1) := by decide +kernel
theorem d_L_law_539 : decode b_L_law 539 = .ok (.aload_n 3, 1) := by decide +kernel
theorem d_L_law_540 : decode b_L_law 540 = .ok (.invokestatic 94, 3) := by decide +kernel
theorem d_L_law_543 : decode b_L_law 543 = .ok (.istore 5, 2) := by decide +kernel
theorem d_L_law_545 : decode b_L_law 545 = .ok (.aload_n 2, 1) := by decide +kernel
theorem d_L_law_546 : decode b_L_law 546 = .ok (.aload_n 0, 1) := by decide +kernel
theorem d_L_law_547 : decode b_L_law 547 = .ok (.iload 4, 2) := by decide +kernel
theorem d_L_law_549 : decode b_L_law 549 = .ok (.iconst 1, 1) := by decide +kernel
theorem d_L_law_550 : decode b_L_law 550 = .ok (.iadd, 1) := by decide +kernel
theorem d_L_law_551 : decode b_L_law 551 = .ok (.iaload, 1) := by decide +kernel
theorem d_L_law_552 : decode b_L_law 552 = .ok (.invokevirtual 96, 3) := by decide +kernel
