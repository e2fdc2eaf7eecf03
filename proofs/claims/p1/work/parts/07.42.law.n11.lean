theorem d_L_law_555 : decode b_L_law 555 = .ok (.istore 6, 2) := by decide +kernel
theorem d_L_law_557 : decode b_L_law 557 = .ok (.aload_n 2, 1) := by decide +kernel
theorem d_L_law_558 : decode b_L_law 558 = .ok (.invokevirtual 66, 3) := by decide +kernel
theorem d_L_law_561 : decode b_L_law 561 = .ok (.iload 5, 2) := by decide +kernel
theorem d_L_law_563 : decode b_L_law 563 = .ok (.if_icmp .eq 5, 3) := by decide +kernel
theorem d_L_law_568 : decode b_L_law 568 = .ok (.iload 5, 2) := by decide +kernel
theorem d_L_law_570 : decode b_L_law 570 = .ok (.ifCond .ne 15, 3) := by decide +kernel
theorem d_L_law_585 : decode b_L_law 585 = .ok (.goto 59, 3) := by decide +kernel
theorem d_L_law_588 : decode b_L_law 588 = .ok (.aload_n 1, 1) := by decide +kernel
theorem d_L_law_589 : decode b_L_law 589 = .ok (.aload_n 0, 1) := by decide +kernel
theorem d_L_law_590 : decode b_L_law 590 = .ok (.iload 4, 2) := by decide +kernel
theorem d_L_law_592 : decode b_L_law 592 = .ok (.iconst 1, 1) := by decide +kernel
theorem d_L_law_593 : decode b_L_law 593 = .ok (.iadd, 1) := by decide +kernel
theorem d_L_law_594 : decode b_L_law 594 = .ok (.iaload, 1) := by decide +kernel
theorem d_L_law_595 : decode b_L_law 595 = .ok (.aload_n 3, 1) := by decide +kernel
theorem d_L_law_596 : decode b_L_law 596 = .ok (.invokestatic 97, 3) := by decide +kernel
theorem d_L_law_599 : decode b_L_law 599 = .ok (.istore 5, 2) := by decide +kernel
theorem d_L_law_601 : decode b_L_law 601 = .ok (.aload_n 2, 1) := by decide +kernel
theorem d_L_law_602 : decode b_L_law 602 = .ok (.aload_n 0, 1) := by decide +kernel
theorem d_L_law_603 : decode b_L_law 603 = .ok (.iload 4, 2) := by decide +kernel
theorem d_L_law_605 : decode b_L_law 605 = .ok (.iconst 1, 1) := by decide +kernel
theorem d_L_law_606 : decode b_L_law 606 = .ok (.iadd, 1) := by decide +kernel
theorem d_L_law_607 : decode b_L_law 607 = .ok (.iaload, 1) := by decide +kernel
theorem d_L_law_608 : decode b_L_law 608 = .ok (.invokevirtual 99, 3) := by decide +kernel
theorem d_L_law_611 : decode b_L_law 611 = .ok (.istore 6, 2) := by decide +kernel
theorem d_L_law_613 : decode b_L_law 613 = .ok (.aload_n 2, 1) := by decide +kernel
theorem d_L_law_614 : decode b_L_law 614 = .ok (.invokevirtual 66, 3) := by decide +kernel
theorem d_L_law_617 : decode b_L_law 617 = .ok (.iload 5, 2) := by decide +kernel
theorem d_L_law_619 : decode b_L_law 619 = .ok (.if_icmp .eq 5, 3) := by decide +kernel
theorem d_L_law_624 : decode b_L_law 624 = .ok (.iload 5, 2) := by decide +kernel
