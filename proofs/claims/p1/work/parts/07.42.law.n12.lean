theorem d_L_law_626 : decode b_L_law 626 = .ok (.ifCond .ne 15, 3) := by decide +kernel
theorem d_L_law_629 : decode b_L_law 629 = .ok (.aload_n 3, 1) := by decide +kernel
theorem d_L_law_630 : decode b_L_law 630 = .ok (.iconst 0, 1) := by decide +kernel
theorem d_L_law_631 : decode b_L_law 631 = .ok (.laload, 1) := by decide +kernel
theorem d_L_law_632 : decode b_L_law 632 = .ok (.iload 6, 2) := by decide +kernel
theorem d_L_law_634 : decode b_L_law 634 = .ok (.i2l, 1) := by decide +kernel
theorem d_L_law_635 : decode b_L_law 635 = .ok (.lcmp, 1) := by decide +kernel
theorem d_L_law_636 : decode b_L_law 636 = .ok (.ifCond .eq 5, 3) := by decide +kernel
theorem d_L_law_641 : decode b_L_law 641 = .ok (.goto 3, 3) := by decide +kernel
theorem d_L_law_644 : decode b_L_law 644 = .ok (.iinc 4 4, 3) := by decide +kernel
theorem d_L_law_647 : decode b_L_law 647 = .ok (.goto (-624), 3) := by decide +kernel
theorem d_L_law_650 : decode b_L_law 650 = .ok (.iconst 1, 1) := by decide +kernel
theorem d_L_law_651 : decode b_L_law 651 = .ok (.ireturn, 1) := by decide +kernel
