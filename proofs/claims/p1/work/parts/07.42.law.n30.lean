theorem d_M_init_628 : decode b_M_init 628 = .ok (.ldc 164, 2) := by decide +kernel
theorem d_M_init_630 : decode b_M_init 630 = .ok (.iastore, 1) := by decide +kernel
theorem d_M_init_631 : decode b_M_init 631 = .ok (.aload_n 0, 1) := by decide +kernel
theorem d_M_init_632 : decode b_M_init 632 = .ok (.getfield 13, 3) := by decide +kernel
theorem d_M_init_635 : decode b_M_init 635 = .ok (.iconst 3, 1) := by decide +kernel
theorem d_M_init_636 : decode b_M_init 636 = .ok (.ldc 165, 2) := by decide +kernel
theorem d_M_init_638 : decode b_M_init 638 = .ok (.iastore, 1) := by decide +kernel
theorem d_M_init_639 : decode b_M_init 639 = .ok (.aload_n 0, 1) := by decide +kernel
theorem d_M_init_640 : decode b_M_init 640 = .ok (.getfield 13, 3) := by decide +kernel
theorem d_M_init_643 : decode b_M_init 643 = .ok (.iconst 4, 1) := by decide +kernel
theorem d_M_init_644 : decode b_M_init 644 = .ok (.ldc 166, 2) := by decide +kernel
theorem d_M_init_646 : decode b_M_init 646 = .ok (.iastore, 1) := by decide +kernel
theorem d_M_init_647 : decode b_M_init 647 = .ok (.aload_n 0, 1) := by decide +kernel
theorem d_M_init_648 : decode b_M_init 648 = .ok (.getfield 13, 3) := by decide +kernel
theorem d_M_init_651 : decode b_M_init 651 = .ok (.iconst 5, 1) := by decide +kernel
theorem d_M_init_652 : decode b_M_init 652 = .ok (.ldc 167, 2) := by decide +kernel
theorem d_M_init_654 : decode b_M_init 654 = .ok (.iastore, 1) := by decide +kernel
theorem d_M_init_655 : decode b_M_init 655 = .ok (.aload_n 0, 1) := by decide +kernel
theorem d_M_init_656 : decode b_M_init 656 = .ok (.getfield 13, 3) := by decide +kernel
theorem d_M_init_659 : decode b_M_init 659 = .ok (.bipush 6, 2) := by decide +kernel
