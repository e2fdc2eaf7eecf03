theorem d_M_show_415 : decode b_M_show 415 = .ok (.ireturn, 1) := by decide +kernel
