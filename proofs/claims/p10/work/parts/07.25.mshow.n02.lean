theorem d_M_show_0 : decode b_M_show 0 = .ok (.aload_n 0, 1) := by decide +kernel
theorem d_M_show_1 : decode b_M_show 1 = .ok (.iconst 0, 1) := by decide +kernel
theorem d_M_show_2 : decode b_M_show 2 = .ok (.putfield 411, 3) := by decide +kernel
theorem d_M_show_5 : decode b_M_show 5 = .ok (.aload_n 0, 1) := by decide +kernel
theorem d_M_show_6 : decode b_M_show 6 = .ok (.iload_n 1, 1) := by decide +kernel
theorem d_M_show_7 : decode b_M_show 7 = .ok (.invokevirtual 422, 3) := by decide +kernel
theorem d_M_show_10 : decode b_M_show 10 = .ok (.istore_n 2, 1) := by decide +kernel
theorem d_M_show_11 : decode b_M_show 11 = .ok (.aload_n 0, 1) := by decide +kernel
theorem d_M_show_12 : decode b_M_show 12 = .ok (.iload_n 2, 1) := by decide +kernel
theorem d_M_show_13 : decode b_M_show 13 = .ok (.ifCond .ge 7, 3) := by decide +kernel
theorem d_M_show_16 : decode b_M_show 16 = .ok (.iconst 1, 1) := by decide +kernel
theorem d_M_show_17 : decode b_M_show 17 = .ok (.goto 4, 3) := by decide +kernel
theorem d_M_show_20 : decode b_M_show 20 = .ok (.iconst 0, 1) := by decide +kernel
theorem d_M_show_21 : decode b_M_show 21 = .ok (.putfield 208, 3) := by decide +kernel
theorem d_M_show_24 : decode b_M_show 24 = .ok (.aload_n 0, 1) := by decide +kernel
theorem d_M_show_25 : decode b_M_show 25 = .ok (.getfield 208, 3) := by decide +kernel
theorem d_M_show_28 : decode b_M_show 28 = .ok (.ifCond .le 5, 3) := by decide +kernel
theorem d_M_show_31 : decode b_M_show 31 = .ok (.iconst 0, 1) := by decide +kernel
theorem d_M_show_32 : decode b_M_show 32 = .ok (.ireturn, 1) := by decide +kernel
theorem d_M_show_33 : decode b_M_show 33 = .ok (.bipush 7, 2) := by decide +kernel
theorem d_M_show_35 : decode b_M_show 35 = .ok (.istore_n 3, 1) := by decide +kernel
theorem d_M_show_36 : decode b_M_show 36 = .ok (.iload_n 3, 1) := by decide +kernel
theorem d_M_show_37 : decode b_M_show 37 = .ok (.ifCond .lt 38, 3) := by decide +kernel
theorem d_M_show_40 : decode b_M_show 40 = .ok (.aload_n 0, 1) := by decide +kernel
theorem d_M_show_41 : decode b_M_show 41 = .ok (.getfield 7, 3) := by decide +kernel
theorem d_M_show_44 : decode b_M_show 44 = .ok (.iload_n 2, 1) := by decide +kernel
theorem d_M_show_45 : decode b_M_show 45 = .ok (.laload, 1) := by decide +kernel
theorem d_M_show_46 : decode b_M_show 46 = .ok (.bipush 8, 2) := by decide +kernel
theorem d_M_show_48 : decode b_M_show 48 = .ok (.iload_n 3, 1) := by decide +kernel
theorem d_M_show_49 : decode b_M_show 49 = .ok (.imul, 1) := by decide +kernel
theorem d_M_show_50 : decode b_M_show 50 = .ok (.lshr, 1) := by decide +kernel
theorem d_M_show_51 : decode b_M_show 51 = .ok (.ldc2_w 314, 3) := by decide +kernel
theorem d_M_show_54 : decode b_M_show 54 = .ok (.land, 1) := by decide +kernel
theorem d_M_show_55 : decode b_M_show 55 = .ok (.l2i, 1) := by decide +kernel
theorem d_M_show_56 : decode b_M_show 56 = .ok (.istore 4, 2) := by decide +kernel
theorem d_M_show_58 : decode b_M_show 58 = .ok (.iload 4, 2) := by decide +kernel
theorem d_M_show_60 : decode b_M_show 60 = .ok (.ifCond .le 9, 3) := by decide +kernel
theorem d_M_show_63 : decode b_M_show 63 = .ok (.aload_n 0, 1) := by decide +kernel
theorem d_M_show_64 : decode b_M_show 64 = .ok (.iload 4, 2) := by decide +kernel
theorem d_M_show_66 : decode b_M_show 66 = .ok (.invokevirtual 414, 3) := by decide +kernel
theorem d_M_show_69 : decode b_M_show 69 = .ok (.iinc 3 (-1), 3) := by decide +kernel
theorem d_M_show_72 : decode b_M_show 72 = .ok (.goto (-36), 3) := by decide +kernel
theorem d_M_show_75 : decode b_M_show 75 = .ok (.aload_n 0, 1) := by decide +kernel
theorem d_M_show_76 : decode b_M_show 76 = .ok (.getfield 13, 3) := by decide +kernel
theorem d_M_show_79 : decode b_M_show 79 = .ok (.iload_n 2, 1) := by decide +kernel
theorem d_M_show_80 : decode b_M_show 80 = .ok (.iaload, 1) := by decide +kernel
theorem d_M_show_81 : decode b_M_show 81 = .ok (.ldc_w 321, 3) := by decide +kernel
theorem d_M_show_84 : decode b_M_show 84 = .ok (.idiv, 1) := by decide +kernel
