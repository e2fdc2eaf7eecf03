theorem d_Y_wordAsName_92 : decode b_Y_wordAsName 92 = .ok (.iload_n 2, 1) := by decide +kernel
theorem d_Y_wordAsName_93 : decode b_Y_wordAsName 93 = .ok (.ireturn, 1) := by decide +kernel
theorem d_Y_wordAsNumber_0 : decode b_Y_wordAsNumber 0 = .ok (.aload_n 0, 1) := by decide +kernel
theorem d_Y_wordAsNumber_1 : decode b_Y_wordAsNumber 1 = .ok (.getfield 115, 3) := by decide +kernel
theorem d_Y_wordAsNumber_4 : decode b_Y_wordAsNumber 4 = .ok (.iconst 1, 1) := by decide +kernel
theorem d_Y_wordAsNumber_5 : decode b_Y_wordAsNumber 5 = .ok (.iadd, 1) := by decide +kernel
theorem d_Y_wordAsNumber_6 : decode b_Y_wordAsNumber 6 = .ok (.aload_n 0, 1) := by decide +kernel
theorem d_Y_wordAsNumber_7 : decode b_Y_wordAsNumber 7 = .ok (.getfield 121, 3) := by decide +kernel
theorem d_Y_wordAsNumber_10 : decode b_Y_wordAsNumber 10 = .ok (.if_icmp .ge 48, 3) := by decide +kernel
theorem d_Y_wordAsNumber_13 : decode b_Y_wordAsNumber 13 = .ok (.aload_n 0, 1) := by decide +kernel
theorem d_Y_wordAsNumber_14 : decode b_Y_wordAsNumber 14 = .ok (.getfield 9, 3) := by decide +kernel
theorem d_Y_wordAsNumber_17 : decode b_Y_wordAsNumber 17 = .ok (.aload_n 0, 1) := by decide +kernel
theorem d_Y_wordAsNumber_18 : decode b_Y_wordAsNumber 18 = .ok (.getfield 115, 3) := by decide +kernel
theorem d_Y_wordAsNumber_21 : decode b_Y_wordAsNumber 21 = .ok (.caload, 1) := by decide +kernel
theorem d_Y_wordAsNumber_22 : decode b_Y_wordAsNumber 22 = .ok (.bipush 48, 2) := by decide +kernel
theorem d_Y_wordAsNumber_24 : decode b_Y_wordAsNumber 24 = .ok (.if_icmp .ne 34, 3) := by decide +kernel
theorem d_Y_wordAsNumber_27 : decode b_Y_wordAsNumber 27 = .ok (.aload_n 0, 1) := by decide +kernel
theorem d_Y_wordAsNumber_28 : decode b_Y_wordAsNumber 28 = .ok (.getfield 9, 3) := by decide +kernel
theorem d_Y_wordAsNumber_31 : decode b_Y_wordAsNumber 31 = .ok (.aload_n 0, 1) := by decide +kernel
theorem d_Y_wordAsNumber_32 : decode b_Y_wordAsNumber 32 = .ok (.getfield 115, 3) := by decide +kernel
theorem d_Y_wordAsNumber_35 : decode b_Y_wordAsNumber 35 = .ok (.iconst 1, 1) := by decide +kernel
theorem d_Y_wordAsNumber_36 : decode b_Y_wordAsNumber 36 = .ok (.iadd, 1) := by decide +kernel
theorem d_Y_wordAsNumber_37 : decode b_Y_wordAsNumber 37 = .ok (.caload, 1) := by decide +kernel
theorem d_Y_wordAsNumber_38 : decode b_Y_wordAsNumber 38 = .ok (.bipush 120, 2) := by decide +kernel
theorem d_Y_wordAsNumber_40 : decode b_Y_wordAsNumber 40 = .ok (.if_icmp .ne 18, 3) := by decide +kernel
theorem d_Y_wordAsNumber_43 : decode b_Y_wordAsNumber 43 = .ok (.aload_n 0, 1) := by decide +kernel
theorem d_Y_wordAsNumber_44 : decode b_Y_wordAsNumber 44 = .ok (.aload_n 0, 1) := by decide +kernel
theorem d_Y_wordAsNumber_45 : decode b_Y_wordAsNumber 45 = .ok (.getfield 115, 3) := by decide +kernel
theorem d_Y_wordAsNumber_48 : decode b_Y_wordAsNumber 48 = .ok (.iconst 2, 1) := by decide +kernel
theorem d_Y_wordAsNumber_49 : decode b_Y_wordAsNumber 49 = .ok (.iadd, 1) := by decide +kernel
theorem d_Y_wordAsNumber_50 : decode b_Y_wordAsNumber 50 = .ok (.bipush 16, 2) := by decide +kernel
theorem d_Y_wordAsNumber_52 : decode b_Y_wordAsNumber 52 = .ok (.bipush 8, 2) := by decide +kernel
theorem d_Y_wordAsNumber_54 : decode b_Y_wordAsNumber 54 = .ok (.invokevirtual 141, 3) := by decide +kernel
theorem d_Y_wordAsNumber_57 : decode b_Y_wordAsNumber 57 = .ok (.lreturn, 1) := by decide +kernel
theorem d_Y_wordAsNumber_58 : decode b_Y_wordAsNumber 58 = .ok (.aload_n 0, 1) := by decide +kernel
theorem d_Y_wordAsNumber_59 : decode b_Y_wordAsNumber 59 = .ok (.getfield 115, 3) := by decide +kernel
theorem d_Y_wordAsNumber_62 : decode b_Y_wordAsNumber 62 = .ok (.aload_n 0, 1) := by decide +kernel
theorem d_Y_wordAsNumber_63 : decode b_Y_wordAsNumber 63 = .ok (.getfield 121, 3) := by decide +kernel
theorem d_Y_wordAsNumber_66 : decode b_Y_wordAsNumber 66 = .ok (.if_icmp .ge 33, 3) := by decide +kernel
theorem d_Y_wordAsNumber_69 : decode b_Y_wordAsNumber 69 = .ok (.aload_n 0, 1) := by decide +kernel
theorem d_Y_wordAsNumber_70 : decode b_Y_wordAsNumber 70 = .ok (.getfield 9, 3) := by decide +kernel
theorem d_Y_wordAsNumber_73 : decode b_Y_wordAsNumber 73 = .ok (.aload_n 0, 1) := by decide +kernel
theorem d_Y_wordAsNumber_74 : decode b_Y_wordAsNumber 74 = .ok (.getfield 115, 3) := by decide +kernel
theorem d_Y_wordAsNumber_77 : decode b_Y_wordAsNumber 77 = .ok (.caload, 1) := by decide +kernel
theorem d_Y_wordAsNumber_78 : decode b_Y_wordAsNumber 78 = .ok (.bipush 45, 2) := by decide +kernel
theorem d_Y_wordAsNumber_80 : decode b_Y_wordAsNumber 80 = .ok (.if_icmp .ne 19, 3) := by decide +kernel
theorem d_Y_wordAsNumber_83 : decode b_Y_wordAsNumber 83 = .ok (.aload_n 0, 1) := by decide +kernel
theorem d_Y_wordAsNumber_84 : decode b_Y_wordAsNumber 84 = .ok (.aload_n 0, 1) := by decide +kernel
theorem d_Y_wordAsNumber_85 : decode b_Y_wordAsNumber 85 = .ok (.getfield 115, 3) := by decide +kernel
theorem d_Y_wordAsNumber_88 : decode b_Y_wordAsNumber 88 = .ok (.iconst 1, 1) := by decide +kernel
theorem d_Y_wordAsNumber_89 : decode b_Y_wordAsNumber 89 = .ok (.iadd, 1) := by decide +kernel
theorem d_Y_wordAsNumber_90 : decode b_Y_wordAsNumber 90 = .ok (.bipush 10, 2) := by decide +kernel
theorem d_Y_wordAsNumber_92 : decode b_Y_wordAsNumber 92 = .ok (.bipush 10, 2) := by decide +kernel
theorem d_Y_wordAsNumber_94 : decode b_Y_wordAsNumber 94 = .ok (.invokevirtual 141, 3) := by decide +kernel
theorem d_Y_wordAsNumber_97 : decode b_Y_wordAsNumber 97 = .ok (.lneg, 1) := by decide +kernel
theorem d_Y_wordAsNumber_98 : decode b_Y_wordAsNumber 98 = .ok (.lreturn, 1) := by decide +kernel
theorem d_Y_wordAsNumber_99 : decode b_Y_wordAsNumber 99 = .ok (.aload_n 0, 1) := by decide +kernel
theorem d_Y_wordAsNumber_100 : decode b_Y_wordAsNumber 100 = .ok (.aload_n 0, 1) := by decide +kernel
theorem d_Y_wordAsNumber_101 : decode b_Y_wordAsNumber 101 = .ok (.getfield 115, 3) := by decide +kernel
theorem d_Y_wordAsNumber_104 : decode b_Y_wordAsNumber 104 = .ok (.bipush 10, 2) := by decide +kernel
theorem d_Y_wordAsNumber_106 : decode b_Y_wordAsNumber 106 = .ok (.bipush 10, 2) := by decide +kernel
theorem d_Y_wordAsNumber_108 : decode b_Y_wordAsNumber 108 = .ok (.invokevirtual 141, 3) := by decide +kernel
theorem d_Y_wordAsNumber_111 : decode b_Y_wordAsNumber 111 = .ok (.lreturn, 1) := by decide +kernel
theorem d_Y_wordAsRegister_0 : decode b_Y_wordAsRegister 0 = .ok (.aload_n 0, 1) := by decide +kernel
theorem d_Y_wordAsRegister_1 : decode b_Y_wordAsRegister 1 = .ok (.ldc 135, 2) := by decide +kernel
theorem d_Y_wordAsRegister_3 : decode b_Y_wordAsRegister 3 = .ok (.invokevirtual 131, 3) := by decide +kernel
theorem d_Y_wordAsRegister_6 : decode b_Y_wordAsRegister 6 = .ok (.ifCond .eq 5, 3) := by decide +kernel
theorem d_Y_wordAsRegister_9 : decode b_Y_wordAsRegister 9 = .ok (.iconst 0, 1) := by decide +kernel
theorem d_Y_wordAsRegister_10 : decode b_Y_wordAsRegister 10 = .ok (.ireturn, 1) := by decide +kernel
theorem d_Y_wordAsRegister_11 : decode b_Y_wordAsRegister 11 = .ok (.aload_n 0, 1) := by decide +kernel
theorem d_Y_wordAsRegister_12 : decode b_Y_wordAsRegister 12 = .ok (.ldc 137, 2) := by decide +kernel
theorem d_Y_wordAsRegister_14 : decode b_Y_wordAsRegister 14 = .ok (.invokevirtual 131, 3) := by decide +kernel
theorem d_Y_wordAsRegister_17 : decode b_Y_wordAsRegister 17 = .ok (.ifCond .eq 5, 3) := by decide +kernel
theorem d_Y_wordAsRegister_20 : decode b_Y_wordAsRegister 20 = .ok (.iconst 1, 1) := by decide +kernel
theorem d_Y_wordAsRegister_21 : decode b_Y_wordAsRegister 21 = .ok (.ireturn, 1) := by decide +kernel
theorem d_Y_wordAsRegister_22 : decode b_Y_wordAsRegister 22 = .ok (.aload_n 0, 1) := by decide +kernel
theorem d_Y_wordAsRegister_23 : decode b_Y_wordAsRegister 23 = .ok (.ldc 139, 2) := by decide +kernel
theorem d_Y_wordAsRegister_25 : decode b_Y_wordAsRegister 25 = .ok (.invokevirtual 131, 3) := by decide +kernel
theorem d_Y_wordAsRegister_28 : decode b_Y_wordAsRegister 28 = .ok (.ifCond .eq 5, 3) := by decide +kernel
theorem d_Y_wordAsRegister_31 : decode b_Y_wordAsRegister 31 = .ok (.iconst 2, 1) := by decide +kernel
theorem d_Y_wordAsRegister_32 : decode b_Y_wordAsRegister 32 = .ok (.ireturn, 1) := by decide +kernel
theorem d_Y_wordAsRegister_33 : decode b_Y_wordAsRegister 33 = .ok (.aload_n 0, 1) := by decide +kernel
theorem d_Y_wordAsRegister_34 : decode b_Y_wordAsRegister 34 = .ok (.getfield 115, 3) := by decide +kernel
theorem d_Y_wordAsRegister_37 : decode b_Y_wordAsRegister 37 = .ok (.aload_n 0, 1) := by decide +kernel
theorem d_Y_wordAsRegister_38 : decode b_Y_wordAsRegister 38 = .ok (.getfield 121, 3) := by decide +kernel
theorem d_Y_wordAsRegister_41 : decode b_Y_wordAsRegister 41 = .ok (.if_icmp .ge 17, 3) := by decide +kernel
theorem d_Y_wordAsRegister_44 : decode b_Y_wordAsRegister 44 = .ok (.aload_n 0, 1) := by decide +kernel
theorem d_Y_wordAsRegister_45 : decode b_Y_wordAsRegister 45 = .ok (.getfield 9, 3) := by decide +kernel
theorem d_Y_wordAsRegister_48 : decode b_Y_wordAsRegister 48 = .ok (.aload_n 0, 1) := by decide +kernel
theorem d_Y_wordAsRegister_49 : decode b_Y_wordAsRegister 49 = .ok (.getfield 115, 3) := by decide +kernel
theorem d_Y_wordAsRegister_52 : decode b_Y_wordAsRegister 52 = .ok (.caload, 1) := by decide +kernel
theorem d_Y_wordAsRegister_53 : decode b_Y_wordAsRegister 53 = .ok (.bipush 120, 2) := by decide +kernel
theorem d_Y_wordAsRegister_55 : decode b_Y_wordAsRegister 55 = .ok (.if_icmp .eq 11, 3) := by decide +kernel
theorem d_Y_wordAsRegister_58 : decode b_Y_wordAsRegister 58 = .ok (.new 69, 3) := by decide +kernel
theorem d_Y_wordAsRegister_61 : decode b_Y_wordAsRegister 61 = .ok (.dup, 1) := by decide +kernel
theorem d_Y_wordAsRegister_62 : decode b_Y_wordAsRegister 62 = .ok (.invokespecial 71, 3) := by decide +kernel
theorem d_Y_wordAsRegister_65 : decode b_Y_wordAsRegister 65 = .ok (.athrow, 1) := by decide +kernel
theorem d_Y_wordAsRegister_66 : decode b_Y_wordAsRegister 66 = .ok (.aload_n 0, 1) := by decide +kernel
theorem d_Y_wordAsRegister_67 : decode b_Y_wordAsRegister 67 = .ok (.aload_n 0, 1) := by decide +kernel
theorem d_Y_wordAsRegister_68 : decode b_Y_wordAsRegister 68 = .ok (.getfield 115, 3) := by decide +kernel
theorem d_Y_wordAsRegister_71 : decode b_Y_wordAsRegister 71 = .ok (.iconst 1, 1) := by decide +kernel
theorem d_Y_wordAsRegister_72 : decode b_Y_wordAsRegister 72 = .ok (.iadd, 1) := by decide +kernel
theorem d_Y_wordAsRegister_73 : decode b_Y_wordAsRegister 73 = .ok (.bipush 10, 2) := by decide +kernel
theorem d_Y_wordAsRegister_75 : decode b_Y_wordAsRegister 75 = .ok (.iconst 2, 1) := by decide +kernel
theorem d_Y_wordAsRegister_76 : decode b_Y_wordAsRegister 76 = .ok (.invokevirtual 141, 3) := by decide +kernel
theorem d_Y_wordAsRegister_79 : decode b_Y_wordAsRegister 79 = .ok (.lstore_n 1, 1) := by decide +kernel
theorem d_Y_wordAsRegister_80 : decode b_Y_wordAsRegister 80 = .ok (.lload_n 1, 1) := by decide +kernel
theorem d_Y_wordAsRegister_81 : decode b_Y_wordAsRegister 81 = .ok (.ldc2_w 145, 3) := by decide +kernel
theorem d_Y_wordAsRegister_84 : decode b_Y_wordAsRegister 84 = .ok (.lcmp, 1) := by decide +kernel
theorem d_Y_wordAsRegister_85 : decode b_Y_wordAsRegister 85 = .ok (.ifCond .ge 20, 3) := by decide +kernel
theorem d_Y_wordAsRegister_88 : decode b_Y_wordAsRegister 88 = .ok (.aload_n 0, 1) := by decide +kernel
theorem d_Y_wordAsRegister_89 : decode b_Y_wordAsRegister 89 = .ok (.getfield 121, 3) := by decide +kernel
theorem d_Y_wordAsRegister_92 : decode b_Y_wordAsRegister 92 = .ok (.aload_n 0, 1) := by decide +kernel
theorem d_Y_wordAsRegister_93 : decode b_Y_wordAsRegister 93 = .ok (.getfield 115, 3) := by decide +kernel
theorem d_Y_wordAsRegister_96 : decode b_Y_wordAsRegister 96 = .ok (.isub, 1) := by decide +kernel
theorem d_Y_wordAsRegister_97 : decode b_Y_wordAsRegister 97 = .ok (.iconst 2, 1) := by decide +kernel
theorem d_Y_wordAsRegister_98 : decode b_Y_wordAsRegister 98 = .ok (.if_icmp .le 7, 3) := by decide +kernel
theorem d_Y_wordAsRegister_101 : decode b_Y_wordAsRegister 101 = .ok (.iconst 1, 1) := by decide +kernel
theorem d_Y_wordAsRegister_102 : decode b_Y_wordAsRegister 102 = .ok (.goto 4, 3) := by decide +kernel
theorem d_Y_wordAsRegister_105 : decode b_Y_wordAsRegister 105 = .ok (.iconst 0, 1) := by decide +kernel
theorem d_Y_wordAsRegister_106 : decode b_Y_wordAsRegister 106 = .ok (.istore_n 3, 1) := by decide +kernel
theorem d_Y_wordAsRegister_107 : decode b_Y_wordAsRegister 107 = .ok (.lload_n 1, 1) := by decide +kernel
theorem d_Y_wordAsRegister_108 : decode b_Y_wordAsRegister 108 = .ok (.ldc2_w 147, 3) := by decide +kernel
theorem d_Y_wordAsRegister_111 : decode b_Y_wordAsRegister 111 = .ok (.lcmp, 1) := by decide +kernel
theorem d_Y_wordAsRegister_112 : decode b_Y_wordAsRegister 112 = .ok (.ifCond .gt 7, 3) := by decide +kernel
theorem d_Y_wordAsRegister_115 : decode b_Y_wordAsRegister 115 = .ok (.iload_n 3, 1) := by decide +kernel
theorem d_Y_wordAsRegister_116 : decode b_Y_wordAsRegister 116 = .ok (.ifCond .eq 11, 3) := by decide +kernel
theorem d_Y_wordAsRegister_119 : decode b_Y_wordAsRegister 119 = .ok (.new 69, 3) := by decide +kernel
theorem d_Y_wordAsRegister_122 : decode b_Y_wordAsRegister 122 = .ok (.dup, 1) := by decide +kernel
theorem d_Y_wordAsRegister_123 : decode b_Y_wordAsRegister 123 = .ok (.invokespecial 71, 3) := by decide +kernel
theorem d_Y_wordAsRegister_126 : decode b_Y_wordAsRegister 126 = .ok (.athrow, 1) := by decide +kernel
theorem d_Y_wordAsRegister_127 : decode b_Y_wordAsRegister 127 = .ok (.lload_n 1, 1) := by decide +kernel
theorem d_Y_wordAsRegister_128 : decode b_Y_wordAsRegister 128 = .ok (.l2i, 1) := by decide +kernel
theorem d_Y_wordAsRegister_129 : decode b_Y_wordAsRegister 129 = .ok (.ireturn, 1) := by decide +kernel
theorem d_L_law_0 : decode b_L_law 0 = .ok (.new 8, 3) := by decide +kernel
theorem d_L_law_3 : decode b_L_law 3 = .ok (.dup, 1) := by decide +kernel
theorem d_L_law_4 : decode b_L_law 4 = .ok (.invokespecial 54, 3) := by decide +kernel
theorem d_L_law_7 : decode b_L_law 7 = .ok (.astore_n 1, 1) := by decide +kernel
theorem d_L_law_8 : decode b_L_law 8 = .ok (.new 55, 3) := by decide +kernel
theorem d_L_law_11 : decode b_L_law 11 = .ok (.dup, 1) := by decide +kernel
theorem d_L_law_12 : decode b_L_law 12 = .ok (.invokespecial 57, 3) := by decide +kernel
theorem d_L_law_15 : decode b_L_law 15 = .ok (.astore_n 2, 1) := by decide +kernel
theorem d_L_law_16 : decode b_L_law 16 = .ok (.iconst 1, 1) := by decide +kernel
theorem d_L_law_17 : decode b_L_law 17 = .ok (.newarray .long, 2) := by decide +kernel
theorem d_L_law_19 : decode b_L_law 19 = .ok (.astore_n 3, 1) := by decide +kernel
theorem d_L_law_20 : decode b_L_law 20 = .ok (.iconst 0, 1) := by decide +kernel
theorem d_L_law_21 : decode b_L_law 21 = .ok (.istore 4, 2) := by decide +kernel
theorem d_L_law_23 : decode b_L_law 23 = .ok (.iload 4, 2) := by decide +kernel
theorem d_L_law_25 : decode b_L_law 25 = .ok (.aload_n 0, 1) := by decide +kernel
theorem d_L_law_26 : decode b_L_law 26 = .ok (.arraylength, 1) := by decide +kernel
