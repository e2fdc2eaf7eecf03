theorem d_Y_isOfWord_7 : decode b_Y_isOfWord 7 = .ok (.bipush 44, 2) := by decide +kernel
theorem d_Y_isOfWord_9 : decode b_Y_isOfWord 9 = .ok (.if_icmp .eq 31, 3) := by decide +kernel
theorem d_Y_isOfWord_12 : decode b_Y_isOfWord 12 = .ok (.iload_n 0, 1) := by decide +kernel
theorem d_Y_isOfWord_13 : decode b_Y_isOfWord 13 = .ok (.bipush 58, 2) := by decide +kernel
theorem d_Y_isOfWord_15 : decode b_Y_isOfWord 15 = .ok (.if_icmp .eq 25, 3) := by decide +kernel
theorem d_Y_isOfWord_18 : decode b_Y_isOfWord 18 = .ok (.iload_n 0, 1) := by decide +kernel
theorem d_Y_isOfWord_19 : decode b_Y_isOfWord 19 = .ok (.bipush 40, 2) := by decide +kernel
theorem d_Y_isOfWord_21 : decode b_Y_isOfWord 21 = .ok (.if_icmp .eq 19, 3) := by decide +kernel
theorem d_Y_isOfWord_24 : decode b_Y_isOfWord 24 = .ok (.iload_n 0, 1) := by decide +kernel
theorem d_Y_isOfWord_25 : decode b_Y_isOfWord 25 = .ok (.bipush 41, 2) := by decide +kernel
theorem d_Y_isOfWord_27 : decode b_Y_isOfWord 27 = .ok (.if_icmp .eq 13, 3) := by decide +kernel
theorem d_Y_isOfWord_30 : decode b_Y_isOfWord 30 = .ok (.iload_n 0, 1) := by decide +kernel
theorem d_Y_isOfWord_31 : decode b_Y_isOfWord 31 = .ok (.bipush 35, 2) := by decide +kernel
theorem d_Y_isOfWord_33 : decode b_Y_isOfWord 33 = .ok (.if_icmp .eq 7, 3) := by decide +kernel
theorem d_Y_isOfWord_36 : decode b_Y_isOfWord 36 = .ok (.iconst 1, 1) := by decide +kernel
theorem d_Y_isOfWord_37 : decode b_Y_isOfWord 37 = .ok (.goto 4, 3) := by decide +kernel
theorem d_Y_isOfWord_40 : decode b_Y_isOfWord 40 = .ok (.iconst 0, 1) := by decide +kernel
theorem d_Y_isOfWord_41 : decode b_Y_isOfWord 41 = .ok (.ireturn, 1) := by decide +kernel
theorem d_Y_nextNumber_0 : decode b_Y_nextNumber 0 = .ok (.aload_n 0, 1) := by decide +kernel
theorem d_Y_nextNumber_1 : decode b_Y_nextNumber 1 = .ok (.invokevirtual 28, 3) := by decide +kernel
theorem d_Y_nextNumber_4 : decode b_Y_nextNumber 4 = .ok (.aload_n 0, 1) := by decide +kernel
theorem d_Y_nextNumber_5 : decode b_Y_nextNumber 5 = .ok (.invokevirtual 109, 3) := by decide +kernel
theorem d_Y_nextNumber_8 : decode b_Y_nextNumber 8 = .ok (.lstore 5, 2) := by decide +kernel
theorem d_Y_nextNumber_10 : decode b_Y_nextNumber 10 = .ok (.lload 5, 2) := by decide +kernel
theorem d_Y_nextNumber_12 : decode b_Y_nextNumber 12 = .ok (.lload_n 1, 1) := by decide +kernel
theorem d_Y_nextNumber_13 : decode b_Y_nextNumber 13 = .ok (.lcmp, 1) := by decide +kernel
theorem d_Y_nextNumber_14 : decode b_Y_nextNumber 14 = .ok (.ifCond .lt 10, 3) := by decide +kernel
theorem d_Y_nextNumber_17 : decode b_Y_nextNumber 17 = .ok (.lload 5, 2) := by decide +kernel
theorem d_Y_nextNumber_19 : decode b_Y_nextNumber 19 = .ok (.lload_n 3, 1) := by decide +kernel
theorem d_Y_nextNumber_20 : decode b_Y_nextNumber 20 = .ok (.lcmp, 1) := by decide +kernel
theorem d_Y_nextNumber_21 : decode b_Y_nextNumber 21 = .ok (.ifCond .le 11, 3) := by decide +kernel
theorem d_Y_nextNumber_24 : decode b_Y_nextNumber 24 = .ok (.new 69, 3) := by decide +kernel
theorem d_Y_nextNumber_27 : decode b_Y_nextNumber 27 = .ok (.dup, 1) := by decide +kernel
theorem d_Y_nextNumber_28 : decode b_Y_nextNumber 28 = .ok (.invokespecial 71, 3) := by decide +kernel
theorem d_Y_nextNumber_31 : decode b_Y_nextNumber 31 = .ok (.athrow, 1) := by decide +kernel
theorem d_Y_nextNumber_32 : decode b_Y_nextNumber 32 = .ok (.lload 5, 2) := by decide +kernel
theorem d_Y_nextNumber_34 : decode b_Y_nextNumber 34 = .ok (.lreturn, 1) := by decide +kernel
theorem d_Y_nextRegister_0 : decode b_Y_nextRegister 0 = .ok (.aload_n 0, 1) := by decide +kernel
theorem d_Y_nextRegister_1 : decode b_Y_nextRegister 1 = .ok (.invokevirtual 28, 3) := by decide +kernel
theorem d_Y_nextRegister_4 : decode b_Y_nextRegister 4 = .ok (.aload_n 0, 1) := by decide +kernel
theorem d_Y_nextRegister_5 : decode b_Y_nextRegister 5 = .ok (.invokevirtual 106, 3) := by decide +kernel
theorem d_Y_nextRegister_8 : decode b_Y_nextRegister 8 = .ok (.ireturn, 1) := by decide +kernel
theorem d_Y_passMark_0 : decode b_Y_passMark 0 = .ok (.aload_n 0, 1) := by decide +kernel
theorem d_Y_passMark_1 : decode b_Y_passMark 1 = .ok (.iload_n 1, 1) := by decide +kernel
theorem d_Y_passMark_2 : decode b_Y_passMark 2 = .ok (.invokevirtual 31, 3) := by decide +kernel
theorem d_Y_passMark_5 : decode b_Y_passMark 5 = .ok (.ifCond .ne 11, 3) := by decide +kernel
theorem d_Y_passMark_8 : decode b_Y_passMark 8 = .ok (.new 69, 3) := by decide +kernel
theorem d_Y_passMark_11 : decode b_Y_passMark 11 = .ok (.dup, 1) := by decide +kernel
theorem d_Y_passMark_12 : decode b_Y_passMark 12 = .ok (.invokespecial 71, 3) := by decide +kernel
theorem d_Y_passMark_15 : decode b_Y_passMark 15 = .ok (.athrow, 1) := by decide +kernel
theorem d_Y_passMark_16 : decode b_Y_passMark 16 = .ok (.aload_n 0, 1) := by decide +kernel
theorem d_Y_passMark_17 : decode b_Y_passMark 17 = .ok (.dup, 1) := by decide +kernel
theorem d_Y_passMark_18 : decode b_Y_passMark 18 = .ok (.getfield 22, 3) := by decide +kernel
theorem d_Y_passMark_21 : decode b_Y_passMark 21 = .ok (.iconst 1, 1) := by decide +kernel
theorem d_Y_passMark_22 : decode b_Y_passMark 22 = .ok (.iadd, 1) := by decide +kernel
theorem d_Y_passMark_23 : decode b_Y_passMark 23 = .ok (.putfield 22, 3) := by decide +kernel
theorem d_Y_passMark_26 : decode b_Y_passMark 26 = .ok (.aload_n 0, 1) := by decide +kernel
theorem d_Y_passMark_27 : decode b_Y_passMark 27 = .ok (.invokevirtual 112, 3) := by decide +kernel
theorem d_Y_passMark_30 : decode b_Y_passMark 30 = .ok (.return_, 1) := by decide +kernel
theorem d_Y_readOperand_0 : decode b_Y_readOperand 0 = .ok (.iload_n 2, 1) := by decide +kernel
theorem d_Y_readOperand_1 : decode b_Y_readOperand 1 = .ok (.lookupswitch 124 #[(100, 51), (105, 84), (108, 109), (115, 62), (116, 73)], 51) := by decide +kernel
theorem d_Y_readOperand_52 : decode b_Y_readOperand 52 = .ok (.aload_n 1, 1) := by decide +kernel
theorem d_Y_readOperand_53 : decode b_Y_readOperand 53 = .ok (.aload_n 0, 1) := by decide +kernel
theorem d_Y_readOperand_54 : decode b_Y_readOperand 54 = .ok (.invokevirtual 72, 3) := by decide +kernel
theorem d_Y_readOperand_57 : decode b_Y_readOperand 57 = .ok (.putfield 75, 3) := by decide +kernel
theorem d_Y_readOperand_60 : decode b_Y_readOperand 60 = .ok (.goto 70, 3) := by decide +kernel
theorem d_Y_readOperand_63 : decode b_Y_readOperand 63 = .ok (.aload_n 1, 1) := by decide +kernel
theorem d_Y_readOperand_64 : decode b_Y_readOperand 64 = .ok (.aload_n 0, 1) := by decide +kernel
theorem d_Y_readOperand_65 : decode b_Y_readOperand 65 = .ok (.invokevirtual 72, 3) := by decide +kernel
theorem d_Y_readOperand_68 : decode b_Y_readOperand 68 = .ok (.putfield 78, 3) := by decide +kernel
theorem d_Y_readOperand_71 : decode b_Y_readOperand 71 = .ok (.goto 59, 3) := by decide +kernel
theorem d_Y_readOperand_74 : decode b_Y_readOperand 74 = .ok (.aload_n 1, 1) := by decide +kernel
theorem d_Y_readOperand_75 : decode b_Y_readOperand 75 = .ok (.aload_n 0, 1) := by decide +kernel
theorem d_Y_readOperand_76 : decode b_Y_readOperand 76 = .ok (.invokevirtual 72, 3) := by decide +kernel
theorem d_Y_readOperand_79 : decode b_Y_readOperand 79 = .ok (.putfield 81, 3) := by decide +kernel
theorem d_Y_readOperand_82 : decode b_Y_readOperand 82 = .ok (.goto 48, 3) := by decide +kernel
theorem d_Y_readOperand_85 : decode b_Y_readOperand 85 = .ok (.aload_n 1, 1) := by decide +kernel
theorem d_Y_readOperand_86 : decode b_Y_readOperand 86 = .ok (.aload_n 0, 1) := by decide +kernel
theorem d_Y_readOperand_87 : decode b_Y_readOperand 87 = .ok (.aload_n 1, 1) := by decide +kernel
theorem d_Y_readOperand_88 : decode b_Y_readOperand 88 = .ok (.getfield 46, 3) := by decide +kernel
theorem d_Y_readOperand_91 : decode b_Y_readOperand 91 = .ok (.invokevirtual 84, 3) := by decide +kernel
theorem d_Y_readOperand_94 : decode b_Y_readOperand 94 = .ok (.aload_n 1, 1) := by decide +kernel
theorem d_Y_readOperand_95 : decode b_Y_readOperand 95 = .ok (.getfield 46, 3) := by decide +kernel
theorem d_Y_readOperand_98 : decode b_Y_readOperand 98 = .ok (.invokevirtual 88, 3) := by decide +kernel
theorem d_Y_readOperand_101 : decode b_Y_readOperand 101 = .ok (.invokevirtual 91, 3) := by decide +kernel
theorem d_Y_readOperand_104 : decode b_Y_readOperand 104 = .ok (.putfield 95, 3) := by decide +kernel
theorem d_Y_readOperand_107 : decode b_Y_readOperand 107 = .ok (.goto 23, 3) := by decide +kernel
theorem d_Y_readOperand_110 : decode b_Y_readOperand 110 = .ok (.aload_n 0, 1) := by decide +kernel
theorem d_Y_readOperand_111 : decode b_Y_readOperand 111 = .ok (.invokevirtual 28, 3) := by decide +kernel
theorem d_Y_readOperand_114 : decode b_Y_readOperand 114 = .ok (.aload_n 1, 1) := by decide +kernel
theorem d_Y_readOperand_115 : decode b_Y_readOperand 115 = .ok (.aload_n 0, 1) := by decide +kernel
theorem d_Y_readOperand_116 : decode b_Y_readOperand 116 = .ok (.invokevirtual 35, 3) := by decide +kernel
theorem d_Y_readOperand_119 : decode b_Y_readOperand 119 = .ok (.putfield 99, 3) := by decide +kernel
theorem d_Y_readOperand_122 : decode b_Y_readOperand 122 = .ok (.goto 8, 3) := by decide +kernel
theorem d_Y_readOperand_125 : decode b_Y_readOperand 125 = .ok (.aload_n 0, 1) := by decide +kernel
theorem d_Y_readOperand_126 : decode b_Y_readOperand 126 = .ok (.iload_n 2, 1) := by decide +kernel
theorem d_Y_readOperand_127 : decode b_Y_readOperand 127 = .ok (.invokevirtual 102, 3) := by decide +kernel
theorem d_Y_readOperand_130 : decode b_Y_readOperand 130 = .ok (.return_, 1) := by decide +kernel
theorem d_Y_wordAsName_0 : decode b_Y_wordAsName 0 = .ok (.aload_n 0, 1) := by decide +kernel
theorem d_Y_wordAsName_1 : decode b_Y_wordAsName 1 = .ok (.getfield 121, 3) := by decide +kernel
theorem d_Y_wordAsName_4 : decode b_Y_wordAsName 4 = .ok (.aload_n 0, 1) := by decide +kernel
theorem d_Y_wordAsName_5 : decode b_Y_wordAsName 5 = .ok (.getfield 115, 3) := by decide +kernel
theorem d_Y_wordAsName_8 : decode b_Y_wordAsName 8 = .ok (.isub, 1) := by decide +kernel
theorem d_Y_wordAsName_9 : decode b_Y_wordAsName 9 = .ok (.istore_n 1, 1) := by decide +kernel
theorem d_Y_wordAsName_10 : decode b_Y_wordAsName 10 = .ok (.iload_n 1, 1) := by decide +kernel
theorem d_Y_wordAsName_11 : decode b_Y_wordAsName 11 = .ok (.iconst 1, 1) := by decide +kernel
theorem d_Y_wordAsName_12 : decode b_Y_wordAsName 12 = .ok (.if_icmp .lt 9, 3) := by decide +kernel
theorem d_Y_wordAsName_15 : decode b_Y_wordAsName 15 = .ok (.iload_n 1, 1) := by decide +kernel
theorem d_Y_wordAsName_16 : decode b_Y_wordAsName 16 = .ok (.bipush 6, 2) := by decide +kernel
theorem d_Y_wordAsName_18 : decode b_Y_wordAsName 18 = .ok (.if_icmp .le 11, 3) := by decide +kernel
theorem d_Y_wordAsName_21 : decode b_Y_wordAsName 21 = .ok (.new 69, 3) := by decide +kernel
theorem d_Y_wordAsName_24 : decode b_Y_wordAsName 24 = .ok (.dup, 1) := by decide +kernel
theorem d_Y_wordAsName_25 : decode b_Y_wordAsName 25 = .ok (.invokespecial 71, 3) := by decide +kernel
theorem d_Y_wordAsName_28 : decode b_Y_wordAsName 28 = .ok (.athrow, 1) := by decide +kernel
theorem d_Y_wordAsName_29 : decode b_Y_wordAsName 29 = .ok (.iconst 0, 1) := by decide +kernel
theorem d_Y_wordAsName_30 : decode b_Y_wordAsName 30 = .ok (.istore_n 2, 1) := by decide +kernel
theorem d_Y_wordAsName_31 : decode b_Y_wordAsName 31 = .ok (.aload_n 0, 1) := by decide +kernel
theorem d_Y_wordAsName_32 : decode b_Y_wordAsName 32 = .ok (.getfield 115, 3) := by decide +kernel
theorem d_Y_wordAsName_35 : decode b_Y_wordAsName 35 = .ok (.istore_n 3, 1) := by decide +kernel
theorem d_Y_wordAsName_36 : decode b_Y_wordAsName 36 = .ok (.iload_n 3, 1) := by decide +kernel
theorem d_Y_wordAsName_37 : decode b_Y_wordAsName 37 = .ok (.aload_n 0, 1) := by decide +kernel
theorem d_Y_wordAsName_38 : decode b_Y_wordAsName 38 = .ok (.getfield 121, 3) := by decide +kernel
theorem d_Y_wordAsName_41 : decode b_Y_wordAsName 41 = .ok (.if_icmp .ge 51, 3) := by decide +kernel
theorem d_Y_wordAsName_44 : decode b_Y_wordAsName 44 = .ok (.aload_n 0, 1) := by decide +kernel
theorem d_Y_wordAsName_45 : decode b_Y_wordAsName 45 = .ok (.getfield 9, 3) := by decide +kernel
theorem d_Y_wordAsName_48 : decode b_Y_wordAsName 48 = .ok (.iload_n 3, 1) := by decide +kernel
theorem d_Y_wordAsName_49 : decode b_Y_wordAsName 49 = .ok (.caload, 1) := by decide +kernel
theorem d_Y_wordAsName_50 : decode b_Y_wordAsName 50 = .ok (.istore 4, 2) := by decide +kernel
theorem d_Y_wordAsName_52 : decode b_Y_wordAsName 52 = .ok (.iload 4, 2) := by decide +kernel
theorem d_Y_wordAsName_54 : decode b_Y_wordAsName 54 = .ok (.bipush 97, 2) := by decide +kernel
theorem d_Y_wordAsName_56 : decode b_Y_wordAsName 56 = .ok (.if_icmp .lt 10, 3) := by decide +kernel
theorem d_Y_wordAsName_59 : decode b_Y_wordAsName 59 = .ok (.iload 4, 2) := by decide +kernel
theorem d_Y_wordAsName_61 : decode b_Y_wordAsName 61 = .ok (.bipush 122, 2) := by decide +kernel
theorem d_Y_wordAsName_63 : decode b_Y_wordAsName 63 = .ok (.if_icmp .le 11, 3) := by decide +kernel
theorem d_Y_wordAsName_66 : decode b_Y_wordAsName 66 = .ok (.new 69, 3) := by decide +kernel
theorem d_Y_wordAsName_69 : decode b_Y_wordAsName 69 = .ok (.dup, 1) := by decide +kernel
theorem d_Y_wordAsName_70 : decode b_Y_wordAsName 70 = .ok (.invokespecial 71, 3) := by decide +kernel
theorem d_Y_wordAsName_73 : decode b_Y_wordAsName 73 = .ok (.athrow, 1) := by decide +kernel
theorem d_Y_wordAsName_74 : decode b_Y_wordAsName 74 = .ok (.iload_n 2, 1) := by decide +kernel
theorem d_Y_wordAsName_75 : decode b_Y_wordAsName 75 = .ok (.iconst 5, 1) := by decide +kernel
theorem d_Y_wordAsName_76 : decode b_Y_wordAsName 76 = .ok (.ishl, 1) := by decide +kernel
theorem d_Y_wordAsName_77 : decode b_Y_wordAsName 77 = .ok (.iload 4, 2) := by decide +kernel
theorem d_Y_wordAsName_79 : decode b_Y_wordAsName 79 = .ok (.bipush 97, 2) := by decide +kernel
theorem d_Y_wordAsName_81 : decode b_Y_wordAsName 81 = .ok (.isub, 1) := by decide +kernel
theorem d_Y_wordAsName_82 : decode b_Y_wordAsName 82 = .ok (.iconst 1, 1) := by decide +kernel
theorem d_Y_wordAsName_83 : decode b_Y_wordAsName 83 = .ok (.iadd, 1) := by decide +kernel
theorem d_Y_wordAsName_84 : decode b_Y_wordAsName 84 = .ok (.ior, 1) := by decide +kernel
theorem d_Y_wordAsName_85 : decode b_Y_wordAsName 85 = .ok (.istore_n 2, 1) := by decide +kernel
theorem d_Y_wordAsName_86 : decode b_Y_wordAsName 86 = .ok (.iinc 3 1, 3) := by decide +kernel
theorem d_Y_wordAsName_89 : decode b_Y_wordAsName 89 = .ok (.goto (-53), 3) := by decide +kernel
