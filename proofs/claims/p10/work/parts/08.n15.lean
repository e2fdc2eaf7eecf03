theorem d_M_gives_20 : decode b_M_gives 20 = .ok (.iload_n 1, 1) := by decide +kernel
theorem d_M_gives_21 : decode b_M_gives 21 = .ok (.imul, 1) := by decide +kernel
theorem d_M_gives_22 : decode b_M_gives 22 = .ok (.iload 4, 2) := by decide +kernel
theorem d_M_gives_24 : decode b_M_gives 24 = .ok (.iadd, 1) := by decide +kernel
theorem d_M_gives_25 : decode b_M_gives 25 = .ok (.iaload, 1) := by decide +kernel
theorem d_M_gives_26 : decode b_M_gives 26 = .ok (.bipush 14, 2) := by decide +kernel
theorem d_M_gives_28 : decode b_M_gives 28 = .ok (.if_icmp .ne 22, 3) := by decide +kernel
theorem d_M_gives_31 : decode b_M_gives 31 = .ok (.aload_n 0, 1) := by decide +kernel
theorem d_M_gives_32 : decode b_M_gives 32 = .ok (.getfield 47, 3) := by decide +kernel
theorem d_M_gives_35 : decode b_M_gives 35 = .ok (.bipush 16, 2) := by decide +kernel
theorem d_M_gives_37 : decode b_M_gives 37 = .ok (.iload_n 1, 1) := by decide +kernel
theorem d_M_gives_38 : decode b_M_gives 38 = .ok (.imul, 1) := by decide +kernel
theorem d_M_gives_39 : decode b_M_gives 39 = .ok (.iload 4, 2) := by decide +kernel
theorem d_M_gives_41 : decode b_M_gives 41 = .ok (.iadd, 1) := by decide +kernel
theorem d_M_gives_42 : decode b_M_gives 42 = .ok (.laload, 1) := by decide +kernel
theorem d_M_gives_43 : decode b_M_gives 43 = .ok (.lload_n 2, 1) := by decide +kernel
theorem d_M_gives_44 : decode b_M_gives 44 = .ok (.lcmp, 1) := by decide +kernel
theorem d_M_gives_45 : decode b_M_gives 45 = .ok (.ifCond .ne 5, 3) := by decide +kernel
theorem d_M_gives_48 : decode b_M_gives 48 = .ok (.iconst 1, 1) := by decide +kernel
theorem d_M_gives_49 : decode b_M_gives 49 = .ok (.ireturn, 1) := by decide +kernel
theorem d_M_gives_50 : decode b_M_gives 50 = .ok (.iinc 4 1, 3) := by decide +kernel
theorem d_M_gives_53 : decode b_M_gives 53 = .ok (.goto (-50), 3) := by decide +kernel
theorem d_M_gives_56 : decode b_M_gives 56 = .ok (.iconst 0, 1) := by decide +kernel
theorem d_M_gives_57 : decode b_M_gives 57 = .ok (.ireturn, 1) := by decide +kernel
theorem d_M_inBrackets_0 : decode b_M_inBrackets 0 = .ok (.aload_n 0, 1) := by decide +kernel
theorem d_M_inBrackets_1 : decode b_M_inBrackets 1 = .ok (.aload_n 0, 1) := by decide +kernel
theorem d_M_inBrackets_2 : decode b_M_inBrackets 2 = .ok (.ldc2_w 266, 3) := by decide +kernel
theorem d_M_inBrackets_5 : decode b_M_inBrackets 5 = .ok (.ldc2_w 268, 3) := by decide +kernel
theorem d_M_inBrackets_8 : decode b_M_inBrackets 8 = .ok (.invokevirtual 270, 3) := by decide +kernel
theorem d_M_inBrackets_11 : decode b_M_inBrackets 11 = .ok (.putfield 274, 3) := by decide +kernel
theorem d_M_inBrackets_14 : decode b_M_inBrackets 14 = .ok (.aload_n 0, 1) := by decide +kernel
theorem d_M_inBrackets_15 : decode b_M_inBrackets 15 = .ok (.aload_n 0, 1) := by decide +kernel
theorem d_M_inBrackets_16 : decode b_M_inBrackets 16 = .ok (.bipush 40, 2) := by decide +kernel
theorem d_M_inBrackets_18 : decode b_M_inBrackets 18 = .ok (.invokevirtual 248, 3) := by decide +kernel
theorem d_M_inBrackets_21 : decode b_M_inBrackets 21 = .ok (.invokevirtual 238, 3) := by decide +kernel
theorem d_M_inBrackets_24 : decode b_M_inBrackets 24 = .ok (.aload_n 0, 1) := by decide +kernel
theorem d_M_inBrackets_25 : decode b_M_inBrackets 25 = .ok (.getfield 217, 3) := by decide +kernel
theorem d_M_inBrackets_28 : decode b_M_inBrackets 28 = .ok (.ifCond .ne 11, 3) := by decide +kernel
theorem d_M_inBrackets_31 : decode b_M_inBrackets 31 = .ok (.aload_n 0, 1) := by decide +kernel
theorem d_M_inBrackets_32 : decode b_M_inBrackets 32 = .ok (.aload_n 0, 1) := by decide +kernel
theorem d_M_inBrackets_33 : decode b_M_inBrackets 33 = .ok (.invokevirtual 278, 3) := by decide +kernel
theorem d_M_inBrackets_36 : decode b_M_inBrackets 36 = .ok (.putfield 281, 3) := by decide +kernel
theorem d_M_inBrackets_39 : decode b_M_inBrackets 39 = .ok (.aload_n 0, 1) := by decide +kernel
theorem d_M_inBrackets_40 : decode b_M_inBrackets 40 = .ok (.aload_n 0, 1) := by decide +kernel
theorem d_M_inBrackets_41 : decode b_M_inBrackets 41 = .ok (.bipush 41, 2) := by decide +kernel
theorem d_M_inBrackets_43 : decode b_M_inBrackets 43 = .ok (.invokevirtual 248, 3) := by decide +kernel
theorem d_M_inBrackets_46 : decode b_M_inBrackets 46 = .ok (.invokevirtual 238, 3) := by decide +kernel
theorem d_M_inBrackets_49 : decode b_M_inBrackets 49 = .ok (.return_, 1) := by decide +kernel
theorem d_M_isDigit_0 : decode b_M_isDigit 0 = .ok (.iload_n 0, 1) := by decide +kernel
theorem d_M_isDigit_1 : decode b_M_isDigit 1 = .ok (.bipush 48, 2) := by decide +kernel
theorem d_M_isDigit_3 : decode b_M_isDigit 3 = .ok (.if_icmp .lt 13, 3) := by decide +kernel
theorem d_M_isDigit_6 : decode b_M_isDigit 6 = .ok (.iload_n 0, 1) := by decide +kernel
theorem d_M_isDigit_7 : decode b_M_isDigit 7 = .ok (.bipush 57, 2) := by decide +kernel
theorem d_M_isDigit_9 : decode b_M_isDigit 9 = .ok (.if_icmp .gt 7, 3) := by decide +kernel
theorem d_M_isDigit_12 : decode b_M_isDigit 12 = .ok (.iconst 1, 1) := by decide +kernel
theorem d_M_isDigit_13 : decode b_M_isDigit 13 = .ok (.goto 4, 3) := by decide +kernel
theorem d_M_isDigit_16 : decode b_M_isDigit 16 = .ok (.iconst 0, 1) := by decide +kernel
theorem d_M_isDigit_17 : decode b_M_isDigit 17 = .ok (.ireturn, 1) := by decide +kernel
theorem d_M_isLetter_0 : decode b_M_isLetter 0 = .ok (.iload_n 0, 1) := by decide +kernel
theorem d_M_isLetter_1 : decode b_M_isLetter 1 = .ok (.bipush 97, 2) := by decide +kernel
theorem d_M_isLetter_3 : decode b_M_isLetter 3 = .ok (.if_icmp .lt 13, 3) := by decide +kernel
theorem d_M_isLetter_6 : decode b_M_isLetter 6 = .ok (.iload_n 0, 1) := by decide +kernel
theorem d_M_isLetter_7 : decode b_M_isLetter 7 = .ok (.bipush 122, 2) := by decide +kernel
theorem d_M_isLetter_9 : decode b_M_isLetter 9 = .ok (.if_icmp .gt 7, 3) := by decide +kernel
theorem d_M_isLetter_12 : decode b_M_isLetter 12 = .ok (.iconst 1, 1) := by decide +kernel
theorem d_M_isLetter_13 : decode b_M_isLetter 13 = .ok (.goto 4, 3) := by decide +kernel
theorem d_M_isLetter_16 : decode b_M_isLetter 16 = .ok (.iconst 0, 1) := by decide +kernel
theorem d_M_isLetter_17 : decode b_M_isLetter 17 = .ok (.ireturn, 1) := by decide +kernel
theorem d_M_jump_0 : decode b_M_jump 0 = .ok (.bipush 111, 2) := by decide +kernel
theorem d_M_jump_2 : decode b_M_jump 2 = .ok (.iload_n 0, 1) := by decide +kernel
theorem d_M_jump_3 : decode b_M_jump 3 = .ok (.bipush 7, 2) := by decide +kernel
theorem d_M_jump_5 : decode b_M_jump 5 = .ok (.ishl, 1) := by decide +kernel
theorem d_M_jump_6 : decode b_M_jump 6 = .ok (.ior, 1) := by decide +kernel
theorem d_M_jump_7 : decode b_M_jump 7 = .ok (.iload_n 1, 1) := by decide +kernel
theorem d_M_jump_8 : decode b_M_jump 8 = .ok (.iconst 1, 1) := by decide +kernel
theorem d_M_jump_9 : decode b_M_jump 9 = .ok (.bipush 10, 2) := by decide +kernel
theorem d_M_jump_11 : decode b_M_jump 11 = .ok (.bipush 21, 2) := by decide +kernel
theorem d_M_jump_13 : decode b_M_jump 13 = .ok (.invokestatic 390, 3) := by decide +kernel
theorem d_M_jump_16 : decode b_M_jump 16 = .ok (.ior, 1) := by decide +kernel
theorem d_M_jump_17 : decode b_M_jump 17 = .ok (.iload_n 1, 1) := by decide +kernel
theorem d_M_jump_18 : decode b_M_jump 18 = .ok (.bipush 11, 2) := by decide +kernel
theorem d_M_jump_20 : decode b_M_jump 20 = .ok (.bipush 11, 2) := by decide +kernel
theorem d_M_jump_22 : decode b_M_jump 22 = .ok (.bipush 20, 2) := by decide +kernel
theorem d_M_jump_24 : decode b_M_jump 24 = .ok (.invokestatic 390, 3) := by decide +kernel
theorem d_M_jump_27 : decode b_M_jump 27 = .ok (.ior, 1) := by decide +kernel
theorem d_M_jump_28 : decode b_M_jump 28 = .ok (.iload_n 1, 1) := by decide +kernel
theorem d_M_jump_29 : decode b_M_jump 29 = .ok (.bipush 12, 2) := by decide +kernel
theorem d_M_jump_31 : decode b_M_jump 31 = .ok (.bipush 19, 2) := by decide +kernel
theorem d_M_jump_33 : decode b_M_jump 33 = .ok (.bipush 12, 2) := by decide +kernel
theorem d_M_jump_35 : decode b_M_jump 35 = .ok (.invokestatic 390, 3) := by decide +kernel
theorem d_M_jump_38 : decode b_M_jump 38 = .ok (.ior, 1) := by decide +kernel
theorem d_M_jump_39 : decode b_M_jump 39 = .ok (.iload_n 1, 1) := by decide +kernel
theorem d_M_jump_40 : decode b_M_jump 40 = .ok (.bipush 20, 2) := by decide +kernel
theorem d_M_jump_42 : decode b_M_jump 42 = .ok (.bipush 20, 2) := by decide +kernel
theorem d_M_jump_44 : decode b_M_jump 44 = .ok (.bipush 31, 2) := by decide +kernel
theorem d_M_jump_46 : decode b_M_jump 46 = .ok (.invokestatic 390, 3) := by decide +kernel
theorem d_M_jump_49 : decode b_M_jump 49 = .ok (.ior, 1) := by decide +kernel
theorem d_M_jump_50 : decode b_M_jump 50 = .ok (.ireturn, 1) := by decide +kernel
theorem d_M_layOut_0 : decode b_M_layOut 0 = .ok (.iconst 0, 1) := by decide +kernel
theorem d_M_layOut_1 : decode b_M_layOut 1 = .ok (.istore_n 1, 1) := by decide +kernel
theorem d_M_layOut_2 : decode b_M_layOut 2 = .ok (.iconst 0, 1) := by decide +kernel
theorem d_M_layOut_3 : decode b_M_layOut 3 = .ok (.istore_n 2, 1) := by decide +kernel
theorem d_M_layOut_4 : decode b_M_layOut 4 = .ok (.iload_n 2, 1) := by decide +kernel
theorem d_M_layOut_5 : decode b_M_layOut 5 = .ok (.iconst 2, 1) := by decide +kernel
theorem d_M_layOut_6 : decode b_M_layOut 6 = .ok (.if_icmp .ge 90, 3) := by decide +kernel
theorem d_M_layOut_9 : decode b_M_layOut 9 = .ok (.iload_n 1, 1) := by decide +kernel
theorem d_M_layOut_10 : decode b_M_layOut 10 = .ok (.iconst 3, 1) := by decide +kernel
theorem d_M_layOut_11 : decode b_M_layOut 11 = .ok (.iadd, 1) := by decide +kernel
theorem d_M_layOut_12 : decode b_M_layOut 12 = .ok (.iconst 4, 1) := by decide +kernel
theorem d_M_layOut_13 : decode b_M_layOut 13 = .ok (.idiv, 1) := by decide +kernel
theorem d_M_layOut_14 : decode b_M_layOut 14 = .ok (.iconst 4, 1) := by decide +kernel
theorem d_M_layOut_15 : decode b_M_layOut 15 = .ok (.imul, 1) := by decide +kernel
theorem d_M_layOut_16 : decode b_M_layOut 16 = .ok (.istore_n 1, 1) := by decide +kernel
theorem d_M_layOut_17 : decode b_M_layOut 17 = .ok (.iconst 0, 1) := by decide +kernel
theorem d_M_layOut_18 : decode b_M_layOut 18 = .ok (.istore_n 3, 1) := by decide +kernel
theorem d_M_layOut_19 : decode b_M_layOut 19 = .ok (.iload_n 3, 1) := by decide +kernel
theorem d_M_layOut_20 : decode b_M_layOut 20 = .ok (.aload_n 0, 1) := by decide +kernel
theorem d_M_layOut_21 : decode b_M_layOut 21 = .ok (.getfield 23, 3) := by decide +kernel
theorem d_M_layOut_24 : decode b_M_layOut 24 = .ok (.iload_n 2, 1) := by decide +kernel
theorem d_M_layOut_25 : decode b_M_layOut 25 = .ok (.iaload, 1) := by decide +kernel
theorem d_M_layOut_26 : decode b_M_layOut 26 = .ok (.if_icmp .ge 64, 3) := by decide +kernel
theorem d_M_layOut_29 : decode b_M_layOut 29 = .ok (.bipush 16, 2) := by decide +kernel
theorem d_M_layOut_31 : decode b_M_layOut 31 = .ok (.iload_n 2, 1) := by decide +kernel
theorem d_M_layOut_32 : decode b_M_layOut 32 = .ok (.imul, 1) := by decide +kernel
theorem d_M_layOut_33 : decode b_M_layOut 33 = .ok (.iload_n 3, 1) := by decide +kernel
theorem d_M_layOut_34 : decode b_M_layOut 34 = .ok (.iadd, 1) := by decide +kernel
theorem d_M_layOut_35 : decode b_M_layOut 35 = .ok (.istore 4, 2) := by decide +kernel
theorem d_M_layOut_37 : decode b_M_layOut 37 = .ok (.aload_n 0, 1) := by decide +kernel
theorem d_M_layOut_38 : decode b_M_layOut 38 = .ok (.getfield 26, 3) := by decide +kernel
theorem d_M_layOut_41 : decode b_M_layOut 41 = .ok (.iload 4, 2) := by decide +kernel
theorem d_M_layOut_43 : decode b_M_layOut 43 = .ok (.iaload, 1) := by decide +kernel
theorem d_M_layOut_44 : decode b_M_layOut 44 = .ok (.ifCond .le 23, 3) := by decide +kernel
theorem d_M_layOut_47 : decode b_M_layOut 47 = .ok (.aload_n 0, 1) := by decide +kernel
theorem d_M_layOut_48 : decode b_M_layOut 48 = .ok (.getfield 26, 3) := by decide +kernel
theorem d_M_layOut_51 : decode b_M_layOut 51 = .ok (.iload 4, 2) := by decide +kernel
theorem d_M_layOut_53 : decode b_M_layOut 53 = .ok (.iaload, 1) := by decide +kernel
theorem d_M_layOut_54 : decode b_M_layOut 54 = .ok (.bipush 11, 2) := by decide +kernel
theorem d_M_layOut_56 : decode b_M_layOut 56 = .ok (.if_icmp .ge 11, 3) := by decide +kernel
theorem d_M_layOut_59 : decode b_M_layOut 59 = .ok (.iload_n 1, 1) := by decide +kernel
theorem d_M_layOut_60 : decode b_M_layOut 60 = .ok (.iconst 3, 1) := by decide +kernel
theorem d_M_layOut_61 : decode b_M_layOut 61 = .ok (.iadd, 1) := by decide +kernel
theorem d_M_layOut_62 : decode b_M_layOut 62 = .ok (.iconst 4, 1) := by decide +kernel
theorem d_M_layOut_63 : decode b_M_layOut 63 = .ok (.idiv, 1) := by decide +kernel
theorem d_M_layOut_64 : decode b_M_layOut 64 = .ok (.iconst 4, 1) := by decide +kernel
theorem d_M_layOut_65 : decode b_M_layOut 65 = .ok (.imul, 1) := by decide +kernel
theorem d_M_layOut_66 : decode b_M_layOut 66 = .ok (.istore_n 1, 1) := by decide +kernel
theorem d_M_layOut_67 : decode b_M_layOut 67 = .ok (.aload_n 0, 1) := by decide +kernel
theorem d_M_layOut_68 : decode b_M_layOut 68 = .ok (.getfield 53, 3) := by decide +kernel
theorem d_M_layOut_71 : decode b_M_layOut 71 = .ok (.iload 4, 2) := by decide +kernel
theorem d_M_layOut_73 : decode b_M_layOut 73 = .ok (.iload_n 1, 1) := by decide +kernel
