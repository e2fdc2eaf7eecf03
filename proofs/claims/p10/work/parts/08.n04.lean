theorem d_O_mostNumber_84 : decode b_O_mostNumber 84 = .ok (.ldc2_w 198, 3) := by decide +kernel
theorem d_O_mostNumber_87 : decode b_O_mostNumber 87 = .ok (.lreturn, 1) := by decide +kernel
theorem d_O_putsInstruction_0 : decode b_O_putsInstruction 0 = .ok (.aload_n 0, 1) := by decide +kernel
theorem d_O_putsInstruction_1 : decode b_O_putsInstruction 1 = .ok (.getfield 173, 3) := by decide +kernel
theorem d_O_putsInstruction_4 : decode b_O_putsInstruction 4 = .ok (.iconst 1, 1) := by decide +kernel
theorem d_O_putsInstruction_5 : decode b_O_putsInstruction 5 = .ok (.if_icmp .lt 16, 3) := by decide +kernel
theorem d_O_putsInstruction_8 : decode b_O_putsInstruction 8 = .ok (.aload_n 0, 1) := by decide +kernel
theorem d_O_putsInstruction_9 : decode b_O_putsInstruction 9 = .ok (.getfield 173, 3) := by decide +kernel
theorem d_O_putsInstruction_12 : decode b_O_putsInstruction 12 = .ok (.bipush 9, 2) := by decide +kernel
theorem d_O_putsInstruction_14 : decode b_O_putsInstruction 14 = .ok (.if_icmp .gt 7, 3) := by decide +kernel
theorem d_O_putsInstruction_17 : decode b_O_putsInstruction 17 = .ok (.iconst 1, 1) := by decide +kernel
theorem d_O_putsInstruction_18 : decode b_O_putsInstruction 18 = .ok (.goto 4, 3) := by decide +kernel
theorem d_O_putsInstruction_21 : decode b_O_putsInstruction 21 = .ok (.iconst 0, 1) := by decide +kernel
theorem d_O_putsInstruction_22 : decode b_O_putsInstruction 22 = .ok (.ireturn, 1) := by decide +kernel
theorem d_S_gives_0 : decode b_S_gives 0 = .ok (.iconst 0, 1) := by decide +kernel
theorem d_S_gives_1 : decode b_S_gives 1 = .ok (.istore_n 2, 1) := by decide +kernel
theorem d_S_gives_2 : decode b_S_gives 2 = .ok (.iload_n 2, 1) := by decide +kernel
theorem d_S_gives_3 : decode b_S_gives 3 = .ok (.aload_n 0, 1) := by decide +kernel
theorem d_S_gives_4 : decode b_S_gives 4 = .ok (.getfield 12, 3) := by decide +kernel
theorem d_S_gives_7 : decode b_S_gives 7 = .ok (.invokevirtual 18, 3) := by decide +kernel
theorem d_S_gives_10 : decode b_S_gives 10 = .ok (.if_icmp .ge 51, 3) := by decide +kernel
theorem d_S_gives_13 : decode b_S_gives 13 = .ok (.aload_n 0, 1) := by decide +kernel
theorem d_S_gives_14 : decode b_S_gives 14 = .ok (.getfield 12, 3) := by decide +kernel
theorem d_S_gives_17 : decode b_S_gives 17 = .ok (.iload_n 2, 1) := by decide +kernel
theorem d_S_gives_18 : decode b_S_gives 18 = .ok (.invokevirtual 22, 3) := by decide +kernel
theorem d_S_gives_21 : decode b_S_gives 21 = .ok (.checkcast 26, 3) := by decide +kernel
theorem d_S_gives_24 : decode b_S_gives 24 = .ok (.getfield 32, 3) := by decide +kernel
theorem d_S_gives_27 : decode b_S_gives 27 = .ok (.getfield 36, 3) := by decide +kernel
theorem d_S_gives_30 : decode b_S_gives 30 = .ok (.bipush 13, 2) := by decide +kernel
theorem d_S_gives_32 : decode b_S_gives 32 = .ok (.if_icmp .ne 23, 3) := by decide +kernel
theorem d_S_gives_35 : decode b_S_gives 35 = .ok (.aload_n 0, 1) := by decide +kernel
theorem d_S_gives_36 : decode b_S_gives 36 = .ok (.getfield 12, 3) := by decide +kernel
theorem d_S_gives_39 : decode b_S_gives 39 = .ok (.iload_n 2, 1) := by decide +kernel
theorem d_S_gives_40 : decode b_S_gives 40 = .ok (.invokevirtual 22, 3) := by decide +kernel
theorem d_S_gives_43 : decode b_S_gives 43 = .ok (.checkcast 26, 3) := by decide +kernel
theorem d_S_gives_46 : decode b_S_gives 46 = .ok (.getfield 41, 3) := by decide +kernel
theorem d_S_gives_49 : decode b_S_gives 49 = .ok (.iload_n 1, 1) := by decide +kernel
theorem d_S_gives_50 : decode b_S_gives 50 = .ok (.if_icmp .ne 5, 3) := by decide +kernel
theorem d_S_gives_53 : decode b_S_gives 53 = .ok (.iconst 1, 1) := by decide +kernel
theorem d_S_gives_54 : decode b_S_gives 54 = .ok (.ireturn, 1) := by decide +kernel
theorem d_S_gives_55 : decode b_S_gives 55 = .ok (.iinc 2 1, 3) := by decide +kernel
theorem d_S_gives_58 : decode b_S_gives 58 = .ok (.goto (-56), 3) := by decide +kernel
theorem d_S_gives_61 : decode b_S_gives 61 = .ok (.iconst 0, 1) := by decide +kernel
theorem d_S_gives_62 : decode b_S_gives 62 = .ok (.ireturn, 1) := by decide +kernel
theorem d_S_labelled_0 : decode b_S_labelled 0 = .ok (.iconst 0, 1) := by decide +kernel
theorem d_S_labelled_1 : decode b_S_labelled 1 = .ok (.istore_n 2, 1) := by decide +kernel
theorem d_S_labelled_2 : decode b_S_labelled 2 = .ok (.iload_n 2, 1) := by decide +kernel
theorem d_S_labelled_3 : decode b_S_labelled 3 = .ok (.aload_n 0, 1) := by decide +kernel
theorem d_S_labelled_4 : decode b_S_labelled 4 = .ok (.getfield 12, 3) := by decide +kernel
theorem d_S_labelled_7 : decode b_S_labelled 7 = .ok (.invokevirtual 18, 3) := by decide +kernel
theorem d_S_labelled_10 : decode b_S_labelled 10 = .ok (.if_icmp .ge 29, 3) := by decide +kernel
theorem d_S_labelled_13 : decode b_S_labelled 13 = .ok (.aload_n 0, 1) := by decide +kernel
theorem d_S_labelled_14 : decode b_S_labelled 14 = .ok (.getfield 12, 3) := by decide +kernel
theorem d_S_labelled_17 : decode b_S_labelled 17 = .ok (.iload_n 2, 1) := by decide +kernel
theorem d_S_labelled_18 : decode b_S_labelled 18 = .ok (.invokevirtual 22, 3) := by decide +kernel
theorem d_S_labelled_21 : decode b_S_labelled 21 = .ok (.checkcast 26, 3) := by decide +kernel
theorem d_S_labelled_24 : decode b_S_labelled 24 = .ok (.getfield 28, 3) := by decide +kernel
theorem d_S_labelled_27 : decode b_S_labelled 27 = .ok (.iload_n 1, 1) := by decide +kernel
theorem d_S_labelled_28 : decode b_S_labelled 28 = .ok (.if_icmp .ne 5, 3) := by decide +kernel
theorem d_S_labelled_31 : decode b_S_labelled 31 = .ok (.iload_n 2, 1) := by decide +kernel
theorem d_S_labelled_32 : decode b_S_labelled 32 = .ok (.ireturn, 1) := by decide +kernel
theorem d_S_labelled_33 : decode b_S_labelled 33 = .ok (.iinc 2 1, 3) := by decide +kernel
theorem d_S_labelled_36 : decode b_S_labelled 36 = .ok (.goto (-34), 3) := by decide +kernel
theorem d_S_labelled_39 : decode b_S_labelled 39 = .ok (.iconst (-1), 1) := by decide +kernel
theorem d_S_labelled_40 : decode b_S_labelled 40 = .ok (.ireturn, 1) := by decide +kernel
theorem d_S_row_0 : decode b_S_row 0 = .ok (.aload_n 0, 1) := by decide +kernel
theorem d_S_row_1 : decode b_S_row 1 = .ok (.getfield 12, 3) := by decide +kernel
theorem d_S_row_4 : decode b_S_row 4 = .ok (.iload_n 1, 1) := by decide +kernel
theorem d_S_row_5 : decode b_S_row 5 = .ok (.invokevirtual 22, 3) := by decide +kernel
theorem d_S_row_8 : decode b_S_row 8 = .ok (.checkcast 26, 3) := by decide +kernel
theorem d_S_row_11 : decode b_S_row 11 = .ok (.areturn, 1) := by decide +kernel
theorem d_Y_digitOf_0 : decode b_Y_digitOf 0 = .ok (.iload_n 0, 1) := by decide +kernel
theorem d_Y_digitOf_1 : decode b_Y_digitOf 1 = .ok (.bipush 48, 2) := by decide +kernel
theorem d_Y_digitOf_3 : decode b_Y_digitOf 3 = .ok (.if_icmp .lt 14, 3) := by decide +kernel
theorem d_Y_digitOf_6 : decode b_Y_digitOf 6 = .ok (.iload_n 0, 1) := by decide +kernel
theorem d_Y_digitOf_7 : decode b_Y_digitOf 7 = .ok (.bipush 57, 2) := by decide +kernel
theorem d_Y_digitOf_9 : decode b_Y_digitOf 9 = .ok (.if_icmp .gt 8, 3) := by decide +kernel
theorem d_Y_digitOf_12 : decode b_Y_digitOf 12 = .ok (.iload_n 0, 1) := by decide +kernel
theorem d_Y_digitOf_13 : decode b_Y_digitOf 13 = .ok (.bipush 48, 2) := by decide +kernel
theorem d_Y_digitOf_15 : decode b_Y_digitOf 15 = .ok (.isub, 1) := by decide +kernel
theorem d_Y_digitOf_16 : decode b_Y_digitOf 16 = .ok (.ireturn, 1) := by decide +kernel
theorem d_Y_digitOf_17 : decode b_Y_digitOf 17 = .ok (.iload_n 0, 1) := by decide +kernel
theorem d_Y_digitOf_18 : decode b_Y_digitOf 18 = .ok (.bipush 97, 2) := by decide +kernel
theorem d_Y_digitOf_20 : decode b_Y_digitOf 20 = .ok (.if_icmp .lt 19, 3) := by decide +kernel
theorem d_Y_digitOf_23 : decode b_Y_digitOf 23 = .ok (.iload_n 0, 1) := by decide +kernel
theorem d_Y_digitOf_24 : decode b_Y_digitOf 24 = .ok (.bipush 102, 2) := by decide +kernel
theorem d_Y_digitOf_26 : decode b_Y_digitOf 26 = .ok (.if_icmp .gt 13, 3) := by decide +kernel
theorem d_Y_digitOf_29 : decode b_Y_digitOf 29 = .ok (.iload_n 0, 1) := by decide +kernel
theorem d_Y_digitOf_30 : decode b_Y_digitOf 30 = .ok (.bipush 97, 2) := by decide +kernel
theorem d_Y_digitOf_32 : decode b_Y_digitOf 32 = .ok (.isub, 1) := by decide +kernel
theorem d_Y_digitOf_33 : decode b_Y_digitOf 33 = .ok (.bipush 10, 2) := by decide +kernel
theorem d_Y_digitOf_35 : decode b_Y_digitOf 35 = .ok (.iadd, 1) := by decide +kernel
theorem d_Y_digitOf_36 : decode b_Y_digitOf 36 = .ok (.goto 4, 3) := by decide +kernel
theorem d_Y_digitOf_39 : decode b_Y_digitOf 39 = .ok (.iconst (-1), 1) := by decide +kernel
theorem d_Y_digitOf_40 : decode b_Y_digitOf 40 = .ok (.ireturn, 1) := by decide +kernel
theorem d_Y_digitsFrom_0 : decode b_Y_digitsFrom 0 = .ok (.aload_n 0, 1) := by decide +kernel
theorem d_Y_digitsFrom_1 : decode b_Y_digitsFrom 1 = .ok (.getfield 121, 3) := by decide +kernel
theorem d_Y_digitsFrom_4 : decode b_Y_digitsFrom 4 = .ok (.iload_n 1, 1) := by decide +kernel
theorem d_Y_digitsFrom_5 : decode b_Y_digitsFrom 5 = .ok (.isub, 1) := by decide +kernel
theorem d_Y_digitsFrom_6 : decode b_Y_digitsFrom 6 = .ok (.iconst 1, 1) := by decide +kernel
theorem d_Y_digitsFrom_7 : decode b_Y_digitsFrom 7 = .ok (.if_icmp .lt 13, 3) := by decide +kernel
theorem d_Y_digitsFrom_10 : decode b_Y_digitsFrom 10 = .ok (.aload_n 0, 1) := by decide +kernel
theorem d_Y_digitsFrom_11 : decode b_Y_digitsFrom 11 = .ok (.getfield 121, 3) := by decide +kernel
theorem d_Y_digitsFrom_14 : decode b_Y_digitsFrom 14 = .ok (.iload_n 1, 1) := by decide +kernel
theorem d_Y_digitsFrom_15 : decode b_Y_digitsFrom 15 = .ok (.isub, 1) := by decide +kernel
theorem d_Y_digitsFrom_16 : decode b_Y_digitsFrom 16 = .ok (.iload_n 3, 1) := by decide +kernel
theorem d_Y_digitsFrom_17 : decode b_Y_digitsFrom 17 = .ok (.if_icmp .le 11, 3) := by decide +kernel
theorem d_Y_digitsFrom_20 : decode b_Y_digitsFrom 20 = .ok (.new 69, 3) := by decide +kernel
theorem d_Y_digitsFrom_23 : decode b_Y_digitsFrom 23 = .ok (.dup, 1) := by decide +kernel
theorem d_Y_digitsFrom_24 : decode b_Y_digitsFrom 24 = .ok (.invokespecial 71, 3) := by decide +kernel
theorem d_Y_digitsFrom_27 : decode b_Y_digitsFrom 27 = .ok (.athrow, 1) := by decide +kernel
theorem d_Y_digitsFrom_28 : decode b_Y_digitsFrom 28 = .ok (.lconst 0, 1) := by decide +kernel
theorem d_Y_digitsFrom_29 : decode b_Y_digitsFrom 29 = .ok (.lstore 4, 2) := by decide +kernel
theorem d_Y_digitsFrom_31 : decode b_Y_digitsFrom 31 = .ok (.iload_n 1, 1) := by decide +kernel
theorem d_Y_digitsFrom_32 : decode b_Y_digitsFrom 32 = .ok (.istore 6, 2) := by decide +kernel
theorem d_Y_digitsFrom_34 : decode b_Y_digitsFrom 34 = .ok (.iload 6, 2) := by decide +kernel
theorem d_Y_digitsFrom_36 : decode b_Y_digitsFrom 36 = .ok (.aload_n 0, 1) := by decide +kernel
theorem d_Y_digitsFrom_37 : decode b_Y_digitsFrom 37 = .ok (.getfield 121, 3) := by decide +kernel
theorem d_Y_digitsFrom_40 : decode b_Y_digitsFrom 40 = .ok (.if_icmp .ge 51, 3) := by decide +kernel
theorem d_Y_digitsFrom_43 : decode b_Y_digitsFrom 43 = .ok (.aload_n 0, 1) := by decide +kernel
theorem d_Y_digitsFrom_44 : decode b_Y_digitsFrom 44 = .ok (.getfield 9, 3) := by decide +kernel
theorem d_Y_digitsFrom_47 : decode b_Y_digitsFrom 47 = .ok (.iload 6, 2) := by decide +kernel
theorem d_Y_digitsFrom_49 : decode b_Y_digitsFrom 49 = .ok (.caload, 1) := by decide +kernel
theorem d_Y_digitsFrom_50 : decode b_Y_digitsFrom 50 = .ok (.invokestatic 149, 3) := by decide +kernel
theorem d_Y_digitsFrom_53 : decode b_Y_digitsFrom 53 = .ok (.istore 7, 2) := by decide +kernel
theorem d_Y_digitsFrom_55 : decode b_Y_digitsFrom 55 = .ok (.iload 7, 2) := by decide +kernel
theorem d_Y_digitsFrom_57 : decode b_Y_digitsFrom 57 = .ok (.ifCond .lt 9, 3) := by decide +kernel
theorem d_Y_digitsFrom_60 : decode b_Y_digitsFrom 60 = .ok (.iload 7, 2) := by decide +kernel
theorem d_Y_digitsFrom_62 : decode b_Y_digitsFrom 62 = .ok (.iload_n 2, 1) := by decide +kernel
theorem d_Y_digitsFrom_63 : decode b_Y_digitsFrom 63 = .ok (.if_icmp .lt 11, 3) := by decide +kernel
theorem d_Y_digitsFrom_66 : decode b_Y_digitsFrom 66 = .ok (.new 69, 3) := by decide +kernel
theorem d_Y_digitsFrom_69 : decode b_Y_digitsFrom 69 = .ok (.dup, 1) := by decide +kernel
theorem d_Y_digitsFrom_70 : decode b_Y_digitsFrom 70 = .ok (.invokespecial 71, 3) := by decide +kernel
theorem d_Y_digitsFrom_73 : decode b_Y_digitsFrom 73 = .ok (.athrow, 1) := by decide +kernel
theorem d_Y_digitsFrom_74 : decode b_Y_digitsFrom 74 = .ok (.lload 4, 2) := by decide +kernel
theorem d_Y_digitsFrom_76 : decode b_Y_digitsFrom 76 = .ok (.iload_n 2, 1) := by decide +kernel
theorem d_Y_digitsFrom_77 : decode b_Y_digitsFrom 77 = .ok (.i2l, 1) := by decide +kernel
theorem d_Y_digitsFrom_78 : decode b_Y_digitsFrom 78 = .ok (.lmul, 1) := by decide +kernel
theorem d_Y_digitsFrom_79 : decode b_Y_digitsFrom 79 = .ok (.iload 7, 2) := by decide +kernel
theorem d_Y_digitsFrom_81 : decode b_Y_digitsFrom 81 = .ok (.i2l, 1) := by decide +kernel
theorem d_Y_digitsFrom_82 : decode b_Y_digitsFrom 82 = .ok (.ladd, 1) := by decide +kernel
theorem d_Y_digitsFrom_83 : decode b_Y_digitsFrom 83 = .ok (.lstore 4, 2) := by decide +kernel
theorem d_Y_digitsFrom_85 : decode b_Y_digitsFrom 85 = .ok (.iinc 6 1, 3) := by decide +kernel
theorem d_Y_digitsFrom_88 : decode b_Y_digitsFrom 88 = .ok (.goto (-54), 3) := by decide +kernel
theorem d_Y_digitsFrom_91 : decode b_Y_digitsFrom 91 = .ok (.lload 4, 2) := by decide +kernel
theorem d_Y_digitsFrom_93 : decode b_Y_digitsFrom 93 = .ok (.lreturn, 1) := by decide +kernel
theorem d_Y_isOfWord_0 : decode b_Y_isOfWord 0 = .ok (.iload_n 0, 1) := by decide +kernel
theorem d_Y_isOfWord_1 : decode b_Y_isOfWord 1 = .ok (.bipush 32, 2) := by decide +kernel
theorem d_Y_isOfWord_3 : decode b_Y_isOfWord 3 = .ok (.if_icmp .eq 37, 3) := by decide +kernel
theorem d_Y_isOfWord_6 : decode b_Y_isOfWord 6 = .ok (.iload_n 0, 1) := by decide +kernel
