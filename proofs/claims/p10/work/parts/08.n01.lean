theorem d_T_addressOf_0 : decode b_T_addressOf 0 = .ok (.aload_n 0, 1) := by decide +kernel
theorem d_T_addressOf_1 : decode b_T_addressOf 1 = .ok (.getfield 19, 3) := by decide +kernel
theorem d_T_addressOf_4 : decode b_T_addressOf 4 = .ok (.iload_n 1, 1) := by decide +kernel
theorem d_T_addressOf_5 : decode b_T_addressOf 5 = .ok (.aaload, 1) := by decide +kernel
theorem d_T_addressOf_6 : decode b_T_addressOf 6 = .ok (.astore_n 3, 1) := by decide +kernel
theorem d_T_addressOf_7 : decode b_T_addressOf 7 = .ok (.aload_n 3, 1) := by decide +kernel
theorem d_T_addressOf_8 : decode b_T_addressOf 8 = .ok (.iload_n 2, 1) := by decide +kernel
theorem d_T_addressOf_9 : decode b_T_addressOf 9 = .ok (.invokevirtual 74, 3) := by decide +kernel
theorem d_T_addressOf_12 : decode b_T_addressOf 12 = .ok (.istore 4, 2) := by decide +kernel
theorem d_T_addressOf_14 : decode b_T_addressOf 14 = .ok (.iload 4, 2) := by decide +kernel
theorem d_T_addressOf_16 : decode b_T_addressOf 16 = .ok (.iconst (-1), 1) := by decide +kernel
theorem d_T_addressOf_17 : decode b_T_addressOf 17 = .ok (.if_icmp .eq 13, 3) := by decide +kernel
theorem d_T_addressOf_20 : decode b_T_addressOf 20 = .ok (.aload_n 3, 1) := by decide +kernel
theorem d_T_addressOf_21 : decode b_T_addressOf 21 = .ok (.iload 4, 2) := by decide +kernel
theorem d_T_addressOf_23 : decode b_T_addressOf 23 = .ok (.invokevirtual 108, 3) := by decide +kernel
theorem d_T_addressOf_26 : decode b_T_addressOf 26 = .ok (.getfield 118, 3) := by decide +kernel
theorem d_T_addressOf_29 : decode b_T_addressOf 29 = .ok (.ireturn, 1) := by decide +kernel
theorem d_T_addressOf_30 : decode b_T_addressOf 30 = .ok (.aload_n 0, 1) := by decide +kernel
theorem d_T_addressOf_31 : decode b_T_addressOf 31 = .ok (.getfield 19, 3) := by decide +kernel
theorem d_T_addressOf_34 : decode b_T_addressOf 34 = .ok (.iconst 1, 1) := by decide +kernel
theorem d_T_addressOf_35 : decode b_T_addressOf 35 = .ok (.iload_n 1, 1) := by decide +kernel
theorem d_T_addressOf_36 : decode b_T_addressOf 36 = .ok (.isub, 1) := by decide +kernel
theorem d_T_addressOf_37 : decode b_T_addressOf 37 = .ok (.aaload, 1) := by decide +kernel
theorem d_T_addressOf_38 : decode b_T_addressOf 38 = .ok (.astore 5, 2) := by decide +kernel
theorem d_T_addressOf_40 : decode b_T_addressOf 40 = .ok (.aload 5, 2) := by decide +kernel
theorem d_T_addressOf_42 : decode b_T_addressOf 42 = .ok (.iload_n 2, 1) := by decide +kernel
theorem d_T_addressOf_43 : decode b_T_addressOf 43 = .ok (.invokevirtual 74, 3) := by decide +kernel
theorem d_T_addressOf_46 : decode b_T_addressOf 46 = .ok (.istore 4, 2) := by decide +kernel
theorem d_T_addressOf_48 : decode b_T_addressOf 48 = .ok (.iload 4, 2) := by decide +kernel
theorem d_T_addressOf_50 : decode b_T_addressOf 50 = .ok (.iconst (-1), 1) := by decide +kernel
theorem d_T_addressOf_51 : decode b_T_addressOf 51 = .ok (.if_icmp .eq 23, 3) := by decide +kernel
theorem d_T_addressOf_54 : decode b_T_addressOf 54 = .ok (.aload 5, 2) := by decide +kernel
theorem d_T_addressOf_56 : decode b_T_addressOf 56 = .ok (.iload_n 2, 1) := by decide +kernel
theorem d_T_addressOf_57 : decode b_T_addressOf 57 = .ok (.invokevirtual 194, 3) := by decide +kernel
theorem d_T_addressOf_60 : decode b_T_addressOf 60 = .ok (.ifCond .eq 14, 3) := by decide +kernel
theorem d_T_addressOf_63 : decode b_T_addressOf 63 = .ok (.aload 5, 2) := by decide +kernel
theorem d_T_addressOf_65 : decode b_T_addressOf 65 = .ok (.iload 4, 2) := by decide +kernel
theorem d_T_addressOf_67 : decode b_T_addressOf 67 = .ok (.invokevirtual 108, 3) := by decide +kernel
theorem d_T_addressOf_70 : decode b_T_addressOf 70 = .ok (.getfield 118, 3) := by decide +kernel
theorem d_T_addressOf_73 : decode b_T_addressOf 73 = .ok (.ireturn, 1) := by decide +kernel
theorem d_T_addressOf_74 : decode b_T_addressOf 74 = .ok (.iconst (-1), 1) := by decide +kernel
theorem d_T_addressOf_75 : decode b_T_addressOf 75 = .ok (.ireturn, 1) := by decide +kernel
theorem d_T_reaches_0 : decode b_T_reaches 0 = .ok (.iload_n 0, 1) := by decide +kernel
theorem d_T_reaches_1 : decode b_T_reaches 1 = .ok (.sipush (-4096), 3) := by decide +kernel
theorem d_T_reaches_4 : decode b_T_reaches 4 = .ok (.if_icmp .lt 14, 3) := by decide +kernel
theorem d_T_reaches_7 : decode b_T_reaches 7 = .ok (.iload_n 0, 1) := by decide +kernel
theorem d_T_reaches_8 : decode b_T_reaches 8 = .ok (.sipush 4094, 3) := by decide +kernel
theorem d_T_reaches_11 : decode b_T_reaches 11 = .ok (.if_icmp .gt 7, 3) := by decide +kernel
theorem d_T_reaches_14 : decode b_T_reaches 14 = .ok (.iconst 1, 1) := by decide +kernel
theorem d_T_reaches_15 : decode b_T_reaches 15 = .ok (.goto 4, 3) := by decide +kernel
theorem d_T_reaches_18 : decode b_T_reaches 18 = .ok (.iconst 0, 1) := by decide +kernel
theorem d_T_reaches_19 : decode b_T_reaches 19 = .ok (.ireturn, 1) := by decide +kernel
theorem d_T_requireName_0 : decode b_T_requireName 0 = .ok (.aload_n 2, 1) := by decide +kernel
theorem d_T_requireName_1 : decode b_T_requireName 1 = .ok (.getfield 178, 3) := by decide +kernel
theorem d_T_requireName_4 : decode b_T_requireName 4 = .ok (.getfield 181, 3) := by decide +kernel
theorem d_T_requireName_7 : decode b_T_requireName 7 = .ok (.bipush 13, 2) := by decide +kernel
theorem d_T_requireName_9 : decode b_T_requireName 9 = .ok (.if_icmp .ne 28, 3) := by decide +kernel
theorem d_T_requireName_12 : decode b_T_requireName 12 = .ok (.aload_n 0, 1) := by decide +kernel
theorem d_T_requireName_13 : decode b_T_requireName 13 = .ok (.getfield 19, 3) := by decide +kernel
theorem d_T_requireName_16 : decode b_T_requireName 16 = .ok (.iload_n 1, 1) := by decide +kernel
theorem d_T_requireName_17 : decode b_T_requireName 17 = .ok (.aaload, 1) := by decide +kernel
theorem d_T_requireName_18 : decode b_T_requireName 18 = .ok (.aload_n 2, 1) := by decide +kernel
theorem d_T_requireName_19 : decode b_T_requireName 19 = .ok (.getfield 184, 3) := by decide +kernel
theorem d_T_requireName_22 : decode b_T_requireName 22 = .ok (.invokevirtual 74, 3) := by decide +kernel
theorem d_T_requireName_25 : decode b_T_requireName 25 = .ok (.iconst (-1), 1) := by decide +kernel
theorem d_T_requireName_26 : decode b_T_requireName 26 = .ok (.if_icmp .ne 39, 3) := by decide +kernel
theorem d_T_requireName_29 : decode b_T_requireName 29 = .ok (.new 48, 3) := by decide +kernel
theorem d_T_requireName_32 : decode b_T_requireName 32 = .ok (.dup, 1) := by decide +kernel
theorem d_T_requireName_33 : decode b_T_requireName 33 = .ok (.invokespecial 50, 3) := by decide +kernel
theorem d_T_requireName_36 : decode b_T_requireName 36 = .ok (.athrow, 1) := by decide +kernel
theorem d_T_requireName_37 : decode b_T_requireName 37 = .ok (.aload_n 2, 1) := by decide +kernel
theorem d_T_requireName_38 : decode b_T_requireName 38 = .ok (.getfield 184, 3) := by decide +kernel
theorem d_T_requireName_41 : decode b_T_requireName 41 = .ok (.ifCond .eq 24, 3) := by decide +kernel
theorem d_T_requireName_44 : decode b_T_requireName 44 = .ok (.aload_n 0, 1) := by decide +kernel
theorem d_T_requireName_45 : decode b_T_requireName 45 = .ok (.iload_n 1, 1) := by decide +kernel
theorem d_T_requireName_46 : decode b_T_requireName 46 = .ok (.aload_n 2, 1) := by decide +kernel
theorem d_T_requireName_47 : decode b_T_requireName 47 = .ok (.getfield 184, 3) := by decide +kernel
theorem d_T_requireName_50 : decode b_T_requireName 50 = .ok (.invokevirtual 187, 3) := by decide +kernel
theorem d_T_requireName_53 : decode b_T_requireName 53 = .ok (.iconst (-1), 1) := by decide +kernel
theorem d_T_requireName_54 : decode b_T_requireName 54 = .ok (.if_icmp .ne 11, 3) := by decide +kernel
theorem d_T_requireName_57 : decode b_T_requireName 57 = .ok (.new 191, 3) := by decide +kernel
theorem d_T_requireName_60 : decode b_T_requireName 60 = .ok (.dup, 1) := by decide +kernel
theorem d_T_requireName_61 : decode b_T_requireName 61 = .ok (.invokespecial 193, 3) := by decide +kernel
theorem d_T_requireName_64 : decode b_T_requireName 64 = .ok (.athrow, 1) := by decide +kernel
theorem d_T_requireName_65 : decode b_T_requireName 65 = .ok (.return_, 1) := by decide +kernel
theorem d_T_wayOf_0 : decode b_T_wayOf 0 = .ok (.aload_n 0, 1) := by decide +kernel
theorem d_T_wayOf_1 : decode b_T_wayOf 1 = .ok (.iload_n 1, 1) := by decide +kernel
theorem d_T_wayOf_2 : decode b_T_wayOf 2 = .ok (.aload_n 2, 1) := by decide +kernel
theorem d_T_wayOf_3 : decode b_T_wayOf 3 = .ok (.getfield 184, 3) := by decide +kernel
theorem d_T_wayOf_6 : decode b_T_wayOf 6 = .ok (.invokevirtual 187, 3) := by decide +kernel
theorem d_T_wayOf_9 : decode b_T_wayOf 9 = .ok (.aload_n 2, 1) := by decide +kernel
theorem d_T_wayOf_10 : decode b_T_wayOf 10 = .ok (.getfield 118, 3) := by decide +kernel
theorem d_T_wayOf_13 : decode b_T_wayOf 13 = .ok (.isub, 1) := by decide +kernel
theorem d_T_wayOf_14 : decode b_T_wayOf 14 = .ok (.ireturn, 1) := by decide +kernel
theorem d_C_fitsImmediate_0 : decode b_C_fitsImmediate 0 = .ok (.lload_n 0, 1) := by decide +kernel
theorem d_C_fitsImmediate_1 : decode b_C_fitsImmediate 1 = .ok (.ldc2_w 42, 3) := by decide +kernel
theorem d_C_fitsImmediate_4 : decode b_C_fitsImmediate 4 = .ok (.lcmp, 1) := by decide +kernel
theorem d_C_fitsImmediate_5 : decode b_C_fitsImmediate 5 = .ok (.ifCond .lt 15, 3) := by decide +kernel
theorem d_C_fitsImmediate_8 : decode b_C_fitsImmediate 8 = .ok (.lload_n 0, 1) := by decide +kernel
theorem d_C_fitsImmediate_9 : decode b_C_fitsImmediate 9 = .ok (.ldc2_w 44, 3) := by decide +kernel
theorem d_C_fitsImmediate_12 : decode b_C_fitsImmediate 12 = .ok (.lcmp, 1) := by decide +kernel
theorem d_C_fitsImmediate_13 : decode b_C_fitsImmediate 13 = .ok (.ifCond .gt 7, 3) := by decide +kernel
theorem d_C_fitsImmediate_16 : decode b_C_fitsImmediate 16 = .ok (.iconst 1, 1) := by decide +kernel
theorem d_C_fitsImmediate_17 : decode b_C_fitsImmediate 17 = .ok (.goto 4, 3) := by decide +kernel
theorem d_C_fitsImmediate_20 : decode b_C_fitsImmediate 20 = .ok (.iconst 0, 1) := by decide +kernel
theorem d_C_fitsImmediate_21 : decode b_C_fitsImmediate 21 = .ok (.ireturn, 1) := by decide +kernel
theorem d_C_highPart_0 : decode b_C_highPart 0 = .ok (.iload_n 0, 1) := by decide +kernel
theorem d_C_highPart_1 : decode b_C_highPart 1 = .ok (.iload_n 0, 1) := by decide +kernel
theorem d_C_highPart_2 : decode b_C_highPart 2 = .ok (.invokestatic 46, 3) := by decide +kernel
theorem d_C_highPart_5 : decode b_C_highPart 5 = .ok (.isub, 1) := by decide +kernel
theorem d_C_highPart_6 : decode b_C_highPart 6 = .ok (.bipush 12, 2) := by decide +kernel
theorem d_C_highPart_8 : decode b_C_highPart 8 = .ok (.iushr, 1) := by decide +kernel
theorem d_C_highPart_9 : decode b_C_highPart 9 = .ok (.ireturn, 1) := by decide +kernel
theorem d_C_instruction_0 : decode b_C_instruction 0 = .ok (.aload_n 0, 1) := by decide +kernel
theorem d_C_instruction_1 : decode b_C_instruction 1 = .ok (.getfield 9, 3) := by decide +kernel
theorem d_C_instruction_4 : decode b_C_instruction 4 = .ok (.iload_n 1, 1) := by decide +kernel
theorem d_C_instruction_5 : decode b_C_instruction 5 = .ok (.bipush 7, 2) := by decide +kernel
theorem d_C_instruction_7 : decode b_C_instruction 7 = .ok (.ishl, 1) := by decide +kernel
theorem d_C_instruction_8 : decode b_C_instruction 8 = .ok (.ior, 1) := by decide +kernel
theorem d_C_instruction_9 : decode b_C_instruction 9 = .ok (.iload_n 2, 1) := by decide +kernel
theorem d_C_instruction_10 : decode b_C_instruction 10 = .ok (.bipush 15, 2) := by decide +kernel
theorem d_C_instruction_12 : decode b_C_instruction 12 = .ok (.ishl, 1) := by decide +kernel
theorem d_C_instruction_13 : decode b_C_instruction 13 = .ok (.ior, 1) := by decide +kernel
theorem d_C_instruction_14 : decode b_C_instruction 14 = .ok (.iload_n 3, 1) := by decide +kernel
theorem d_C_instruction_15 : decode b_C_instruction 15 = .ok (.bipush 20, 2) := by decide +kernel
theorem d_C_instruction_17 : decode b_C_instruction 17 = .ok (.ishl, 1) := by decide +kernel
theorem d_C_instruction_18 : decode b_C_instruction 18 = .ok (.ior, 1) := by decide +kernel
theorem d_C_instruction_19 : decode b_C_instruction 19 = .ok (.aload_n 0, 1) := by decide +kernel
theorem d_C_instruction_20 : decode b_C_instruction 20 = .ok (.getfield 15, 3) := by decide +kernel
theorem d_C_instruction_23 : decode b_C_instruction 23 = .ok (.iload 4, 2) := by decide +kernel
theorem d_C_instruction_25 : decode b_C_instruction 25 = .ok (.invokestatic 18, 3) := by decide +kernel
theorem d_C_instruction_28 : decode b_C_instruction 28 = .ok (.ior, 1) := by decide +kernel
theorem d_C_instruction_29 : decode b_C_instruction 29 = .ok (.ireturn, 1) := by decide +kernel
theorem d_C_lowPart_0 : decode b_C_lowPart 0 = .ok (.iload_n 0, 1) := by decide +kernel
theorem d_C_lowPart_1 : decode b_C_lowPart 1 = .ok (.bipush 20, 2) := by decide +kernel
theorem d_C_lowPart_3 : decode b_C_lowPart 3 = .ok (.ishl, 1) := by decide +kernel
theorem d_C_lowPart_4 : decode b_C_lowPart 4 = .ok (.bipush 20, 2) := by decide +kernel
theorem d_C_lowPart_6 : decode b_C_lowPart 6 = .ok (.ishr, 1) := by decide +kernel
theorem d_C_lowPart_7 : decode b_C_lowPart 7 = .ok (.ireturn, 1) := by decide +kernel
theorem d_C_numberBits_0 : decode b_C_numberBits 0 = .ok (.iload_n 0, 1) := by decide +kernel
theorem d_C_numberBits_1 : decode b_C_numberBits 1 = .ok (.tableswitch 158 2 7 #[39, 39, 44, 49, 70, 113], 39) := by decide +kernel
theorem d_C_numberBits_40 : decode b_C_numberBits 40 = .ok (.iload_n 1, 1) := by decide +kernel
theorem d_C_numberBits_41 : decode b_C_numberBits 41 = .ok (.bipush 20, 2) := by decide +kernel
theorem d_C_numberBits_43 : decode b_C_numberBits 43 = .ok (.ishl, 1) := by decide +kernel
theorem d_C_numberBits_44 : decode b_C_numberBits 44 = .ok (.ireturn, 1) := by decide +kernel
theorem d_C_numberBits_45 : decode b_C_numberBits 45 = .ok (.iload_n 1, 1) := by decide +kernel
theorem d_C_numberBits_46 : decode b_C_numberBits 46 = .ok (.bipush 12, 2) := by decide +kernel
theorem d_C_numberBits_48 : decode b_C_numberBits 48 = .ok (.ishl, 1) := by decide +kernel
theorem d_C_numberBits_49 : decode b_C_numberBits 49 = .ok (.ireturn, 1) := by decide +kernel
theorem d_C_numberBits_50 : decode b_C_numberBits 50 = .ok (.iload_n 1, 1) := by decide +kernel
