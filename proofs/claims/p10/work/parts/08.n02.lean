theorem d_C_numberBits_51 : decode b_C_numberBits 51 = .ok (.iconst 0, 1) := by decide +kernel
theorem d_C_numberBits_52 : decode b_C_numberBits 52 = .ok (.iconst 5, 1) := by decide +kernel
theorem d_C_numberBits_53 : decode b_C_numberBits 53 = .ok (.invokestatic 24, 3) := by decide +kernel
theorem d_C_numberBits_56 : decode b_C_numberBits 56 = .ok (.bipush 7, 2) := by decide +kernel
theorem d_C_numberBits_58 : decode b_C_numberBits 58 = .ok (.ishl, 1) := by decide +kernel
theorem d_C_numberBits_59 : decode b_C_numberBits 59 = .ok (.iload_n 1, 1) := by decide +kernel
theorem d_C_numberBits_60 : decode b_C_numberBits 60 = .ok (.iconst 5, 1) := by decide +kernel
theorem d_C_numberBits_61 : decode b_C_numberBits 61 = .ok (.bipush 7, 2) := by decide +kernel
theorem d_C_numberBits_63 : decode b_C_numberBits 63 = .ok (.invokestatic 24, 3) := by decide +kernel
theorem d_C_numberBits_66 : decode b_C_numberBits 66 = .ok (.bipush 25, 2) := by decide +kernel
theorem d_C_numberBits_68 : decode b_C_numberBits 68 = .ok (.ishl, 1) := by decide +kernel
theorem d_C_numberBits_69 : decode b_C_numberBits 69 = .ok (.ior, 1) := by decide +kernel
theorem d_C_numberBits_70 : decode b_C_numberBits 70 = .ok (.ireturn, 1) := by decide +kernel
theorem d_C_numberBits_71 : decode b_C_numberBits 71 = .ok (.iload_n 1, 1) := by decide +kernel
theorem d_C_numberBits_72 : decode b_C_numberBits 72 = .ok (.iconst 1, 1) := by decide +kernel
theorem d_C_numberBits_73 : decode b_C_numberBits 73 = .ok (.iconst 4, 1) := by decide +kernel
theorem d_C_numberBits_74 : decode b_C_numberBits 74 = .ok (.invokestatic 24, 3) := by decide +kernel
theorem d_C_numberBits_77 : decode b_C_numberBits 77 = .ok (.bipush 8, 2) := by decide +kernel
theorem d_C_numberBits_79 : decode b_C_numberBits 79 = .ok (.ishl, 1) := by decide +kernel
theorem d_C_numberBits_80 : decode b_C_numberBits 80 = .ok (.iload_n 1, 1) := by decide +kernel
theorem d_C_numberBits_81 : decode b_C_numberBits 81 = .ok (.iconst 5, 1) := by decide +kernel
theorem d_C_numberBits_82 : decode b_C_numberBits 82 = .ok (.bipush 6, 2) := by decide +kernel
theorem d_C_numberBits_84 : decode b_C_numberBits 84 = .ok (.invokestatic 24, 3) := by decide +kernel
theorem d_C_numberBits_87 : decode b_C_numberBits 87 = .ok (.bipush 25, 2) := by decide +kernel
theorem d_C_numberBits_89 : decode b_C_numberBits 89 = .ok (.ishl, 1) := by decide +kernel
theorem d_C_numberBits_90 : decode b_C_numberBits 90 = .ok (.ior, 1) := by decide +kernel
theorem d_C_numberBits_91 : decode b_C_numberBits 91 = .ok (.iload_n 1, 1) := by decide +kernel
theorem d_C_numberBits_92 : decode b_C_numberBits 92 = .ok (.bipush 11, 2) := by decide +kernel
theorem d_C_numberBits_94 : decode b_C_numberBits 94 = .ok (.iconst 1, 1) := by decide +kernel
theorem d_C_numberBits_95 : decode b_C_numberBits 95 = .ok (.invokestatic 24, 3) := by decide +kernel
theorem d_C_numberBits_98 : decode b_C_numberBits 98 = .ok (.bipush 7, 2) := by decide +kernel
theorem d_C_numberBits_100 : decode b_C_numberBits 100 = .ok (.ishl, 1) := by decide +kernel
theorem d_C_numberBits_101 : decode b_C_numberBits 101 = .ok (.ior, 1) := by decide +kernel
theorem d_C_numberBits_102 : decode b_C_numberBits 102 = .ok (.iload_n 1, 1) := by decide +kernel
theorem d_C_numberBits_103 : decode b_C_numberBits 103 = .ok (.bipush 12, 2) := by decide +kernel
theorem d_C_numberBits_105 : decode b_C_numberBits 105 = .ok (.iconst 1, 1) := by decide +kernel
theorem d_C_numberBits_106 : decode b_C_numberBits 106 = .ok (.invokestatic 24, 3) := by decide +kernel
theorem d_C_numberBits_109 : decode b_C_numberBits 109 = .ok (.bipush 31, 2) := by decide +kernel
theorem d_C_numberBits_111 : decode b_C_numberBits 111 = .ok (.ishl, 1) := by decide +kernel
theorem d_C_numberBits_112 : decode b_C_numberBits 112 = .ok (.ior, 1) := by decide +kernel
theorem d_C_numberBits_113 : decode b_C_numberBits 113 = .ok (.ireturn, 1) := by decide +kernel
theorem d_C_numberBits_114 : decode b_C_numberBits 114 = .ok (.iload_n 1, 1) := by decide +kernel
theorem d_C_numberBits_115 : decode b_C_numberBits 115 = .ok (.iconst 1, 1) := by decide +kernel
theorem d_C_numberBits_116 : decode b_C_numberBits 116 = .ok (.bipush 10, 2) := by decide +kernel
theorem d_C_numberBits_118 : decode b_C_numberBits 118 = .ok (.invokestatic 24, 3) := by decide +kernel
theorem d_C_numberBits_121 : decode b_C_numberBits 121 = .ok (.bipush 21, 2) := by decide +kernel
theorem d_C_numberBits_123 : decode b_C_numberBits 123 = .ok (.ishl, 1) := by decide +kernel
theorem d_C_numberBits_124 : decode b_C_numberBits 124 = .ok (.iload_n 1, 1) := by decide +kernel
theorem d_C_numberBits_125 : decode b_C_numberBits 125 = .ok (.bipush 11, 2) := by decide +kernel
theorem d_C_numberBits_127 : decode b_C_numberBits 127 = .ok (.iconst 1, 1) := by decide +kernel
theorem d_C_numberBits_128 : decode b_C_numberBits 128 = .ok (.invokestatic 24, 3) := by decide +kernel
theorem d_C_numberBits_131 : decode b_C_numberBits 131 = .ok (.bipush 20, 2) := by decide +kernel
theorem d_C_numberBits_133 : decode b_C_numberBits 133 = .ok (.ishl, 1) := by decide +kernel
theorem d_C_numberBits_134 : decode b_C_numberBits 134 = .ok (.ior, 1) := by decide +kernel
theorem d_C_numberBits_135 : decode b_C_numberBits 135 = .ok (.iload_n 1, 1) := by decide +kernel
theorem d_C_numberBits_136 : decode b_C_numberBits 136 = .ok (.bipush 12, 2) := by decide +kernel
theorem d_C_numberBits_138 : decode b_C_numberBits 138 = .ok (.bipush 8, 2) := by decide +kernel
theorem d_C_numberBits_140 : decode b_C_numberBits 140 = .ok (.invokestatic 24, 3) := by decide +kernel
theorem d_C_numberBits_143 : decode b_C_numberBits 143 = .ok (.bipush 12, 2) := by decide +kernel
theorem d_C_numberBits_145 : decode b_C_numberBits 145 = .ok (.ishl, 1) := by decide +kernel
theorem d_C_numberBits_146 : decode b_C_numberBits 146 = .ok (.ior, 1) := by decide +kernel
theorem d_C_numberBits_147 : decode b_C_numberBits 147 = .ok (.iload_n 1, 1) := by decide +kernel
theorem d_C_numberBits_148 : decode b_C_numberBits 148 = .ok (.bipush 20, 2) := by decide +kernel
theorem d_C_numberBits_150 : decode b_C_numberBits 150 = .ok (.iconst 1, 1) := by decide +kernel
theorem d_C_numberBits_151 : decode b_C_numberBits 151 = .ok (.invokestatic 24, 3) := by decide +kernel
theorem d_C_numberBits_154 : decode b_C_numberBits 154 = .ok (.bipush 31, 2) := by decide +kernel
theorem d_C_numberBits_156 : decode b_C_numberBits 156 = .ok (.ishl, 1) := by decide +kernel
theorem d_C_numberBits_157 : decode b_C_numberBits 157 = .ok (.ior, 1) := by decide +kernel
theorem d_C_numberBits_158 : decode b_C_numberBits 158 = .ok (.ireturn, 1) := by decide +kernel
theorem d_C_numberBits_159 : decode b_C_numberBits 159 = .ok (.iconst 0, 1) := by decide +kernel
theorem d_C_numberBits_160 : decode b_C_numberBits 160 = .ok (.ireturn, 1) := by decide +kernel
theorem d_N_byteAt_0 : decode b_N_byteAt 0 = .ok (.iload_n 1, 1) := by decide +kernel
theorem d_N_byteAt_1 : decode b_N_byteAt 1 = .ok (.iconst 4, 1) := by decide +kernel
theorem d_N_byteAt_2 : decode b_N_byteAt 2 = .ok (.if_icmp .ge 10, 3) := by decide +kernel
theorem d_N_byteAt_5 : decode b_N_byteAt 5 = .ok (.aload_n 0, 1) := by decide +kernel
theorem d_N_byteAt_6 : decode b_N_byteAt 6 = .ok (.getfield 48, 3) := by decide +kernel
theorem d_N_byteAt_9 : decode b_N_byteAt 9 = .ok (.goto 17, 3) := by decide +kernel
theorem d_N_byteAt_12 : decode b_N_byteAt 12 = .ok (.iload_n 1, 1) := by decide +kernel
theorem d_N_byteAt_13 : decode b_N_byteAt 13 = .ok (.bipush 8, 2) := by decide +kernel
theorem d_N_byteAt_15 : decode b_N_byteAt 15 = .ok (.if_icmp .ge 10, 3) := by decide +kernel
theorem d_N_byteAt_18 : decode b_N_byteAt 18 = .ok (.aload_n 0, 1) := by decide +kernel
theorem d_N_byteAt_19 : decode b_N_byteAt 19 = .ok (.getfield 51, 3) := by decide +kernel
theorem d_N_byteAt_22 : decode b_N_byteAt 22 = .ok (.goto 4, 3) := by decide +kernel
theorem d_N_byteAt_25 : decode b_N_byteAt 25 = .ok (.iconst 0, 1) := by decide +kernel
theorem d_N_byteAt_26 : decode b_N_byteAt 26 = .ok (.istore_n 2, 1) := by decide +kernel
theorem d_N_byteAt_27 : decode b_N_byteAt 27 = .ok (.iload_n 2, 1) := by decide +kernel
theorem d_N_byteAt_28 : decode b_N_byteAt 28 = .ok (.bipush 8, 2) := by decide +kernel
theorem d_N_byteAt_30 : decode b_N_byteAt 30 = .ok (.iload_n 1, 1) := by decide +kernel
theorem d_N_byteAt_31 : decode b_N_byteAt 31 = .ok (.iconst 3, 1) := by decide +kernel
theorem d_N_byteAt_32 : decode b_N_byteAt 32 = .ok (.iand, 1) := by decide +kernel
theorem d_N_byteAt_33 : decode b_N_byteAt 33 = .ok (.imul, 1) := by decide +kernel
theorem d_N_byteAt_34 : decode b_N_byteAt 34 = .ok (.iushr, 1) := by decide +kernel
theorem d_N_byteAt_35 : decode b_N_byteAt 35 = .ok (.sipush 255, 3) := by decide +kernel
theorem d_N_byteAt_38 : decode b_N_byteAt 38 = .ok (.iand, 1) := by decide +kernel
theorem d_N_byteAt_39 : decode b_N_byteAt 39 = .ok (.ireturn, 1) := by decide +kernel
theorem d_N_encodeAddress_0 : decode b_N_encodeAddress 0 = .ok (.aload_n 0, 1) := by decide +kernel
theorem d_N_encodeAddress_1 : decode b_N_encodeAddress 1 = .ok (.getstatic 70, 3) := by decide +kernel
theorem d_N_encodeAddress_4 : decode b_N_encodeAddress 4 = .ok (.aload_n 0, 1) := by decide +kernel
theorem d_N_encodeAddress_5 : decode b_N_encodeAddress 5 = .ok (.getfield 54, 3) := by decide +kernel
theorem d_N_encodeAddress_8 : decode b_N_encodeAddress 8 = .ok (.iconst 0, 1) := by decide +kernel
theorem d_N_encodeAddress_9 : decode b_N_encodeAddress 9 = .ok (.iconst 0, 1) := by decide +kernel
theorem d_N_encodeAddress_10 : decode b_N_encodeAddress 10 = .ok (.iload_n 1, 1) := by decide +kernel
theorem d_N_encodeAddress_11 : decode b_N_encodeAddress 11 = .ok (.invokestatic 73, 3) := by decide +kernel
theorem d_N_encodeAddress_14 : decode b_N_encodeAddress 14 = .ok (.invokestatic 63, 3) := by decide +kernel
theorem d_N_encodeAddress_17 : decode b_N_encodeAddress 17 = .ok (.putfield 48, 3) := by decide +kernel
theorem d_N_encodeAddress_20 : decode b_N_encodeAddress 20 = .ok (.aload_n 0, 1) := by decide +kernel
theorem d_N_encodeAddress_21 : decode b_N_encodeAddress 21 = .ok (.getstatic 76, 3) := by decide +kernel
theorem d_N_encodeAddress_24 : decode b_N_encodeAddress 24 = .ok (.aload_n 0, 1) := by decide +kernel
theorem d_N_encodeAddress_25 : decode b_N_encodeAddress 25 = .ok (.getfield 54, 3) := by decide +kernel
theorem d_N_encodeAddress_28 : decode b_N_encodeAddress 28 = .ok (.aload_n 0, 1) := by decide +kernel
theorem d_N_encodeAddress_29 : decode b_N_encodeAddress 29 = .ok (.getfield 54, 3) := by decide +kernel
theorem d_N_encodeAddress_32 : decode b_N_encodeAddress 32 = .ok (.iconst 0, 1) := by decide +kernel
theorem d_N_encodeAddress_33 : decode b_N_encodeAddress 33 = .ok (.iload_n 1, 1) := by decide +kernel
theorem d_N_encodeAddress_34 : decode b_N_encodeAddress 34 = .ok (.invokestatic 44, 3) := by decide +kernel
theorem d_N_encodeAddress_37 : decode b_N_encodeAddress 37 = .ok (.invokestatic 63, 3) := by decide +kernel
theorem d_N_encodeAddress_40 : decode b_N_encodeAddress 40 = .ok (.putfield 51, 3) := by decide +kernel
theorem d_N_encodeAddress_43 : decode b_N_encodeAddress 43 = .ok (.return_, 1) := by decide +kernel
theorem d_N_encodeConstant_0 : decode b_N_encodeConstant 0 = .ok (.iload_n 1, 1) := by decide +kernel
theorem d_N_encodeConstant_1 : decode b_N_encodeConstant 1 = .ok (.i2l, 1) := by decide +kernel
theorem d_N_encodeConstant_2 : decode b_N_encodeConstant 2 = .ok (.invokestatic 38, 3) := by decide +kernel
theorem d_N_encodeConstant_5 : decode b_N_encodeConstant 5 = .ok (.ifCond .eq 23, 3) := by decide +kernel
theorem d_N_encodeConstant_8 : decode b_N_encodeConstant 8 = .ok (.aload_n 0, 1) := by decide +kernel
theorem d_N_encodeConstant_9 : decode b_N_encodeConstant 9 = .ok (.getstatic 76, 3) := by decide +kernel
theorem d_N_encodeConstant_12 : decode b_N_encodeConstant 12 = .ok (.aload_n 0, 1) := by decide +kernel
theorem d_N_encodeConstant_13 : decode b_N_encodeConstant 13 = .ok (.getfield 54, 3) := by decide +kernel
theorem d_N_encodeConstant_16 : decode b_N_encodeConstant 16 = .ok (.iconst 0, 1) := by decide +kernel
theorem d_N_encodeConstant_17 : decode b_N_encodeConstant 17 = .ok (.iconst 0, 1) := by decide +kernel
theorem d_N_encodeConstant_18 : decode b_N_encodeConstant 18 = .ok (.iload_n 1, 1) := by decide +kernel
theorem d_N_encodeConstant_19 : decode b_N_encodeConstant 19 = .ok (.invokestatic 63, 3) := by decide +kernel
theorem d_N_encodeConstant_22 : decode b_N_encodeConstant 22 = .ok (.putfield 48, 3) := by decide +kernel
theorem d_N_encodeConstant_25 : decode b_N_encodeConstant 25 = .ok (.goto 46, 3) := by decide +kernel
theorem d_N_encodeConstant_28 : decode b_N_encodeConstant 28 = .ok (.aload_n 0, 1) := by decide +kernel
theorem d_N_encodeConstant_29 : decode b_N_encodeConstant 29 = .ok (.getstatic 70, 3) := by decide +kernel
theorem d_N_encodeConstant_32 : decode b_N_encodeConstant 32 = .ok (.aload_n 0, 1) := by decide +kernel
theorem d_N_encodeConstant_33 : decode b_N_encodeConstant 33 = .ok (.getfield 54, 3) := by decide +kernel
theorem d_N_encodeConstant_36 : decode b_N_encodeConstant 36 = .ok (.iconst 0, 1) := by decide +kernel
theorem d_N_encodeConstant_37 : decode b_N_encodeConstant 37 = .ok (.iconst 0, 1) := by decide +kernel
theorem d_N_encodeConstant_38 : decode b_N_encodeConstant 38 = .ok (.iload_n 1, 1) := by decide +kernel
theorem d_N_encodeConstant_39 : decode b_N_encodeConstant 39 = .ok (.invokestatic 73, 3) := by decide +kernel
theorem d_N_encodeConstant_42 : decode b_N_encodeConstant 42 = .ok (.invokestatic 63, 3) := by decide +kernel
theorem d_N_encodeConstant_45 : decode b_N_encodeConstant 45 = .ok (.putfield 48, 3) := by decide +kernel
theorem d_N_encodeConstant_48 : decode b_N_encodeConstant 48 = .ok (.aload_n 0, 1) := by decide +kernel
theorem d_N_encodeConstant_49 : decode b_N_encodeConstant 49 = .ok (.getstatic 83, 3) := by decide +kernel
theorem d_N_encodeConstant_52 : decode b_N_encodeConstant 52 = .ok (.aload_n 0, 1) := by decide +kernel
theorem d_N_encodeConstant_53 : decode b_N_encodeConstant 53 = .ok (.getfield 54, 3) := by decide +kernel
theorem d_N_encodeConstant_56 : decode b_N_encodeConstant 56 = .ok (.aload_n 0, 1) := by decide +kernel
theorem d_N_encodeConstant_57 : decode b_N_encodeConstant 57 = .ok (.getfield 54, 3) := by decide +kernel
theorem d_N_encodeConstant_60 : decode b_N_encodeConstant 60 = .ok (.iconst 0, 1) := by decide +kernel
theorem d_N_encodeConstant_61 : decode b_N_encodeConstant 61 = .ok (.iload_n 1, 1) := by decide +kernel
theorem d_N_encodeConstant_62 : decode b_N_encodeConstant 62 = .ok (.invokestatic 44, 3) := by decide +kernel
