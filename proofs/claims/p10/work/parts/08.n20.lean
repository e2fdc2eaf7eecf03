theorem d_M_operation_86 : decode b_M_operation 86 = .ok (.getfield 13, 3) := by decide +kernel
theorem d_M_operation_89 : decode b_M_operation 89 = .ok (.iload_n 3, 1) := by decide +kernel
theorem d_M_operation_90 : decode b_M_operation 90 = .ok (.iaload, 1) := by decide +kernel
theorem d_M_operation_91 : decode b_M_operation 91 = .ok (.bipush 10, 2) := by decide +kernel
theorem d_M_operation_93 : decode b_M_operation 93 = .ok (.idiv, 1) := by decide +kernel
theorem d_M_operation_94 : decode b_M_operation 94 = .ok (.bipush 10, 2) := by decide +kernel
theorem d_M_operation_96 : decode b_M_operation 96 = .ok (.irem, 1) := by decide +kernel
theorem d_M_operation_97 : decode b_M_operation 97 = .ok (.sipush 4096, 3) := by decide +kernel
theorem d_M_operation_100 : decode b_M_operation 100 = .ok (.imul, 1) := by decide +kernel
theorem d_M_operation_101 : decode b_M_operation 101 = .ok (.iadd, 1) := by decide +kernel
theorem d_M_operation_102 : decode b_M_operation 102 = .ok (.aload_n 0, 1) := by decide +kernel
theorem d_M_operation_103 : decode b_M_operation 103 = .ok (.getfield 13, 3) := by decide +kernel
theorem d_M_operation_106 : decode b_M_operation 106 = .ok (.iload_n 3, 1) := by decide +kernel
theorem d_M_operation_107 : decode b_M_operation 107 = .ok (.iaload, 1) := by decide +kernel
theorem d_M_operation_108 : decode b_M_operation 108 = .ok (.bipush 10, 2) := by decide +kernel
theorem d_M_operation_110 : decode b_M_operation 110 = .ok (.irem, 1) := by decide +kernel
theorem d_M_operation_111 : decode b_M_operation 111 = .ok (.iconst 1, 1) := by decide +kernel
theorem d_M_operation_112 : decode b_M_operation 112 = .ok (.if_icmp .ne 9, 3) := by decide +kernel
theorem d_M_operation_115 : decode b_M_operation 115 = .ok (.ldc_w 322, 3) := by decide +kernel
theorem d_M_operation_118 : decode b_M_operation 118 = .ok (.goto 4, 3) := by decide +kernel
theorem d_M_operation_121 : decode b_M_operation 121 = .ok (.iconst 0, 1) := by decide +kernel
theorem d_M_operation_122 : decode b_M_operation 122 = .ok (.iadd, 1) := by decide +kernel
theorem d_M_operation_123 : decode b_M_operation 123 = .ok (.putfield 323, 3) := by decide +kernel
theorem d_M_operation_126 : decode b_M_operation 126 = .ok (.aload_n 0, 1) := by decide +kernel
theorem d_M_operation_127 : decode b_M_operation 127 = .ok (.iload 4, 2) := by decide +kernel
theorem d_M_operation_129 : decode b_M_operation 129 = .ok (.bipush 15, 2) := by decide +kernel
theorem d_M_operation_131 : decode b_M_operation 131 = .ok (.if_icmp .ge 8, 3) := by decide +kernel
theorem d_M_operation_134 : decode b_M_operation 134 = .ok (.iload 4, 2) := by decide +kernel
theorem d_M_operation_136 : decode b_M_operation 136 = .ok (.goto 39, 3) := by decide +kernel
theorem d_M_operation_139 : decode b_M_operation 139 = .ok (.iload 4, 2) := by decide +kernel
theorem d_M_operation_141 : decode b_M_operation 141 = .ok (.bipush 17, 2) := by decide +kernel
theorem d_M_operation_143 : decode b_M_operation 143 = .ok (.if_icmp .ge 7, 3) := by decide +kernel
theorem d_M_operation_146 : decode b_M_operation 146 = .ok (.iconst 2, 1) := by decide +kernel
theorem d_M_operation_147 : decode b_M_operation 147 = .ok (.goto 28, 3) := by decide +kernel
theorem d_M_operation_150 : decode b_M_operation 150 = .ok (.iload 4, 2) := by decide +kernel
theorem d_M_operation_152 : decode b_M_operation 152 = .ok (.bipush 17, 2) := by decide +kernel
theorem d_M_operation_154 : decode b_M_operation 154 = .ok (.if_icmp .ne 7, 3) := by decide +kernel
theorem d_M_operation_157 : decode b_M_operation 157 = .ok (.iconst 5, 1) := by decide +kernel
theorem d_M_operation_158 : decode b_M_operation 158 = .ok (.goto 17, 3) := by decide +kernel
theorem d_M_operation_161 : decode b_M_operation 161 = .ok (.iload 4, 2) := by decide +kernel
theorem d_M_operation_163 : decode b_M_operation 163 = .ok (.bipush 20, 2) := by decide +kernel
theorem d_M_operation_165 : decode b_M_operation 165 = .ok (.if_icmp .ge 8, 3) := by decide +kernel
theorem d_M_operation_168 : decode b_M_operation 168 = .ok (.bipush 8, 2) := by decide +kernel
theorem d_M_operation_170 : decode b_M_operation 170 = .ok (.goto 5, 3) := by decide +kernel
theorem d_M_operation_173 : decode b_M_operation 173 = .ok (.bipush 7, 2) := by decide +kernel
theorem d_M_operation_175 : decode b_M_operation 175 = .ok (.putfield 326, 3) := by decide +kernel
theorem d_M_operation_178 : decode b_M_operation 178 = .ok (.iload 4, 2) := by decide +kernel
theorem d_M_operation_180 : decode b_M_operation 180 = .ok (.bipush 17, 2) := by decide +kernel
theorem d_M_operation_182 : decode b_M_operation 182 = .ok (.if_icmp .ne 8, 3) := by decide +kernel
theorem d_M_operation_185 : decode b_M_operation 185 = .ok (.aload_n 0, 1) := by decide +kernel
theorem d_M_operation_186 : decode b_M_operation 186 = .ok (.iconst 1, 1) := by decide +kernel
theorem d_M_operation_187 : decode b_M_operation 187 = .ok (.putfield 281, 3) := by decide +kernel
theorem d_M_operation_190 : decode b_M_operation 190 = .ok (.iload 4, 2) := by decide +kernel
theorem d_M_operation_192 : decode b_M_operation 192 = .ok (.bipush 19, 2) := by decide +kernel
theorem d_M_operation_194 : decode b_M_operation 194 = .ok (.if_icmp .ne 8, 3) := by decide +kernel
theorem d_M_operation_197 : decode b_M_operation 197 = .ok (.aload_n 0, 1) := by decide +kernel
theorem d_M_operation_198 : decode b_M_operation 198 = .ok (.iconst 1, 1) := by decide +kernel
theorem d_M_operation_199 : decode b_M_operation 199 = .ok (.putfield 290, 3) := by decide +kernel
theorem d_M_operation_202 : decode b_M_operation 202 = .ok (.iload 4, 2) := by decide +kernel
theorem d_M_operation_204 : decode b_M_operation 204 = .ok (.bipush 15, 2) := by decide +kernel
theorem d_M_operation_206 : decode b_M_operation 206 = .ok (.if_icmp .eq 16, 3) := by decide +kernel
theorem d_M_operation_209 : decode b_M_operation 209 = .ok (.iload 4, 2) := by decide +kernel
theorem d_M_operation_211 : decode b_M_operation 211 = .ok (.bipush 17, 2) := by decide +kernel
theorem d_M_operation_213 : decode b_M_operation 213 = .ok (.if_icmp .eq 9, 3) := by decide +kernel
theorem d_M_operation_216 : decode b_M_operation 216 = .ok (.aload_n 0, 1) := by decide +kernel
theorem d_M_operation_217 : decode b_M_operation 217 = .ok (.iload 4, 2) := by decide +kernel
theorem d_M_operation_219 : decode b_M_operation 219 = .ok (.invokevirtual 329, 3) := by decide +kernel
theorem d_M_operation_222 : decode b_M_operation 222 = .ok (.return_, 1) := by decide +kernel
theorem d_M_packed_0 : decode b_M_packed 0 = .ok (.lconst 0, 1) := by decide +kernel
theorem d_M_packed_1 : decode b_M_packed 1 = .ok (.lstore_n 1, 1) := by decide +kernel
theorem d_M_packed_2 : decode b_M_packed 2 = .ok (.iconst 0, 1) := by decide +kernel
theorem d_M_packed_3 : decode b_M_packed 3 = .ok (.istore_n 3, 1) := by decide +kernel
theorem d_M_packed_4 : decode b_M_packed 4 = .ok (.iload_n 3, 1) := by decide +kernel
theorem d_M_packed_5 : decode b_M_packed 5 = .ok (.aload_n 0, 1) := by decide +kernel
theorem d_M_packed_6 : decode b_M_packed 6 = .ok (.getfield 228, 3) := by decide +kernel
theorem d_M_packed_9 : decode b_M_packed 9 = .ok (.if_icmp .ge 32, 3) := by decide +kernel
theorem d_M_packed_12 : decode b_M_packed 12 = .ok (.aload_n 0, 1) := by decide +kernel
theorem d_M_packed_13 : decode b_M_packed 13 = .ok (.getfield 228, 3) := by decide +kernel
theorem d_M_packed_16 : decode b_M_packed 16 = .ok (.bipush 9, 2) := by decide +kernel
theorem d_M_packed_18 : decode b_M_packed 18 = .ok (.if_icmp .ge 23, 3) := by decide +kernel
theorem d_M_packed_21 : decode b_M_packed 21 = .ok (.ldc2_w 242, 3) := by decide +kernel
theorem d_M_packed_24 : decode b_M_packed 24 = .ok (.lload_n 1, 1) := by decide +kernel
theorem d_M_packed_25 : decode b_M_packed 25 = .ok (.lmul, 1) := by decide +kernel
theorem d_M_packed_26 : decode b_M_packed 26 = .ok (.aload_n 0, 1) := by decide +kernel
theorem d_M_packed_27 : decode b_M_packed 27 = .ok (.getfield 20, 3) := by decide +kernel
theorem d_M_packed_30 : decode b_M_packed 30 = .ok (.iload_n 3, 1) := by decide +kernel
theorem d_M_packed_31 : decode b_M_packed 31 = .ok (.iaload, 1) := by decide +kernel
theorem d_M_packed_32 : decode b_M_packed 32 = .ok (.i2l, 1) := by decide +kernel
theorem d_M_packed_33 : decode b_M_packed 33 = .ok (.ladd, 1) := by decide +kernel
theorem d_M_packed_34 : decode b_M_packed 34 = .ok (.lstore_n 1, 1) := by decide +kernel
theorem d_M_packed_35 : decode b_M_packed 35 = .ok (.iinc 3 1, 3) := by decide +kernel
theorem d_M_packed_38 : decode b_M_packed 38 = .ok (.goto (-34), 3) := by decide +kernel
theorem d_M_packed_41 : decode b_M_packed 41 = .ok (.lload_n 1, 1) := by decide +kernel
theorem d_M_packed_42 : decode b_M_packed 42 = .ok (.lreturn, 1) := by decide +kernel
theorem d_M_putBranch_0 : decode b_M_putBranch 0 = .ok (.aload_n 0, 1) := by decide +kernel
theorem d_M_putBranch_1 : decode b_M_putBranch 1 = .ok (.getfield 53, 3) := by decide +kernel
theorem d_M_putBranch_4 : decode b_M_putBranch 4 = .ok (.iload_n 1, 1) := by decide +kernel
theorem d_M_putBranch_5 : decode b_M_putBranch 5 = .ok (.iaload, 1) := by decide +kernel
theorem d_M_putBranch_6 : decode b_M_putBranch 6 = .ok (.istore_n 2, 1) := by decide +kernel
theorem d_M_putBranch_7 : decode b_M_putBranch 7 = .ok (.aload_n 0, 1) := by decide +kernel
theorem d_M_putBranch_8 : decode b_M_putBranch 8 = .ok (.getfield 56, 3) := by decide +kernel
theorem d_M_putBranch_11 : decode b_M_putBranch 11 = .ok (.iload_n 1, 1) := by decide +kernel
theorem d_M_putBranch_12 : decode b_M_putBranch 12 = .ok (.baload, 1) := by decide +kernel
theorem d_M_putBranch_13 : decode b_M_putBranch 13 = .ok (.ifCond .ne 35, 3) := by decide +kernel
theorem d_M_putBranch_16 : decode b_M_putBranch 16 = .ok (.aload_n 0, 1) := by decide +kernel
theorem d_M_putBranch_17 : decode b_M_putBranch 17 = .ok (.iload_n 2, 1) := by decide +kernel
theorem d_M_putBranch_18 : decode b_M_putBranch 18 = .ok (.aload_n 0, 1) := by decide +kernel
theorem d_M_putBranch_19 : decode b_M_putBranch 19 = .ok (.getfield 29, 3) := by decide +kernel
theorem d_M_putBranch_22 : decode b_M_putBranch 22 = .ok (.iload_n 1, 1) := by decide +kernel
theorem d_M_putBranch_23 : decode b_M_putBranch 23 = .ok (.iaload, 1) := by decide +kernel
theorem d_M_putBranch_24 : decode b_M_putBranch 24 = .ok (.aload_n 0, 1) := by decide +kernel
theorem d_M_putBranch_25 : decode b_M_putBranch 25 = .ok (.getfield 35, 3) := by decide +kernel
theorem d_M_putBranch_28 : decode b_M_putBranch 28 = .ok (.iload_n 1, 1) := by decide +kernel
theorem d_M_putBranch_29 : decode b_M_putBranch 29 = .ok (.iaload, 1) := by decide +kernel
theorem d_M_putBranch_30 : decode b_M_putBranch 30 = .ok (.aload_n 0, 1) := by decide +kernel
theorem d_M_putBranch_31 : decode b_M_putBranch 31 = .ok (.getfield 38, 3) := by decide +kernel
theorem d_M_putBranch_34 : decode b_M_putBranch 34 = .ok (.iload_n 1, 1) := by decide +kernel
theorem d_M_putBranch_35 : decode b_M_putBranch 35 = .ok (.iaload, 1) := by decide +kernel
theorem d_M_putBranch_36 : decode b_M_putBranch 36 = .ok (.aload_n 0, 1) := by decide +kernel
theorem d_M_putBranch_37 : decode b_M_putBranch 37 = .ok (.iload_n 1, 1) := by decide +kernel
theorem d_M_putBranch_38 : decode b_M_putBranch 38 = .ok (.invokevirtual 384, 3) := by decide +kernel
theorem d_M_putBranch_41 : decode b_M_putBranch 41 = .ok (.invokestatic 408, 3) := by decide +kernel
theorem d_M_putBranch_44 : decode b_M_putBranch 44 = .ok (.invokevirtual 394, 3) := by decide +kernel
theorem d_M_putBranch_47 : decode b_M_putBranch 47 = .ok (.return_, 1) := by decide +kernel
theorem d_M_putBranch_48 : decode b_M_putBranch 48 = .ok (.aload_n 0, 1) := by decide +kernel
theorem d_M_putBranch_49 : decode b_M_putBranch 49 = .ok (.getfield 29, 3) := by decide +kernel
theorem d_M_putBranch_52 : decode b_M_putBranch 52 = .ok (.iload_n 1, 1) := by decide +kernel
theorem d_M_putBranch_53 : decode b_M_putBranch 53 = .ok (.iaload, 1) := by decide +kernel
theorem d_M_putBranch_54 : decode b_M_putBranch 54 = .ok (.sipush 4096, 3) := by decide +kernel
theorem d_M_putBranch_57 : decode b_M_putBranch 57 = .ok (.idiv, 1) := by decide +kernel
theorem d_M_putBranch_58 : decode b_M_putBranch 58 = .ok (.iconst 2, 1) := by decide +kernel
theorem d_M_putBranch_59 : decode b_M_putBranch 59 = .ok (.irem, 1) := by decide +kernel
theorem d_M_putBranch_60 : decode b_M_putBranch 60 = .ok (.iconst 1, 1) := by decide +kernel
theorem d_M_putBranch_61 : decode b_M_putBranch 61 = .ok (.if_icmp .ne 7, 3) := by decide +kernel
theorem d_M_putBranch_64 : decode b_M_putBranch 64 = .ok (.iconst 1, 1) := by decide +kernel
theorem d_M_putBranch_65 : decode b_M_putBranch 65 = .ok (.goto 4, 3) := by decide +kernel
theorem d_M_putBranch_68 : decode b_M_putBranch 68 = .ok (.iconst 0, 1) := by decide +kernel
theorem d_M_putBranch_69 : decode b_M_putBranch 69 = .ok (.istore_n 3, 1) := by decide +kernel
theorem d_M_putBranch_70 : decode b_M_putBranch 70 = .ok (.aload_n 0, 1) := by decide +kernel
theorem d_M_putBranch_71 : decode b_M_putBranch 71 = .ok (.iload_n 2, 1) := by decide +kernel
theorem d_M_putBranch_72 : decode b_M_putBranch 72 = .ok (.iload_n 3, 1) := by decide +kernel
theorem d_M_putBranch_73 : decode b_M_putBranch 73 = .ok (.ifCond .eq 16, 3) := by decide +kernel
theorem d_M_putBranch_76 : decode b_M_putBranch 76 = .ok (.aload_n 0, 1) := by decide +kernel
theorem d_M_putBranch_77 : decode b_M_putBranch 77 = .ok (.getfield 29, 3) := by decide +kernel
theorem d_M_putBranch_80 : decode b_M_putBranch 80 = .ok (.iload_n 1, 1) := by decide +kernel
theorem d_M_putBranch_81 : decode b_M_putBranch 81 = .ok (.iaload, 1) := by decide +kernel
theorem d_M_putBranch_82 : decode b_M_putBranch 82 = .ok (.sipush 4096, 3) := by decide +kernel
theorem d_M_putBranch_85 : decode b_M_putBranch 85 = .ok (.isub, 1) := by decide +kernel
theorem d_M_putBranch_86 : decode b_M_putBranch 86 = .ok (.goto 13, 3) := by decide +kernel
theorem d_M_putBranch_89 : decode b_M_putBranch 89 = .ok (.aload_n 0, 1) := by decide +kernel
