theorem d_M_layOut_74 : decode b_M_layOut 74 = .ok (.iastore, 1) := by decide +kernel
theorem d_M_layOut_75 : decode b_M_layOut 75 = .ok (.iload_n 1, 1) := by decide +kernel
theorem d_M_layOut_76 : decode b_M_layOut 76 = .ok (.aload_n 0, 1) := by decide +kernel
theorem d_M_layOut_77 : decode b_M_layOut 77 = .ok (.iload 4, 2) := by decide +kernel
theorem d_M_layOut_79 : decode b_M_layOut 79 = .ok (.invokevirtual 367, 3) := by decide +kernel
theorem d_M_layOut_82 : decode b_M_layOut 82 = .ok (.iadd, 1) := by decide +kernel
theorem d_M_layOut_83 : decode b_M_layOut 83 = .ok (.istore_n 1, 1) := by decide +kernel
theorem d_M_layOut_84 : decode b_M_layOut 84 = .ok (.iinc 3 1, 3) := by decide +kernel
theorem d_M_layOut_87 : decode b_M_layOut 87 = .ok (.goto (-68), 3) := by decide +kernel
theorem d_M_layOut_90 : decode b_M_layOut 90 = .ok (.iinc 2 1, 3) := by decide +kernel
theorem d_M_layOut_93 : decode b_M_layOut 93 = .ok (.goto (-89), 3) := by decide +kernel
theorem d_M_layOut_96 : decode b_M_layOut 96 = .ok (.iload_n 1, 1) := by decide +kernel
theorem d_M_layOut_97 : decode b_M_layOut 97 = .ok (.ireturn, 1) := by decide +kernel
theorem d_M_link_0 : decode b_M_link 0 = .ok (.aload_n 0, 1) := by decide +kernel
theorem d_M_link_1 : decode b_M_link 1 = .ok (.iconst (-1), 1) := by decide +kernel
theorem d_M_link_2 : decode b_M_link 2 = .ok (.putfield 60, 3) := by decide +kernel
theorem d_M_link_5 : decode b_M_link 5 = .ok (.aload_n 0, 1) := by decide +kernel
theorem d_M_link_6 : decode b_M_link 6 = .ok (.iconst 0, 1) := by decide +kernel
theorem d_M_link_7 : decode b_M_link 7 = .ok (.putfield 371, 3) := by decide +kernel
theorem d_M_link_10 : decode b_M_link 10 = .ok (.aload_n 0, 1) := by decide +kernel
theorem d_M_link_11 : decode b_M_link 11 = .ok (.iconst 0, 1) := by decide +kernel
theorem d_M_link_12 : decode b_M_link 12 = .ok (.putfield 208, 3) := by decide +kernel
theorem d_M_link_15 : decode b_M_link 15 = .ok (.iconst 0, 1) := by decide +kernel
theorem d_M_link_16 : decode b_M_link 16 = .ok (.istore_n 1, 1) := by decide +kernel
theorem d_M_link_17 : decode b_M_link 17 = .ok (.iload_n 1, 1) := by decide +kernel
theorem d_M_link_18 : decode b_M_link 18 = .ok (.bipush 32, 2) := by decide +kernel
theorem d_M_link_20 : decode b_M_link 20 = .ok (.if_icmp .ge 44, 3) := by decide +kernel
theorem d_M_link_23 : decode b_M_link 23 = .ok (.aload_n 0, 1) := by decide +kernel
theorem d_M_link_24 : decode b_M_link 24 = .ok (.getfield 56, 3) := by decide +kernel
theorem d_M_link_27 : decode b_M_link 27 = .ok (.iload_n 1, 1) := by decide +kernel
theorem d_M_link_28 : decode b_M_link 28 = .ok (.iconst 0, 1) := by decide +kernel
theorem d_M_link_29 : decode b_M_link 29 = .ok (.bastore, 1) := by decide +kernel
theorem d_M_link_30 : decode b_M_link 30 = .ok (.aload_n 0, 1) := by decide +kernel
theorem d_M_link_31 : decode b_M_link 31 = .ok (.iload_n 1, 1) := by decide +kernel
theorem d_M_link_32 : decode b_M_link 32 = .ok (.invokevirtual 374, 3) := by decide +kernel
theorem d_M_link_35 : decode b_M_link 35 = .ok (.ifCond .eq 23, 3) := by decide +kernel
theorem d_M_link_38 : decode b_M_link 38 = .ok (.aload_n 0, 1) := by decide +kernel
theorem d_M_link_39 : decode b_M_link 39 = .ok (.getfield 208, 3) := by decide +kernel
theorem d_M_link_42 : decode b_M_link 42 = .ok (.ifCond .ne 16, 3) := by decide +kernel
theorem d_M_link_45 : decode b_M_link 45 = .ok (.aload_n 0, 1) := by decide +kernel
theorem d_M_link_46 : decode b_M_link 46 = .ok (.aload_n 0, 1) := by decide +kernel
theorem d_M_link_47 : decode b_M_link 47 = .ok (.iload_n 1, 1) := by decide +kernel
theorem d_M_link_48 : decode b_M_link 48 = .ok (.bipush 16, 2) := by decide +kernel
theorem d_M_link_50 : decode b_M_link 50 = .ok (.idiv, 1) := by decide +kernel
theorem d_M_link_51 : decode b_M_link 51 = .ok (.iload_n 1, 1) := by decide +kernel
theorem d_M_link_52 : decode b_M_link 52 = .ok (.invokevirtual 377, 3) := by decide +kernel
theorem d_M_link_55 : decode b_M_link 55 = .ok (.putfield 208, 3) := by decide +kernel
theorem d_M_link_58 : decode b_M_link 58 = .ok (.iinc 1 1, 3) := by decide +kernel
theorem d_M_link_61 : decode b_M_link 61 = .ok (.goto (-44), 3) := by decide +kernel
theorem d_M_link_64 : decode b_M_link 64 = .ok (.aload_n 0, 1) := by decide +kernel
theorem d_M_link_65 : decode b_M_link 65 = .ok (.getfield 208, 3) := by decide +kernel
theorem d_M_link_68 : decode b_M_link 68 = .ok (.ifCond .le 5, 3) := by decide +kernel
theorem d_M_link_71 : decode b_M_link 71 = .ok (.iconst 0, 1) := by decide +kernel
theorem d_M_link_72 : decode b_M_link 72 = .ok (.ireturn, 1) := by decide +kernel
theorem d_M_link_73 : decode b_M_link 73 = .ok (.aload_n 0, 1) := by decide +kernel
theorem d_M_link_74 : decode b_M_link 74 = .ok (.invokevirtual 381, 3) := by decide +kernel
theorem d_M_link_77 : decode b_M_link 77 = .ok (.istore_n 1, 1) := by decide +kernel
theorem d_M_link_78 : decode b_M_link 78 = .ok (.iconst 1, 1) := by decide +kernel
theorem d_M_link_79 : decode b_M_link 79 = .ok (.istore_n 2, 1) := by decide +kernel
theorem d_M_link_80 : decode b_M_link 80 = .ok (.iload_n 2, 1) := by decide +kernel
theorem d_M_link_81 : decode b_M_link 81 = .ok (.ifCond .eq 96, 3) := by decide +kernel
theorem d_M_link_84 : decode b_M_link 84 = .ok (.iconst 0, 1) := by decide +kernel
theorem d_M_link_85 : decode b_M_link 85 = .ok (.istore_n 2, 1) := by decide +kernel
theorem d_M_link_86 : decode b_M_link 86 = .ok (.iconst 0, 1) := by decide +kernel
theorem d_M_link_87 : decode b_M_link 87 = .ok (.istore_n 3, 1) := by decide +kernel
theorem d_M_link_88 : decode b_M_link 88 = .ok (.iload_n 3, 1) := by decide +kernel
theorem d_M_link_89 : decode b_M_link 89 = .ok (.bipush 32, 2) := by decide +kernel
theorem d_M_link_91 : decode b_M_link 91 = .ok (.if_icmp .ge 78, 3) := by decide +kernel
theorem d_M_link_94 : decode b_M_link 94 = .ok (.aload_n 0, 1) := by decide +kernel
theorem d_M_link_95 : decode b_M_link 95 = .ok (.iload_n 3, 1) := by decide +kernel
theorem d_M_link_96 : decode b_M_link 96 = .ok (.invokevirtual 374, 3) := by decide +kernel
theorem d_M_link_99 : decode b_M_link 99 = .ok (.ifCond .eq 64, 3) := by decide +kernel
theorem d_M_link_102 : decode b_M_link 102 = .ok (.aload_n 0, 1) := by decide +kernel
theorem d_M_link_103 : decode b_M_link 103 = .ok (.getfield 26, 3) := by decide +kernel
theorem d_M_link_106 : decode b_M_link 106 = .ok (.iload_n 3, 1) := by decide +kernel
theorem d_M_link_107 : decode b_M_link 107 = .ok (.iaload, 1) := by decide +kernel
theorem d_M_link_108 : decode b_M_link 108 = .ok (.bipush 7, 2) := by decide +kernel
theorem d_M_link_110 : decode b_M_link 110 = .ok (.if_icmp .ne 53, 3) := by decide +kernel
theorem d_M_link_113 : decode b_M_link 113 = .ok (.aload_n 0, 1) := by decide +kernel
theorem d_M_link_114 : decode b_M_link 114 = .ok (.getfield 56, 3) := by decide +kernel
theorem d_M_link_117 : decode b_M_link 117 = .ok (.iload_n 3, 1) := by decide +kernel
theorem d_M_link_118 : decode b_M_link 118 = .ok (.baload, 1) := by decide +kernel
theorem d_M_link_119 : decode b_M_link 119 = .ok (.ifCond .ne 44, 3) := by decide +kernel
theorem d_M_link_122 : decode b_M_link 122 = .ok (.aload_n 0, 1) := by decide +kernel
theorem d_M_link_123 : decode b_M_link 123 = .ok (.iload_n 3, 1) := by decide +kernel
theorem d_M_link_124 : decode b_M_link 124 = .ok (.invokevirtual 384, 3) := by decide +kernel
theorem d_M_link_127 : decode b_M_link 127 = .ok (.sipush (-4096), 3) := by decide +kernel
theorem d_M_link_130 : decode b_M_link 130 = .ok (.if_icmp .lt 14, 3) := by decide +kernel
theorem d_M_link_133 : decode b_M_link 133 = .ok (.aload_n 0, 1) := by decide +kernel
theorem d_M_link_134 : decode b_M_link 134 = .ok (.iload_n 3, 1) := by decide +kernel
theorem d_M_link_135 : decode b_M_link 135 = .ok (.invokevirtual 384, 3) := by decide +kernel
theorem d_M_link_138 : decode b_M_link 138 = .ok (.sipush 4094, 3) := by decide +kernel
theorem d_M_link_141 : decode b_M_link 141 = .ok (.if_icmp .le 22, 3) := by decide +kernel
theorem d_M_link_144 : decode b_M_link 144 = .ok (.aload_n 0, 1) := by decide +kernel
theorem d_M_link_145 : decode b_M_link 145 = .ok (.getfield 56, 3) := by decide +kernel
theorem d_M_link_148 : decode b_M_link 148 = .ok (.iload_n 3, 1) := by decide +kernel
theorem d_M_link_149 : decode b_M_link 149 = .ok (.iconst 1, 1) := by decide +kernel
theorem d_M_link_150 : decode b_M_link 150 = .ok (.bastore, 1) := by decide +kernel
theorem d_M_link_151 : decode b_M_link 151 = .ok (.aload_n 0, 1) := by decide +kernel
theorem d_M_link_152 : decode b_M_link 152 = .ok (.dup, 1) := by decide +kernel
theorem d_M_link_153 : decode b_M_link 153 = .ok (.getfield 371, 3) := by decide +kernel
theorem d_M_link_156 : decode b_M_link 156 = .ok (.iconst 1, 1) := by decide +kernel
theorem d_M_link_157 : decode b_M_link 157 = .ok (.iadd, 1) := by decide +kernel
theorem d_M_link_158 : decode b_M_link 158 = .ok (.putfield 371, 3) := by decide +kernel
theorem d_M_link_161 : decode b_M_link 161 = .ok (.iconst 1, 1) := by decide +kernel
theorem d_M_link_162 : decode b_M_link 162 = .ok (.istore_n 2, 1) := by decide +kernel
theorem d_M_link_163 : decode b_M_link 163 = .ok (.iinc 3 1, 3) := by decide +kernel
theorem d_M_link_166 : decode b_M_link 166 = .ok (.goto (-78), 3) := by decide +kernel
theorem d_M_link_169 : decode b_M_link 169 = .ok (.aload_n 0, 1) := by decide +kernel
theorem d_M_link_170 : decode b_M_link 170 = .ok (.invokevirtual 381, 3) := by decide +kernel
theorem d_M_link_173 : decode b_M_link 173 = .ok (.istore_n 1, 1) := by decide +kernel
theorem d_M_link_174 : decode b_M_link 174 = .ok (.goto (-94), 3) := by decide +kernel
theorem d_M_link_177 : decode b_M_link 177 = .ok (.iload_n 1, 1) := by decide +kernel
theorem d_M_link_178 : decode b_M_link 178 = .ok (.sipush 16384, 3) := by decide +kernel
theorem d_M_link_181 : decode b_M_link 181 = .ok (.if_icmp .le 8, 3) := by decide +kernel
theorem d_M_link_184 : decode b_M_link 184 = .ok (.aload_n 0, 1) := by decide +kernel
theorem d_M_link_185 : decode b_M_link 185 = .ok (.iconst 3, 1) := by decide +kernel
theorem d_M_link_186 : decode b_M_link 186 = .ok (.putfield 208, 3) := by decide +kernel
theorem d_M_link_189 : decode b_M_link 189 = .ok (.iconst 0, 1) := by decide +kernel
theorem d_M_link_190 : decode b_M_link 190 = .ok (.istore_n 3, 1) := by decide +kernel
theorem d_M_link_191 : decode b_M_link 191 = .ok (.iload_n 3, 1) := by decide +kernel
theorem d_M_link_192 : decode b_M_link 192 = .ok (.bipush 32, 2) := by decide +kernel
theorem d_M_link_194 : decode b_M_link 194 = .ok (.if_icmp .ge 61, 3) := by decide +kernel
theorem d_M_link_197 : decode b_M_link 197 = .ok (.aload_n 0, 1) := by decide +kernel
theorem d_M_link_198 : decode b_M_link 198 = .ok (.getfield 208, 3) := by decide +kernel
theorem d_M_link_201 : decode b_M_link 201 = .ok (.ifCond .ne 48, 3) := by decide +kernel
theorem d_M_link_204 : decode b_M_link 204 = .ok (.aload_n 0, 1) := by decide +kernel
theorem d_M_link_205 : decode b_M_link 205 = .ok (.iload_n 3, 1) := by decide +kernel
theorem d_M_link_206 : decode b_M_link 206 = .ok (.invokevirtual 374, 3) := by decide +kernel
theorem d_M_link_209 : decode b_M_link 209 = .ok (.ifCond .eq 40, 3) := by decide +kernel
theorem d_M_link_212 : decode b_M_link 212 = .ok (.aload_n 0, 1) := by decide +kernel
theorem d_M_link_213 : decode b_M_link 213 = .ok (.getfield 26, 3) := by decide +kernel
theorem d_M_link_216 : decode b_M_link 216 = .ok (.iload_n 3, 1) := by decide +kernel
theorem d_M_link_217 : decode b_M_link 217 = .ok (.iaload, 1) := by decide +kernel
theorem d_M_link_218 : decode b_M_link 218 = .ok (.bipush 7, 2) := by decide +kernel
theorem d_M_link_220 : decode b_M_link 220 = .ok (.if_icmp .eq 14, 3) := by decide +kernel
theorem d_M_link_223 : decode b_M_link 223 = .ok (.aload_n 0, 1) := by decide +kernel
theorem d_M_link_224 : decode b_M_link 224 = .ok (.getfield 26, 3) := by decide +kernel
theorem d_M_link_227 : decode b_M_link 227 = .ok (.iload_n 3, 1) := by decide +kernel
theorem d_M_link_228 : decode b_M_link 228 = .ok (.iaload, 1) := by decide +kernel
theorem d_M_link_229 : decode b_M_link 229 = .ok (.bipush 8, 2) := by decide +kernel
theorem d_M_link_231 : decode b_M_link 231 = .ok (.if_icmp .ne 18, 3) := by decide +kernel
theorem d_M_link_234 : decode b_M_link 234 = .ok (.aload_n 0, 1) := by decide +kernel
theorem d_M_link_235 : decode b_M_link 235 = .ok (.iload_n 3, 1) := by decide +kernel
theorem d_M_link_236 : decode b_M_link 236 = .ok (.invokevirtual 384, 3) := by decide +kernel
theorem d_M_link_239 : decode b_M_link 239 = .ok (.iconst 2, 1) := by decide +kernel
theorem d_M_link_240 : decode b_M_link 240 = .ok (.irem, 1) := by decide +kernel
theorem d_M_link_241 : decode b_M_link 241 = .ok (.ifCond .eq 8, 3) := by decide +kernel
theorem d_M_link_244 : decode b_M_link 244 = .ok (.aload_n 0, 1) := by decide +kernel
theorem d_M_link_245 : decode b_M_link 245 = .ok (.iconst 2, 1) := by decide +kernel
