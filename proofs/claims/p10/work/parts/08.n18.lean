theorem d_M_number_170 : decode b_M_number 170 = .ok (.istore 10, 2) := by decide +kernel
theorem d_M_number_172 : decode b_M_number 172 = .ok (.aload_n 0, 1) := by decide +kernel
theorem d_M_number_173 : decode b_M_number 173 = .ok (.iload 10, 2) := by decide +kernel
theorem d_M_number_175 : decode b_M_number 175 = .ok (.invokestatic 235, 3) := by decide +kernel
theorem d_M_number_178 : decode b_M_number 178 = .ok (.ifCond .ne 22, 3) := by decide +kernel
theorem d_M_number_181 : decode b_M_number 181 = .ok (.iload 6, 2) := by decide +kernel
theorem d_M_number_183 : decode b_M_number 183 = .ok (.ifCond .eq 21, 3) := by decide +kernel
theorem d_M_number_186 : decode b_M_number 186 = .ok (.iload 10, 2) := by decide +kernel
theorem d_M_number_188 : decode b_M_number 188 = .ok (.bipush 97, 2) := by decide +kernel
theorem d_M_number_190 : decode b_M_number 190 = .ok (.if_icmp .lt 14, 3) := by decide +kernel
theorem d_M_number_193 : decode b_M_number 193 = .ok (.iload 10, 2) := by decide +kernel
theorem d_M_number_195 : decode b_M_number 195 = .ok (.bipush 102, 2) := by decide +kernel
theorem d_M_number_197 : decode b_M_number 197 = .ok (.if_icmp .gt 7, 3) := by decide +kernel
theorem d_M_number_200 : decode b_M_number 200 = .ok (.iconst 1, 1) := by decide +kernel
theorem d_M_number_201 : decode b_M_number 201 = .ok (.goto 4, 3) := by decide +kernel
theorem d_M_number_204 : decode b_M_number 204 = .ok (.iconst 0, 1) := by decide +kernel
theorem d_M_number_205 : decode b_M_number 205 = .ok (.invokevirtual 238, 3) := by decide +kernel
theorem d_M_number_208 : decode b_M_number 208 = .ok (.iload 6, 2) := by decide +kernel
theorem d_M_number_210 : decode b_M_number 210 = .ok (.ifCond .eq 35, 3) := by decide +kernel
theorem d_M_number_213 : decode b_M_number 213 = .ok (.ldc2_w 260, 3) := by decide +kernel
theorem d_M_number_216 : decode b_M_number 216 = .ok (.lload 7, 2) := by decide +kernel
theorem d_M_number_218 : decode b_M_number 218 = .ok (.lmul, 1) := by decide +kernel
theorem d_M_number_219 : decode b_M_number 219 = .ok (.iload 10, 2) := by decide +kernel
theorem d_M_number_221 : decode b_M_number 221 = .ok (.invokestatic 235, 3) := by decide +kernel
theorem d_M_number_224 : decode b_M_number 224 = .ok (.ifCond .eq 11, 3) := by decide +kernel
theorem d_M_number_227 : decode b_M_number 227 = .ok (.iload 10, 2) := by decide +kernel
theorem d_M_number_229 : decode b_M_number 229 = .ok (.bipush 48, 2) := by decide +kernel
theorem d_M_number_231 : decode b_M_number 231 = .ok (.isub, 1) := by decide +kernel
theorem d_M_number_232 : decode b_M_number 232 = .ok (.goto 8, 3) := by decide +kernel
theorem d_M_number_235 : decode b_M_number 235 = .ok (.iload 10, 2) := by decide +kernel
theorem d_M_number_237 : decode b_M_number 237 = .ok (.bipush 87, 2) := by decide +kernel
theorem d_M_number_239 : decode b_M_number 239 = .ok (.isub, 1) := by decide +kernel
theorem d_M_number_240 : decode b_M_number 240 = .ok (.i2l, 1) := by decide +kernel
theorem d_M_number_241 : decode b_M_number 241 = .ok (.ladd, 1) := by decide +kernel
theorem d_M_number_242 : decode b_M_number 242 = .ok (.goto 17, 3) := by decide +kernel
theorem d_M_number_245 : decode b_M_number 245 = .ok (.ldc2_w 262, 3) := by decide +kernel
theorem d_M_number_248 : decode b_M_number 248 = .ok (.lload 7, 2) := by decide +kernel
theorem d_M_number_250 : decode b_M_number 250 = .ok (.lmul, 1) := by decide +kernel
theorem d_M_number_251 : decode b_M_number 251 = .ok (.iload 10, 2) := by decide +kernel
theorem d_M_number_253 : decode b_M_number 253 = .ok (.i2l, 1) := by decide +kernel
theorem d_M_number_254 : decode b_M_number 254 = .ok (.ladd, 1) := by decide +kernel
theorem d_M_number_255 : decode b_M_number 255 = .ok (.ldc2_w 264, 3) := by decide +kernel
theorem d_M_number_258 : decode b_M_number 258 = .ok (.lsub, 1) := by decide +kernel
theorem d_M_number_259 : decode b_M_number 259 = .ok (.lstore 7, 2) := by decide +kernel
theorem d_M_number_261 : decode b_M_number 261 = .ok (.iinc 9 1, 3) := by decide +kernel
theorem d_M_number_264 : decode b_M_number 264 = .ok (.goto (-117), 3) := by decide +kernel
theorem d_M_number_267 : decode b_M_number 267 = .ok (.iload 5, 2) := by decide +kernel
theorem d_M_number_269 : decode b_M_number 269 = .ok (.ifCond .eq 9, 3) := by decide +kernel
theorem d_M_number_272 : decode b_M_number 272 = .ok (.lload 7, 2) := by decide +kernel
theorem d_M_number_274 : decode b_M_number 274 = .ok (.lneg, 1) := by decide +kernel
theorem d_M_number_275 : decode b_M_number 275 = .ok (.goto 5, 3) := by decide +kernel
theorem d_M_number_278 : decode b_M_number 278 = .ok (.lload 7, 2) := by decide +kernel
theorem d_M_number_280 : decode b_M_number 280 = .ok (.lstore 7, 2) := by decide +kernel
theorem d_M_number_282 : decode b_M_number 282 = .ok (.aload_n 0, 1) := by decide +kernel
theorem d_M_number_283 : decode b_M_number 283 = .ok (.lload 7, 2) := by decide +kernel
theorem d_M_number_285 : decode b_M_number 285 = .ok (.lload_n 1, 1) := by decide +kernel
theorem d_M_number_286 : decode b_M_number 286 = .ok (.lcmp, 1) := by decide +kernel
theorem d_M_number_287 : decode b_M_number 287 = .ok (.ifCond .lt 14, 3) := by decide +kernel
theorem d_M_number_290 : decode b_M_number 290 = .ok (.lload 7, 2) := by decide +kernel
theorem d_M_number_292 : decode b_M_number 292 = .ok (.lload_n 3, 1) := by decide +kernel
theorem d_M_number_293 : decode b_M_number 293 = .ok (.lcmp, 1) := by decide +kernel
theorem d_M_number_294 : decode b_M_number 294 = .ok (.ifCond .gt 7, 3) := by decide +kernel
theorem d_M_number_297 : decode b_M_number 297 = .ok (.iconst 1, 1) := by decide +kernel
theorem d_M_number_298 : decode b_M_number 298 = .ok (.goto 4, 3) := by decide +kernel
theorem d_M_number_301 : decode b_M_number 301 = .ok (.iconst 0, 1) := by decide +kernel
theorem d_M_number_302 : decode b_M_number 302 = .ok (.invokevirtual 238, 3) := by decide +kernel
theorem d_M_number_305 : decode b_M_number 305 = .ok (.lload 7, 2) := by decide +kernel
theorem d_M_number_307 : decode b_M_number 307 = .ok (.lreturn, 1) := by decide +kernel
theorem d_M_operands_0 : decode b_M_operands 0 = .ok (.iload_n 1, 1) := by decide +kernel
theorem d_M_operands_1 : decode b_M_operands 1 = .ok (.bipush 6, 2) := by decide +kernel
theorem d_M_operands_3 : decode b_M_operands 3 = .ok (.if_icmp .lt 27, 3) := by decide +kernel
theorem d_M_operands_6 : decode b_M_operands 6 = .ok (.iload_n 1, 1) := by decide +kernel
theorem d_M_operands_7 : decode b_M_operands 7 = .ok (.bipush 8, 2) := by decide +kernel
theorem d_M_operands_9 : decode b_M_operands 9 = .ok (.if_icmp .eq 21, 3) := by decide +kernel
theorem d_M_operands_12 : decode b_M_operands 12 = .ok (.iload_n 1, 1) := by decide +kernel
theorem d_M_operands_13 : decode b_M_operands 13 = .ok (.bipush 9, 2) := by decide +kernel
theorem d_M_operands_15 : decode b_M_operands 15 = .ok (.if_icmp .eq 15, 3) := by decide +kernel
theorem d_M_operands_18 : decode b_M_operands 18 = .ok (.iload_n 1, 1) := by decide +kernel
theorem d_M_operands_19 : decode b_M_operands 19 = .ok (.bipush 10, 2) := by decide +kernel
theorem d_M_operands_21 : decode b_M_operands 21 = .ok (.if_icmp .eq 9, 3) := by decide +kernel
theorem d_M_operands_24 : decode b_M_operands 24 = .ok (.iload_n 1, 1) := by decide +kernel
theorem d_M_operands_25 : decode b_M_operands 25 = .ok (.bipush 16, 2) := by decide +kernel
theorem d_M_operands_27 : decode b_M_operands 27 = .ok (.if_icmp .ne 7, 3) := by decide +kernel
theorem d_M_operands_30 : decode b_M_operands 30 = .ok (.iconst 1, 1) := by decide +kernel
theorem d_M_operands_31 : decode b_M_operands 31 = .ok (.goto 4, 3) := by decide +kernel
theorem d_M_operands_34 : decode b_M_operands 34 = .ok (.iconst 0, 1) := by decide +kernel
theorem d_M_operands_35 : decode b_M_operands 35 = .ok (.istore_n 2, 1) := by decide +kernel
theorem d_M_operands_36 : decode b_M_operands 36 = .ok (.iload_n 1, 1) := by decide +kernel
theorem d_M_operands_37 : decode b_M_operands 37 = .ok (.iconst 4, 1) := by decide +kernel
theorem d_M_operands_38 : decode b_M_operands 38 = .ok (.if_icmp .lt 21, 3) := by decide +kernel
theorem d_M_operands_41 : decode b_M_operands 41 = .ok (.iload_n 1, 1) := by decide +kernel
theorem d_M_operands_42 : decode b_M_operands 42 = .ok (.bipush 7, 2) := by decide +kernel
theorem d_M_operands_44 : decode b_M_operands 44 = .ok (.if_icmp .eq 15, 3) := by decide +kernel
theorem d_M_operands_47 : decode b_M_operands 47 = .ok (.iload_n 1, 1) := by decide +kernel
theorem d_M_operands_48 : decode b_M_operands 48 = .ok (.bipush 16, 2) := by decide +kernel
theorem d_M_operands_50 : decode b_M_operands 50 = .ok (.if_icmp .eq 9, 3) := by decide +kernel
theorem d_M_operands_53 : decode b_M_operands 53 = .ok (.iload_n 1, 1) := by decide +kernel
theorem d_M_operands_54 : decode b_M_operands 54 = .ok (.bipush 20, 2) := by decide +kernel
theorem d_M_operands_56 : decode b_M_operands 56 = .ok (.if_icmp .ne 7, 3) := by decide +kernel
theorem d_M_operands_59 : decode b_M_operands 59 = .ok (.iconst 1, 1) := by decide +kernel
theorem d_M_operands_60 : decode b_M_operands 60 = .ok (.goto 4, 3) := by decide +kernel
theorem d_M_operands_63 : decode b_M_operands 63 = .ok (.iconst 0, 1) := by decide +kernel
theorem d_M_operands_64 : decode b_M_operands 64 = .ok (.istore_n 3, 1) := by decide +kernel
theorem d_M_operands_65 : decode b_M_operands 65 = .ok (.iload_n 2, 1) := by decide +kernel
theorem d_M_operands_66 : decode b_M_operands 66 = .ok (.ifCond .eq 11, 3) := by decide +kernel
theorem d_M_operands_69 : decode b_M_operands 69 = .ok (.aload_n 0, 1) := by decide +kernel
theorem d_M_operands_70 : decode b_M_operands 70 = .ok (.aload_n 0, 1) := by decide +kernel
theorem d_M_operands_71 : decode b_M_operands 71 = .ok (.invokevirtual 278, 3) := by decide +kernel
theorem d_M_operands_74 : decode b_M_operands 74 = .ok (.putfield 290, 3) := by decide +kernel
theorem d_M_operands_77 : decode b_M_operands 77 = .ok (.iload_n 2, 1) := by decide +kernel
theorem d_M_operands_78 : decode b_M_operands 78 = .ok (.ifCond .eq 11, 3) := by decide +kernel
theorem d_M_operands_81 : decode b_M_operands 81 = .ok (.iload_n 3, 1) := by decide +kernel
theorem d_M_operands_82 : decode b_M_operands 82 = .ok (.ifCond .eq 7, 3) := by decide +kernel
theorem d_M_operands_85 : decode b_M_operands 85 = .ok (.aload_n 0, 1) := by decide +kernel
theorem d_M_operands_86 : decode b_M_operands 86 = .ok (.invokevirtual 293, 3) := by decide +kernel
theorem d_M_operands_89 : decode b_M_operands 89 = .ok (.iload_n 3, 1) := by decide +kernel
theorem d_M_operands_90 : decode b_M_operands 90 = .ok (.ifCond .eq 18, 3) := by decide +kernel
theorem d_M_operands_93 : decode b_M_operands 93 = .ok (.aload_n 0, 1) := by decide +kernel
theorem d_M_operands_94 : decode b_M_operands 94 = .ok (.getfield 217, 3) := by decide +kernel
theorem d_M_operands_97 : decode b_M_operands 97 = .ok (.ifCond .ne 11, 3) := by decide +kernel
theorem d_M_operands_100 : decode b_M_operands 100 = .ok (.aload_n 0, 1) := by decide +kernel
theorem d_M_operands_101 : decode b_M_operands 101 = .ok (.aload_n 0, 1) := by decide +kernel
theorem d_M_operands_102 : decode b_M_operands 102 = .ok (.invokevirtual 278, 3) := by decide +kernel
theorem d_M_operands_105 : decode b_M_operands 105 = .ok (.putfield 281, 3) := by decide +kernel
theorem d_M_operands_108 : decode b_M_operands 108 = .ok (.iload_n 1, 1) := by decide +kernel
theorem d_M_operands_109 : decode b_M_operands 109 = .ok (.bipush 6, 2) := by decide +kernel
theorem d_M_operands_111 : decode b_M_operands 111 = .ok (.if_icmp .ne 11, 3) := by decide +kernel
theorem d_M_operands_114 : decode b_M_operands 114 = .ok (.aload_n 0, 1) := by decide +kernel
theorem d_M_operands_115 : decode b_M_operands 115 = .ok (.aload_n 0, 1) := by decide +kernel
theorem d_M_operands_116 : decode b_M_operands 116 = .ok (.invokevirtual 278, 3) := by decide +kernel
theorem d_M_operands_119 : decode b_M_operands 119 = .ok (.putfield 296, 3) := by decide +kernel
theorem d_M_operands_122 : decode b_M_operands 122 = .ok (.iload_n 1, 1) := by decide +kernel
theorem d_M_operands_123 : decode b_M_operands 123 = .ok (.bipush 15, 2) := by decide +kernel
theorem d_M_operands_125 : decode b_M_operands 125 = .ok (.if_icmp .ge 9, 3) := by decide +kernel
theorem d_M_operands_128 : decode b_M_operands 128 = .ok (.iload_n 1, 1) := by decide +kernel
theorem d_M_operands_129 : decode b_M_operands 129 = .ok (.bipush 11, 2) := by decide +kernel
theorem d_M_operands_131 : decode b_M_operands 131 = .ok (.if_icmp .lt 9, 3) := by decide +kernel
theorem d_M_operands_134 : decode b_M_operands 134 = .ok (.iload_n 1, 1) := by decide +kernel
theorem d_M_operands_135 : decode b_M_operands 135 = .ok (.bipush 20, 2) := by decide +kernel
theorem d_M_operands_137 : decode b_M_operands 137 = .ok (.if_icmp .ne 7, 3) := by decide +kernel
theorem d_M_operands_140 : decode b_M_operands 140 = .ok (.aload_n 0, 1) := by decide +kernel
theorem d_M_operands_141 : decode b_M_operands 141 = .ok (.invokevirtual 293, 3) := by decide +kernel
theorem d_M_operands_144 : decode b_M_operands 144 = .ok (.aload_n 0, 1) := by decide +kernel
theorem d_M_operands_145 : decode b_M_operands 145 = .ok (.getfield 217, 3) := by decide +kernel
theorem d_M_operands_148 : decode b_M_operands 148 = .ok (.ifCond .eq 4, 3) := by decide +kernel
theorem d_M_operands_151 : decode b_M_operands 151 = .ok (.return_, 1) := by decide +kernel
theorem d_M_operands_152 : decode b_M_operands 152 = .ok (.iload_n 1, 1) := by decide +kernel
theorem d_M_operands_153 : decode b_M_operands 153 = .ok (.iconst 1, 1) := by decide +kernel
theorem d_M_operands_154 : decode b_M_operands 154 = .ok (.if_icmp .ne 11, 3) := by decide +kernel
theorem d_M_operands_157 : decode b_M_operands 157 = .ok (.aload_n 0, 1) := by decide +kernel
