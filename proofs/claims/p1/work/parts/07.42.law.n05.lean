theorem d_L_law_187 : decode b_L_law 187 = .ok (.iload 4, 2) := by decide +kernel
theorem d_L_law_189 : decode b_L_law 189 = .ok (.iconst 1, 1) := by decide +kernel
theorem d_L_law_190 : decode b_L_law 190 = .ok (.iadd, 1) := by decide +kernel
theorem d_L_law_191 : decode b_L_law 191 = .ok (.iaload, 1) := by decide +kernel
theorem d_L_law_192 : decode b_L_law 192 = .ok (.invokevirtual 72, 3) := by decide +kernel
theorem d_L_law_195 : decode b_L_law 195 = .ok (.istore 6, 2) := by decide +kernel
theorem d_L_law_197 : decode b_L_law 197 = .ok (.aload_n 2, 1) := by decide +kernel
theorem d_L_law_198 : decode b_L_law 198 = .ok (.invokevirtual 66, 3) := by decide +kernel
theorem d_L_law_201 : decode b_L_law 201 = .ok (.iload 5, 2) := by decide +kernel
theorem d_L_law_203 : decode b_L_law 203 = .ok (.if_icmp .eq 5, 3) := by decide +kernel
theorem d_L_law_208 : decode b_L_law 208 = .ok (.iload 5, 2) := by decide +kernel
theorem d_L_law_210 : decode b_L_law 210 = .ok (.ifCond .ne 15, 3) := by decide +kernel
theorem d_L_law_213 : decode b_L_law 213 = .ok (.aload_n 3, 1) := by decide +kernel
theorem d_L_law_214 : decode b_L_law 214 = .ok (.iconst 0, 1) := by decide +kernel
theorem d_L_law_215 : decode b_L_law 215 = .ok (.laload, 1) := by decide +kernel
theorem d_L_law_216 : decode b_L_law 216 = .ok (.iload 6, 2) := by decide +kernel
theorem d_L_law_218 : decode b_L_law 218 = .ok (.i2l, 1) := by decide +kernel
theorem d_L_law_219 : decode b_L_law 219 = .ok (.lcmp, 1) := by decide +kernel
theorem d_L_law_220 : decode b_L_law 220 = .ok (.ifCond .eq 5, 3) := by decide +kernel
theorem d_L_law_225 : decode b_L_law 225 = .ok (.goto 419, 3) := by decide +kernel
theorem d_L_law_228 : decode b_L_law 228 = .ok (.aload_n 1, 1) := by decide +kernel
theorem d_L_law_229 : decode b_L_law 229 = .ok (.aload_n 0, 1) := by decide +kernel
theorem d_L_law_230 : decode b_L_law 230 = .ok (.iload 4, 2) := by decide +kernel
theorem d_L_law_232 : decode b_L_law 232 = .ok (.iconst 1, 1) := by decide +kernel
theorem d_L_law_233 : decode b_L_law 233 = .ok (.iadd, 1) := by decide +kernel
theorem d_L_law_234 : decode b_L_law 234 = .ok (.iaload, 1) := by decide +kernel
theorem d_L_law_235 : decode b_L_law 235 = .ok (.invokestatic 73, 3) := by decide +kernel
theorem d_L_law_238 : decode b_L_law 238 = .ok (.istore 5, 2) := by decide +kernel
theorem d_L_law_240 : decode b_L_law 240 = .ok (.aload_n 2, 1) := by decide +kernel
theorem d_L_law_241 : decode b_L_law 241 = .ok (.aload_n 0, 1) := by decide +kernel
