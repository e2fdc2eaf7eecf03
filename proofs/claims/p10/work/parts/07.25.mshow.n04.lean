theorem d_M_show_171 : decode b_M_show 171 = .ok (.invokevirtual 425, 3) := by decide +kernel
theorem d_M_show_174 : decode b_M_show 174 = .ok (.iload_n 3, 1) := by decide +kernel
theorem d_M_show_175 : decode b_M_show 175 = .ok (.bipush 7, 2) := by decide +kernel
theorem d_M_show_177 : decode b_M_show 177 = .ok (.if_icmp .ne 11, 3) := by decide +kernel
theorem d_M_show_180 : decode b_M_show 180 = .ok (.aload_n 0, 1) := by decide +kernel
theorem d_M_show_181 : decode b_M_show 181 = .ok (.bipush 44, 2) := by decide +kernel
theorem d_M_show_183 : decode b_M_show 183 = .ok (.iload 6, 2) := by decide +kernel
theorem d_M_show_185 : decode b_M_show 185 = .ok (.invokevirtual 425, 3) := by decide +kernel
theorem d_M_show_188 : decode b_M_show 188 = .ok (.iload_n 3, 1) := by decide +kernel
theorem d_M_show_189 : decode b_M_show 189 = .ok (.iconst 1, 1) := by decide +kernel
theorem d_M_show_190 : decode b_M_show 190 = .ok (.if_icmp .ne 16, 3) := by decide +kernel
theorem d_M_show_193 : decode b_M_show 193 = .ok (.aload_n 0, 1) := by decide +kernel
theorem d_M_show_194 : decode b_M_show 194 = .ok (.bipush 44, 2) := by decide +kernel
theorem d_M_show_196 : decode b_M_show 196 = .ok (.iload 6, 2) := by decide +kernel
theorem d_M_show_198 : decode b_M_show 198 = .ok (.invokevirtual 425, 3) := by decide +kernel
theorem d_M_show_201 : decode b_M_show 201 = .ok (.aload_n 0, 1) := by decide +kernel
theorem d_M_show_202 : decode b_M_show 202 = .ok (.getfield 411, 3) := by decide +kernel
theorem d_M_show_205 : decode b_M_show 205 = .ok (.ireturn, 1) := by decide +kernel
theorem d_M_show_206 : decode b_M_show 206 = .ok (.aload_n 0, 1) := by decide +kernel
theorem d_M_show_207 : decode b_M_show 207 = .ok (.bipush 44, 2) := by decide +kernel
theorem d_M_show_209 : decode b_M_show 209 = .ok (.invokevirtual 414, 3) := by decide +kernel
theorem d_M_show_212 : decode b_M_show 212 = .ok (.iload_n 1, 1) := by decide +kernel
theorem d_M_show_213 : decode b_M_show 213 = .ok (.bipush 20, 2) := by decide +kernel
theorem d_M_show_215 : decode b_M_show 215 = .ok (.iushr, 1) := by decide +kernel
theorem d_M_show_216 : decode b_M_show 216 = .ok (.bipush 12, 2) := by decide +kernel
theorem d_M_show_218 : decode b_M_show 218 = .ok (.invokestatic 428, 3) := by decide +kernel
theorem d_M_show_221 : decode b_M_show 221 = .ok (.istore 8, 2) := by decide +kernel
theorem d_M_show_223 : decode b_M_show 223 = .ok (.iload_n 3, 1) := by decide +kernel
theorem d_M_show_224 : decode b_M_show 224 = .ok (.iconst 3, 1) := by decide +kernel
theorem d_M_show_225 : decode b_M_show 225 = .ok (.if_icmp .ne 12, 3) := by decide +kernel
theorem d_M_show_228 : decode b_M_show 228 = .ok (.iload_n 1, 1) := by decide +kernel
theorem d_M_show_229 : decode b_M_show 229 = .ok (.bipush 20, 2) := by decide +kernel
theorem d_M_show_231 : decode b_M_show 231 = .ok (.ishr, 1) := by decide +kernel
theorem d_M_show_232 : decode b_M_show 232 = .ok (.bipush 63, 2) := by decide +kernel
theorem d_M_show_234 : decode b_M_show 234 = .ok (.iand, 1) := by decide +kernel
theorem d_M_show_235 : decode b_M_show 235 = .ok (.istore 8, 2) := by decide +kernel
theorem d_M_show_237 : decode b_M_show 237 = .ok (.iload_n 3, 1) := by decide +kernel
theorem d_M_show_238 : decode b_M_show 238 = .ok (.iconst 4, 1) := by decide +kernel
theorem d_M_show_239 : decode b_M_show 239 = .ok (.if_icmp .ne 9, 3) := by decide +kernel
theorem d_M_show_242 : decode b_M_show 242 = .ok (.iload_n 1, 1) := by decide +kernel
theorem d_M_show_243 : decode b_M_show 243 = .ok (.bipush 12, 2) := by decide +kernel
theorem d_M_show_245 : decode b_M_show 245 = .ok (.iushr, 1) := by decide +kernel
theorem d_M_show_246 : decode b_M_show 246 = .ok (.istore 8, 2) := by decide +kernel
theorem d_M_show_248 : decode b_M_show 248 = .ok (.iload_n 3, 1) := by decide +kernel
theorem d_M_show_249 : decode b_M_show 249 = .ok (.bipush 6, 2) := by decide +kernel
theorem d_M_show_251 : decode b_M_show 251 = .ok (.if_icmp .ne 20, 3) := by decide +kernel
theorem d_M_show_254 : decode b_M_show 254 = .ok (.iload_n 1, 1) := by decide +kernel
theorem d_M_show_255 : decode b_M_show 255 = .ok (.bipush 25, 2) := by decide +kernel
