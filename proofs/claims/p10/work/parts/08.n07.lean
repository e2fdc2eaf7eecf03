theorem d_L_law_27 : decode b_L_law 27 = .ok (.iconst 4, 1) := by decide +kernel
theorem d_L_law_28 : decode b_L_law 28 = .ok (.isub, 1) := by decide +kernel
theorem d_L_law_29 : decode b_L_law 29 = .ok (.if_icmp .gt 403, 3) := by decide +kernel
theorem d_L_law_32 : decode b_L_law 32 = .ok (.aload_n 0, 1) := by decide +kernel
theorem d_L_law_33 : decode b_L_law 33 = .ok (.iload 4, 2) := by decide +kernel
theorem d_L_law_35 : decode b_L_law 35 = .ok (.iaload, 1) := by decide +kernel
theorem d_L_law_36 : decode b_L_law 36 = .ok (.bipush 15, 2) := by decide +kernel
theorem d_L_law_38 : decode b_L_law 38 = .ok (.iand, 1) := by decide +kernel
theorem d_L_law_39 : decode b_L_law 39 = .ok (.tableswitch 387 0 9 #[53, 122, 150, 175, 191, 207, 235, 275, 303, 359], 53) := by decide +kernel
theorem d_L_law_92 : decode b_L_law 92 = .ok (.aload_n 1, 1) := by decide +kernel
theorem d_L_law_93 : decode b_L_law 93 = .ok (.aload_n 0, 1) := by decide +kernel
theorem d_L_law_94 : decode b_L_law 94 = .ok (.iload 4, 2) := by decide +kernel
theorem d_L_law_96 : decode b_L_law 96 = .ok (.iconst 1, 1) := by decide +kernel
theorem d_L_law_97 : decode b_L_law 97 = .ok (.iadd, 1) := by decide +kernel
theorem d_L_law_98 : decode b_L_law 98 = .ok (.iaload, 1) := by decide +kernel
theorem d_L_law_99 : decode b_L_law 99 = .ok (.i2l, 1) := by decide +kernel
theorem d_L_law_100 : decode b_L_law 100 = .ok (.bipush 32, 2) := by decide +kernel
theorem d_L_law_102 : decode b_L_law 102 = .ok (.lshl, 1) := by decide +kernel
theorem d_L_law_103 : decode b_L_law 103 = .ok (.aload_n 0, 1) := by decide +kernel
theorem d_L_law_104 : decode b_L_law 104 = .ok (.iload 4, 2) := by decide +kernel
theorem d_L_law_106 : decode b_L_law 106 = .ok (.iconst 2, 1) := by decide +kernel
theorem d_L_law_107 : decode b_L_law 107 = .ok (.iadd, 1) := by decide +kernel
theorem d_L_law_108 : decode b_L_law 108 = .ok (.iaload, 1) := by decide +kernel
theorem d_L_law_109 : decode b_L_law 109 = .ok (.i2l, 1) := by decide +kernel
theorem d_L_law_110 : decode b_L_law 110 = .ok (.ldc2_w 58, 3) := by decide +kernel
theorem d_L_law_113 : decode b_L_law 113 = .ok (.land, 1) := by decide +kernel
theorem d_L_law_114 : decode b_L_law 114 = .ok (.lor, 1) := by decide +kernel
theorem d_L_law_115 : decode b_L_law 115 = .ok (.aload_n 0, 1) := by decide +kernel
theorem d_L_law_116 : decode b_L_law 116 = .ok (.iload 4, 2) := by decide +kernel
theorem d_L_law_118 : decode b_L_law 118 = .ok (.iconst 3, 1) := by decide +kernel
theorem d_L_law_119 : decode b_L_law 119 = .ok (.iadd, 1) := by decide +kernel
theorem d_L_law_120 : decode b_L_law 120 = .ok (.iaload, 1) := by decide +kernel
theorem d_L_law_121 : decode b_L_law 121 = .ok (.invokestatic 60, 3) := by decide +kernel
theorem d_L_law_124 : decode b_L_law 124 = .ok (.istore 5, 2) := by decide +kernel
theorem d_L_law_126 : decode b_L_law 126 = .ok (.aload_n 2, 1) := by decide +kernel
theorem d_L_law_127 : decode b_L_law 127 = .ok (.aload_n 0, 1) := by decide +kernel
theorem d_L_law_128 : decode b_L_law 128 = .ok (.iload 4, 2) := by decide +kernel
theorem d_L_law_130 : decode b_L_law 130 = .ok (.iconst 1, 1) := by decide +kernel
theorem d_L_law_131 : decode b_L_law 131 = .ok (.iadd, 1) := by decide +kernel
theorem d_L_law_132 : decode b_L_law 132 = .ok (.iaload, 1) := by decide +kernel
theorem d_L_law_133 : decode b_L_law 133 = .ok (.i2l, 1) := by decide +kernel
theorem d_L_law_134 : decode b_L_law 134 = .ok (.bipush 32, 2) := by decide +kernel
theorem d_L_law_136 : decode b_L_law 136 = .ok (.lshl, 1) := by decide +kernel
theorem d_L_law_137 : decode b_L_law 137 = .ok (.aload_n 0, 1) := by decide +kernel
theorem d_L_law_138 : decode b_L_law 138 = .ok (.iload 4, 2) := by decide +kernel
theorem d_L_law_140 : decode b_L_law 140 = .ok (.iconst 2, 1) := by decide +kernel
theorem d_L_law_141 : decode b_L_law 141 = .ok (.iadd, 1) := by decide +kernel
theorem d_L_law_142 : decode b_L_law 142 = .ok (.iaload, 1) := by decide +kernel
theorem d_L_law_143 : decode b_L_law 143 = .ok (.i2l, 1) := by decide +kernel
theorem d_L_law_144 : decode b_L_law 144 = .ok (.ldc2_w 58, 3) := by decide +kernel
theorem d_L_law_147 : decode b_L_law 147 = .ok (.land, 1) := by decide +kernel
theorem d_L_law_148 : decode b_L_law 148 = .ok (.lor, 1) := by decide +kernel
theorem d_L_law_149 : decode b_L_law 149 = .ok (.aload_n 0, 1) := by decide +kernel
theorem d_L_law_150 : decode b_L_law 150 = .ok (.iload 4, 2) := by decide +kernel
theorem d_L_law_152 : decode b_L_law 152 = .ok (.iconst 3, 1) := by decide +kernel
theorem d_L_law_153 : decode b_L_law 153 = .ok (.iadd, 1) := by decide +kernel
theorem d_L_law_154 : decode b_L_law 154 = .ok (.iaload, 1) := by decide +kernel
theorem d_L_law_155 : decode b_L_law 155 = .ok (.invokevirtual 65, 3) := by decide +kernel
theorem d_L_law_158 : decode b_L_law 158 = .ok (.goto 268, 3) := by decide +kernel
theorem d_L_law_161 : decode b_L_law 161 = .ok (.aload_n 1, 1) := by decide +kernel
theorem d_L_law_162 : decode b_L_law 162 = .ok (.aload_n 0, 1) := by decide +kernel
theorem d_L_law_163 : decode b_L_law 163 = .ok (.iload 4, 2) := by decide +kernel
theorem d_L_law_165 : decode b_L_law 165 = .ok (.iconst 1, 1) := by decide +kernel
theorem d_L_law_166 : decode b_L_law 166 = .ok (.iadd, 1) := by decide +kernel
theorem d_L_law_167 : decode b_L_law 167 = .ok (.iaload, 1) := by decide +kernel
theorem d_L_law_168 : decode b_L_law 168 = .ok (.aload_n 3, 1) := by decide +kernel
theorem d_L_law_169 : decode b_L_law 169 = .ok (.invokestatic 66, 3) := by decide +kernel
theorem d_L_law_172 : decode b_L_law 172 = .ok (.istore 5, 2) := by decide +kernel
theorem d_L_law_174 : decode b_L_law 174 = .ok (.aload_n 2, 1) := by decide +kernel
theorem d_L_law_175 : decode b_L_law 175 = .ok (.aload_n 0, 1) := by decide +kernel
theorem d_L_law_176 : decode b_L_law 176 = .ok (.iload 4, 2) := by decide +kernel
theorem d_L_law_178 : decode b_L_law 178 = .ok (.iconst 1, 1) := by decide +kernel
theorem d_L_law_179 : decode b_L_law 179 = .ok (.iadd, 1) := by decide +kernel
theorem d_L_law_180 : decode b_L_law 180 = .ok (.iaload, 1) := by decide +kernel
theorem d_L_law_181 : decode b_L_law 181 = .ok (.invokevirtual 69, 3) := by decide +kernel
theorem d_L_law_184 : decode b_L_law 184 = .ok (.istore 6, 2) := by decide +kernel
theorem d_L_law_186 : decode b_L_law 186 = .ok (.goto 240, 3) := by decide +kernel
theorem d_L_law_189 : decode b_L_law 189 = .ok (.aload_n 1, 1) := by decide +kernel
theorem d_L_law_190 : decode b_L_law 190 = .ok (.aload_n 0, 1) := by decide +kernel
theorem d_L_law_191 : decode b_L_law 191 = .ok (.iload 4, 2) := by decide +kernel
theorem d_L_law_193 : decode b_L_law 193 = .ok (.iconst 1, 1) := by decide +kernel
theorem d_L_law_194 : decode b_L_law 194 = .ok (.iadd, 1) := by decide +kernel
theorem d_L_law_195 : decode b_L_law 195 = .ok (.iaload, 1) := by decide +kernel
theorem d_L_law_196 : decode b_L_law 196 = .ok (.invokestatic 70, 3) := by decide +kernel
theorem d_L_law_199 : decode b_L_law 199 = .ok (.istore 5, 2) := by decide +kernel
theorem d_L_law_201 : decode b_L_law 201 = .ok (.aload_n 2, 1) := by decide +kernel
theorem d_L_law_202 : decode b_L_law 202 = .ok (.aload_n 0, 1) := by decide +kernel
theorem d_L_law_203 : decode b_L_law 203 = .ok (.iload 4, 2) := by decide +kernel
theorem d_L_law_205 : decode b_L_law 205 = .ok (.iconst 1, 1) := by decide +kernel
theorem d_L_law_206 : decode b_L_law 206 = .ok (.iadd, 1) := by decide +kernel
theorem d_L_law_207 : decode b_L_law 207 = .ok (.iaload, 1) := by decide +kernel
theorem d_L_law_208 : decode b_L_law 208 = .ok (.invokevirtual 73, 3) := by decide +kernel
theorem d_L_law_211 : decode b_L_law 211 = .ok (.goto 215, 3) := by decide +kernel
theorem d_L_law_214 : decode b_L_law 214 = .ok (.aload_n 1, 1) := by decide +kernel
theorem d_L_law_215 : decode b_L_law 215 = .ok (.aload_n 3, 1) := by decide +kernel
theorem d_L_law_216 : decode b_L_law 216 = .ok (.invokestatic 74, 3) := by decide +kernel
theorem d_L_law_219 : decode b_L_law 219 = .ok (.istore 5, 2) := by decide +kernel
theorem d_L_law_221 : decode b_L_law 221 = .ok (.aload_n 2, 1) := by decide +kernel
theorem d_L_law_222 : decode b_L_law 222 = .ok (.invokevirtual 77, 3) := by decide +kernel
theorem d_L_law_225 : decode b_L_law 225 = .ok (.istore 6, 2) := by decide +kernel
theorem d_L_law_227 : decode b_L_law 227 = .ok (.goto 199, 3) := by decide +kernel
theorem d_L_law_230 : decode b_L_law 230 = .ok (.aload_n 1, 1) := by decide +kernel
theorem d_L_law_231 : decode b_L_law 231 = .ok (.aload_n 3, 1) := by decide +kernel
theorem d_L_law_232 : decode b_L_law 232 = .ok (.invokestatic 78, 3) := by decide +kernel
theorem d_L_law_235 : decode b_L_law 235 = .ok (.istore 5, 2) := by decide +kernel
theorem d_L_law_237 : decode b_L_law 237 = .ok (.aload_n 2, 1) := by decide +kernel
theorem d_L_law_238 : decode b_L_law 238 = .ok (.invokevirtual 80, 3) := by decide +kernel
theorem d_L_law_241 : decode b_L_law 241 = .ok (.istore 6, 2) := by decide +kernel
theorem d_L_law_243 : decode b_L_law 243 = .ok (.goto 183, 3) := by decide +kernel
theorem d_L_law_246 : decode b_L_law 246 = .ok (.aload_n 1, 1) := by decide +kernel
theorem d_L_law_247 : decode b_L_law 247 = .ok (.aload_n 0, 1) := by decide +kernel
theorem d_L_law_248 : decode b_L_law 248 = .ok (.iload 4, 2) := by decide +kernel
theorem d_L_law_250 : decode b_L_law 250 = .ok (.iconst 1, 1) := by decide +kernel
theorem d_L_law_251 : decode b_L_law 251 = .ok (.iadd, 1) := by decide +kernel
theorem d_L_law_252 : decode b_L_law 252 = .ok (.iaload, 1) := by decide +kernel
theorem d_L_law_253 : decode b_L_law 253 = .ok (.aload_n 3, 1) := by decide +kernel
theorem d_L_law_254 : decode b_L_law 254 = .ok (.invokestatic 81, 3) := by decide +kernel
theorem d_L_law_257 : decode b_L_law 257 = .ok (.istore 5, 2) := by decide +kernel
theorem d_L_law_259 : decode b_L_law 259 = .ok (.aload_n 2, 1) := by decide +kernel
theorem d_L_law_260 : decode b_L_law 260 = .ok (.aload_n 0, 1) := by decide +kernel
theorem d_L_law_261 : decode b_L_law 261 = .ok (.iload 4, 2) := by decide +kernel
theorem d_L_law_263 : decode b_L_law 263 = .ok (.iconst 1, 1) := by decide +kernel
theorem d_L_law_264 : decode b_L_law 264 = .ok (.iadd, 1) := by decide +kernel
theorem d_L_law_265 : decode b_L_law 265 = .ok (.iaload, 1) := by decide +kernel
theorem d_L_law_266 : decode b_L_law 266 = .ok (.invokevirtual 83, 3) := by decide +kernel
theorem d_L_law_269 : decode b_L_law 269 = .ok (.istore 6, 2) := by decide +kernel
theorem d_L_law_271 : decode b_L_law 271 = .ok (.goto 155, 3) := by decide +kernel
theorem d_L_law_274 : decode b_L_law 274 = .ok (.aload_n 1, 1) := by decide +kernel
theorem d_L_law_275 : decode b_L_law 275 = .ok (.aload_n 0, 1) := by decide +kernel
theorem d_L_law_276 : decode b_L_law 276 = .ok (.iload 4, 2) := by decide +kernel
theorem d_L_law_278 : decode b_L_law 278 = .ok (.iconst 1, 1) := by decide +kernel
theorem d_L_law_279 : decode b_L_law 279 = .ok (.iadd, 1) := by decide +kernel
theorem d_L_law_280 : decode b_L_law 280 = .ok (.iaload, 1) := by decide +kernel
theorem d_L_law_281 : decode b_L_law 281 = .ok (.aload_n 0, 1) := by decide +kernel
theorem d_L_law_282 : decode b_L_law 282 = .ok (.iload 4, 2) := by decide +kernel
theorem d_L_law_284 : decode b_L_law 284 = .ok (.iconst 2, 1) := by decide +kernel
theorem d_L_law_285 : decode b_L_law 285 = .ok (.iadd, 1) := by decide +kernel
theorem d_L_law_286 : decode b_L_law 286 = .ok (.iaload, 1) := by decide +kernel
theorem d_L_law_287 : decode b_L_law 287 = .ok (.aload_n 3, 1) := by decide +kernel
theorem d_L_law_288 : decode b_L_law 288 = .ok (.invokestatic 84, 3) := by decide +kernel
theorem d_L_law_291 : decode b_L_law 291 = .ok (.istore 5, 2) := by decide +kernel
theorem d_L_law_293 : decode b_L_law 293 = .ok (.aload_n 2, 1) := by decide +kernel
theorem d_L_law_294 : decode b_L_law 294 = .ok (.aload_n 0, 1) := by decide +kernel
theorem d_L_law_295 : decode b_L_law 295 = .ok (.iload 4, 2) := by decide +kernel
theorem d_L_law_297 : decode b_L_law 297 = .ok (.iconst 1, 1) := by decide +kernel
theorem d_L_law_298 : decode b_L_law 298 = .ok (.iadd, 1) := by decide +kernel
theorem d_L_law_299 : decode b_L_law 299 = .ok (.iaload, 1) := by decide +kernel
theorem d_L_law_300 : decode b_L_law 300 = .ok (.aload_n 0, 1) := by decide +kernel
theorem d_L_law_301 : decode b_L_law 301 = .ok (.iload 4, 2) := by decide +kernel
theorem d_L_law_303 : decode b_L_law 303 = .ok (.iconst 2, 1) := by decide +kernel
