theorem d_L_law_27 : decode b_L_law 27 = .ok (.iconst 4, 1) := by decide +kernel
theorem d_L_law_28 : decode b_L_law 28 = .ok (.isub, 1) := by decide +kernel
theorem d_L_law_29 : decode b_L_law 29 = .ok (.if_icmp .gt 386, 3) := by decide +kernel
theorem d_L_law_32 : decode b_L_law 32 = .ok (.aload_n 0, 1) := by decide +kernel
theorem d_L_law_33 : decode b_L_law 33 = .ok (.iload 4, 2) := by decide +kernel
theorem d_L_law_35 : decode b_L_law 35 = .ok (.iaload, 1) := by decide +kernel
theorem d_L_law_36 : decode b_L_law 36 = .ok (.bipush 15, 2) := by decide +kernel
theorem d_L_law_38 : decode b_L_law 38 = .ok (.iand, 1) := by decide +kernel
theorem d_L_law_39 : decode b_L_law 39 = .ok (.tableswitch 370 0 9 #[53, 133, 161, 186, 202, 218, 246, 286, 314, 342], 53) := by decide +kernel
theorem d_L_law_92 : decode b_L_law 92 = .ok (.aload_n 1, 1) := by decide +kernel
theorem d_L_law_93 : decode b_L_law 93 = .ok (.aload_n 0, 1) := by decide +kernel
theorem d_L_law_94 : decode b_L_law 94 = .ok (.iload 4, 2) := by decide +kernel
theorem d_L_law_96 : decode b_L_law 96 = .ok (.iconst 1, 1) := by decide +kernel
theorem d_L_law_97 : decode b_L_law 97 = .ok (.iadd, 1) := by decide +kernel
theorem d_L_law_98 : decode b_L_law 98 = .ok (.iaload, 1) := by decide +kernel
theorem d_L_law_99 : decode b_L_law 99 = .ok (.i2l, 1) := by decide +kernel
theorem d_L_law_100 : decode b_L_law 100 = .ok (.bipush 32, 2) := by decide +kernel
theorem d_L_law_102 : decode b_L_law 102 = .ok (.lshl, 1) := by decide +kernel
theorem d_L_law_103 : decode b_L_law 103 = .ok (.aload_n 0, 1) := by decide +kernel
theorem d_L_law_104 : decode b_L_law 104 = .ok (.iload 4, 2) := by decide +kernel
theorem d_L_law_106 : decode b_L_law 106 = .ok (.iconst 2, 1) := by decide +kernel
theorem d_L_law_107 : decode b_L_law 107 = .ok (.iadd, 1) := by decide +kernel
theorem d_L_law_108 : decode b_L_law 108 = .ok (.iaload, 1) := by decide +kernel
theorem d_L_law_109 : decode b_L_law 109 = .ok (.i2l, 1) := by decide +kernel
theorem d_L_law_110 : decode b_L_law 110 = .ok (.ldc2_w 58, 3) := by decide +kernel
theorem d_L_law_113 : decode b_L_law 113 = .ok (.land, 1) := by decide +kernel
theorem d_L_law_114 : decode b_L_law 114 = .ok (.lor, 1) := by decide +kernel
theorem d_L_law_115 : decode b_L_law 115 = .ok (.aload_n 0, 1) := by decide +kernel
theorem d_L_law_116 : decode b_L_law 116 = .ok (.iload 4, 2) := by decide +kernel
theorem d_L_law_118 : decode b_L_law 118 = .ok (.iconst 3, 1) := by decide +kernel
theorem d_L_law_119 : decode b_L_law 119 = .ok (.iadd, 1) := by decide +kernel
theorem d_L_law_120 : decode b_L_law 120 = .ok (.iaload, 1) := by decide +kernel
theorem d_L_law_121 : decode b_L_law 121 = .ok (.invokestatic 60, 3) := by decide +kernel
theorem d_L_law_124 : decode b_L_law 124 = .ok (.istore 5, 2) := by decide +kernel
theorem d_L_law_126 : decode b_L_law 126 = .ok (.aload_n 2, 1) := by decide +kernel
theorem d_L_law_127 : decode b_L_law 127 = .ok (.aload_n 0, 1) := by decide +kernel
theorem d_L_law_128 : decode b_L_law 128 = .ok (.iload 4, 2) := by decide +kernel
theorem d_L_law_130 : decode b_L_law 130 = .ok (.iconst 1, 1) := by decide +kernel
theorem d_L_law_131 : decode b_L_law 131 = .ok (.iadd, 1) := by decide +kernel
theorem d_L_law_132 : decode b_L_law 132 = .ok (.iaload, 1) := by decide +kernel
theorem d_L_law_133 : decode b_L_law 133 = .ok (.i2l, 1) := by decide +kernel
theorem d_L_law_134 : decode b_L_law 134 = .ok (.bipush 32, 2) := by decide +kernel
theorem d_L_law_136 : decode b_L_law 136 = .ok (.lshl, 1) := by decide +kernel
theorem d_L_law_137 : decode b_L_law 137 = .ok (.aload_n 0, 1) := by decide +kernel
theorem d_L_law_138 : decode b_L_law 138 = .ok (.iload 4, 2) := by decide +kernel
theorem d_L_law_140 : decode b_L_law 140 = .ok (.iconst 2, 1) := by decide +kernel
theorem d_L_law_141 : decode b_L_law 141 = .ok (.iadd, 1) := by decide +kernel
theorem d_L_law_142 : decode b_L_law 142 = .ok (.iaload, 1) := by decide +kernel
theorem d_L_law_143 : decode b_L_law 143 = .ok (.i2l, 1) := by decide +kernel
theorem d_L_law_144 : decode b_L_law 144 = .ok (.ldc2_w 58, 3) := by decide +kernel
theorem d_L_law_147 : decode b_L_law 147 = .ok (.land, 1) := by decide +kernel
theorem d_L_law_148 : decode b_L_law 148 = .ok (.lor, 1) := by decide +kernel
theorem d_L_law_149 : decode b_L_law 149 = .ok (.aload_n 0, 1) := by decide +kernel
theorem d_L_law_150 : decode b_L_law 150 = .ok (.iload 4, 2) := by decide +kernel
theorem d_L_law_152 : decode b_L_law 152 = .ok (.iconst 3, 1) := by decide +kernel
theorem d_L_law_153 : decode b_L_law 153 = .ok (.iadd, 1) := by decide +kernel
theorem d_L_law_154 : decode b_L_law 154 = .ok (.iaload, 1) := by decide +kernel
theorem d_L_law_155 : decode b_L_law 155 = .ok (.invokevirtual 65, 3) := by decide +kernel
theorem d_L_law_158 : decode b_L_law 158 = .ok (.aload_n 2, 1) := by decide +kernel
theorem d_L_law_159 : decode b_L_law 159 = .ok (.invokevirtual 66, 3) := by decide +kernel
theorem d_L_law_162 : decode b_L_law 162 = .ok (.iload 5, 2) := by decide +kernel
theorem d_L_law_164 : decode b_L_law 164 = .ok (.if_icmp .eq 5, 3) := by decide +kernel
theorem d_L_law_169 : decode b_L_law 169 = .ok (.goto 240, 3) := by decide +kernel
theorem d_L_law_172 : decode b_L_law 172 = .ok (.aload_n 1, 1) := by decide +kernel
theorem d_L_law_173 : decode b_L_law 173 = .ok (.aload_n 0, 1) := by decide +kernel
theorem d_L_law_174 : decode b_L_law 174 = .ok (.iload 4, 2) := by decide +kernel
theorem d_L_law_176 : decode b_L_law 176 = .ok (.iconst 1, 1) := by decide +kernel
theorem d_L_law_177 : decode b_L_law 177 = .ok (.iadd, 1) := by decide +kernel
theorem d_L_law_178 : decode b_L_law 178 = .ok (.iaload, 1) := by decide +kernel
theorem d_L_law_179 : decode b_L_law 179 = .ok (.aload_n 3, 1) := by decide +kernel
theorem d_L_law_180 : decode b_L_law 180 = .ok (.invokestatic 69, 3) := by decide +kernel
theorem d_L_law_183 : decode b_L_law 183 = .ok (.istore 5, 2) := by decide +kernel
theorem d_L_law_185 : decode b_L_law 185 = .ok (.aload_n 2, 1) := by decide +kernel
theorem d_L_law_186 : decode b_L_law 186 = .ok (.aload_n 0, 1) := by decide +kernel
theorem d_L_law_187 : decode b_L_law 187 = .ok (.iload 4, 2) := by decide +kernel
theorem d_L_law_189 : decode b_L_law 189 = .ok (.iconst 1, 1) := by decide +kernel
theorem d_L_law_190 : decode b_L_law 190 = .ok (.iadd, 1) := by decide +kernel
theorem d_L_law_191 : decode b_L_law 191 = .ok (.iaload, 1) := by decide +kernel
theorem d_L_law_192 : decode b_L_law 192 = .ok (.invokevirtual 72, 3) := by decide +kernel
theorem d_L_law_195 : decode b_L_law 195 = .ok (.istore 6, 2) := by decide +kernel
theorem d_L_law_197 : decode b_L_law 197 = .ok (.goto 212, 3) := by decide +kernel
theorem d_L_law_200 : decode b_L_law 200 = .ok (.aload_n 1, 1) := by decide +kernel
theorem d_L_law_201 : decode b_L_law 201 = .ok (.aload_n 0, 1) := by decide +kernel
theorem d_L_law_202 : decode b_L_law 202 = .ok (.iload 4, 2) := by decide +kernel
theorem d_L_law_204 : decode b_L_law 204 = .ok (.iconst 1, 1) := by decide +kernel
theorem d_L_law_205 : decode b_L_law 205 = .ok (.iadd, 1) := by decide +kernel
theorem d_L_law_206 : decode b_L_law 206 = .ok (.iaload, 1) := by decide +kernel
theorem d_L_law_207 : decode b_L_law 207 = .ok (.invokestatic 73, 3) := by decide +kernel
theorem d_L_law_210 : decode b_L_law 210 = .ok (.istore 5, 2) := by decide +kernel
theorem d_L_law_212 : decode b_L_law 212 = .ok (.aload_n 2, 1) := by decide +kernel
theorem d_L_law_213 : decode b_L_law 213 = .ok (.aload_n 0, 1) := by decide +kernel
theorem d_L_law_214 : decode b_L_law 214 = .ok (.iload 4, 2) := by decide +kernel
theorem d_L_law_216 : decode b_L_law 216 = .ok (.iconst 1, 1) := by decide +kernel
theorem d_L_law_217 : decode b_L_law 217 = .ok (.iadd, 1) := by decide +kernel
theorem d_L_law_218 : decode b_L_law 218 = .ok (.iaload, 1) := by decide +kernel
theorem d_L_law_219 : decode b_L_law 219 = .ok (.invokevirtual 76, 3) := by decide +kernel
theorem d_L_law_222 : decode b_L_law 222 = .ok (.goto 187, 3) := by decide +kernel
theorem d_L_law_225 : decode b_L_law 225 = .ok (.aload_n 1, 1) := by decide +kernel
theorem d_L_law_226 : decode b_L_law 226 = .ok (.aload_n 3, 1) := by decide +kernel
theorem d_L_law_227 : decode b_L_law 227 = .ok (.invokestatic 77, 3) := by decide +kernel
theorem d_L_law_230 : decode b_L_law 230 = .ok (.istore 5, 2) := by decide +kernel
theorem d_L_law_232 : decode b_L_law 232 = .ok (.aload_n 2, 1) := by decide +kernel
theorem d_L_law_233 : decode b_L_law 233 = .ok (.invokevirtual 80, 3) := by decide +kernel
theorem d_L_law_236 : decode b_L_law 236 = .ok (.istore 6, 2) := by decide +kernel
theorem d_L_law_238 : decode b_L_law 238 = .ok (.goto 171, 3) := by decide +kernel
theorem d_L_law_241 : decode b_L_law 241 = .ok (.aload_n 1, 1) := by decide +kernel
theorem d_L_law_242 : decode b_L_law 242 = .ok (.aload_n 3, 1) := by decide +kernel
theorem d_L_law_243 : decode b_L_law 243 = .ok (.invokestatic 81, 3) := by decide +kernel
theorem d_L_law_246 : decode b_L_law 246 = .ok (.istore 5, 2) := by decide +kernel
theorem d_L_law_248 : decode b_L_law 248 = .ok (.aload_n 2, 1) := by decide +kernel
theorem d_L_law_249 : decode b_L_law 249 = .ok (.invokevirtual 83, 3) := by decide +kernel
theorem d_L_law_252 : decode b_L_law 252 = .ok (.istore 6, 2) := by decide +kernel
theorem d_L_law_254 : decode b_L_law 254 = .ok (.goto 155, 3) := by decide +kernel
theorem d_L_law_257 : decode b_L_law 257 = .ok (.aload_n 1, 1) := by decide +kernel
theorem d_L_law_258 : decode b_L_law 258 = .ok (.aload_n 0, 1) := by decide +kernel
theorem d_L_law_259 : decode b_L_law 259 = .ok (.iload 4, 2) := by decide +kernel
theorem d_L_law_261 : decode b_L_law 261 = .ok (.iconst 1, 1) := by decide +kernel
theorem d_L_law_262 : decode b_L_law 262 = .ok (.iadd, 1) := by decide +kernel
theorem d_L_law_263 : decode b_L_law 263 = .ok (.iaload, 1) := by decide +kernel
theorem d_L_law_264 : decode b_L_law 264 = .ok (.aload_n 3, 1) := by decide +kernel
theorem d_L_law_265 : decode b_L_law 265 = .ok (.invokestatic 84, 3) := by decide +kernel
theorem d_L_law_268 : decode b_L_law 268 = .ok (.istore 5, 2) := by decide +kernel
theorem d_L_law_270 : decode b_L_law 270 = .ok (.aload_n 2, 1) := by decide +kernel
theorem d_L_law_271 : decode b_L_law 271 = .ok (.aload_n 0, 1) := by decide +kernel
theorem d_L_law_272 : decode b_L_law 272 = .ok (.iload 4, 2) := by decide +kernel
theorem d_L_law_274 : decode b_L_law 274 = .ok (.iconst 1, 1) := by decide +kernel
theorem d_L_law_275 : decode b_L_law 275 = .ok (.iadd, 1) := by decide +kernel
theorem d_L_law_276 : decode b_L_law 276 = .ok (.iaload, 1) := by decide +kernel
theorem d_L_law_277 : decode b_L_law 277 = .ok (.invokevirtual 86, 3) := by decide +kernel
theorem d_L_law_280 : decode b_L_law 280 = .ok (.istore 6, 2) := by decide +kernel
theorem d_L_law_282 : decode b_L_law 282 = .ok (.goto 127, 3) := by decide +kernel
theorem d_L_law_285 : decode b_L_law 285 = .ok (.aload_n 1, 1) := by decide +kernel
theorem d_L_law_286 : decode b_L_law 286 = .ok (.aload_n 0, 1) := by decide +kernel
theorem d_L_law_287 : decode b_L_law 287 = .ok (.iload 4, 2) := by decide +kernel
theorem d_L_law_289 : decode b_L_law 289 = .ok (.iconst 1, 1) := by decide +kernel
theorem d_L_law_290 : decode b_L_law 290 = .ok (.iadd, 1) := by decide +kernel
theorem d_L_law_291 : decode b_L_law 291 = .ok (.iaload, 1) := by decide +kernel
theorem d_L_law_292 : decode b_L_law 292 = .ok (.aload_n 0, 1) := by decide +kernel
theorem d_L_law_293 : decode b_L_law 293 = .ok (.iload 4, 2) := by decide +kernel
theorem d_L_law_295 : decode b_L_law 295 = .ok (.iconst 2, 1) := by decide +kernel
theorem d_L_law_296 : decode b_L_law 296 = .ok (.iadd, 1) := by decide +kernel
theorem d_L_law_297 : decode b_L_law 297 = .ok (.iaload, 1) := by decide +kernel
theorem d_L_law_298 : decode b_L_law 298 = .ok (.aload_n 3, 1) := by decide +kernel
theorem d_L_law_299 : decode b_L_law 299 = .ok (.invokestatic 87, 3) := by decide +kernel
theorem d_L_law_302 : decode b_L_law 302 = .ok (.istore 5, 2) := by decide +kernel
theorem d_L_law_304 : decode b_L_law 304 = .ok (.aload_n 2, 1) := by decide +kernel
theorem d_L_law_305 : decode b_L_law 305 = .ok (.aload_n 0, 1) := by decide +kernel
theorem d_L_law_306 : decode b_L_law 306 = .ok (.iload 4, 2) := by decide +kernel
theorem d_L_law_308 : decode b_L_law 308 = .ok (.iconst 1, 1) := by decide +kernel
theorem d_L_law_309 : decode b_L_law 309 = .ok (.iadd, 1) := by decide +kernel
