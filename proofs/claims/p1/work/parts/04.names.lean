abbrev b_M_init : ByteArray := prog_8_method_1_code
abbrev y_M_init : MethodName := ⟨"TwoPassModel", "<init>", "()V"⟩
theorem kc_M_init : (.code y_M_init b_M_init 1 none : Cond) ∈ tp_G := tp_Gm 1141 (by decide +kernel) (by decide +kernel)
def w_M_init : List Cond := .code y_M_init b_M_init 1 none :: tp_G
theorem km_M_init : (.instanceMethod y_M_init : Cond) ∈ tp_G := tp_Gm 1140 (by decide +kernel) (by decide +kernel)
theorem d_M_init_0 : decode b_M_init 0 = .ok (.aload_n 0, 1) := by decide +kernel
theorem d_M_init_1 : decode b_M_init 1 = .ok (.invokespecial 1, 3) := by decide +kernel
theorem d_M_init_4 : decode b_M_init 4 = .ok (.aload_n 0, 1) := by decide +kernel
theorem d_M_init_5 : decode b_M_init 5 = .ok (.bipush 46, 2) := by decide +kernel
theorem d_M_init_7 : decode b_M_init 7 = .ok (.newarray .long, 2) := by decide +kernel
theorem d_M_init_9 : decode b_M_init 9 = .ok (.putfield 7, 3) := by decide +kernel
theorem d_M_init_12 : decode b_M_init 12 = .ok (.aload_n 0, 1) := by decide +kernel
theorem d_M_init_13 : decode b_M_init 13 = .ok (.bipush 46, 2) := by decide +kernel
theorem d_M_init_15 : decode b_M_init 15 = .ok (.newarray .int, 2) := by decide +kernel
theorem d_M_init_17 : decode b_M_init 17 = .ok (.putfield 13, 3) := by decide +kernel
theorem d_M_init_20 : decode b_M_init 20 = .ok (.aload_n 0, 1) := by decide +kernel
theorem d_M_init_21 : decode b_M_init 21 = .ok (.bipush 28, 2) := by decide +kernel
theorem d_M_init_23 : decode b_M_init 23 = .ok (.newarray .int, 2) := by decide +kernel
theorem d_M_init_25 : decode b_M_init 25 = .ok (.putfield 17, 3) := by decide +kernel
theorem d_M_init_28 : decode b_M_init 28 = .ok (.aload_n 0, 1) := by decide +kernel
theorem d_M_init_29 : decode b_M_init 29 = .ok (.bipush 28, 2) := by decide +kernel
theorem d_M_init_31 : decode b_M_init 31 = .ok (.newarray .int, 2) := by decide +kernel
theorem d_M_init_33 : decode b_M_init 33 = .ok (.putfield 20, 3) := by decide +kernel
theorem d_M_init_36 : decode b_M_init 36 = .ok (.aload_n 0, 1) := by decide +kernel
theorem d_M_init_37 : decode b_M_init 37 = .ok (.iconst 2, 1) := by decide +kernel
theorem d_M_init_38 : decode b_M_init 38 = .ok (.newarray .int, 2) := by decide +kernel
theorem d_M_init_40 : decode b_M_init 40 = .ok (.putfield 23, 3) := by decide +kernel
theorem d_M_init_43 : decode b_M_init 43 = .ok (.aload_n 0, 1) := by decide +kernel
theorem d_M_init_44 : decode b_M_init 44 = .ok (.bipush 32, 2) := by decide +kernel
theorem d_M_init_46 : decode b_M_init 46 = .ok (.newarray .int, 2) := by decide +kernel
theorem d_M_init_48 : decode b_M_init 48 = .ok (.putfield 26, 3) := by decide +kernel
theorem d_M_init_51 : decode b_M_init 51 = .ok (.aload_n 0, 1) := by decide +kernel
theorem d_M_init_52 : decode b_M_init 52 = .ok (.bipush 32, 2) := by decide +kernel
theorem d_M_init_54 : decode b_M_init 54 = .ok (.newarray .int, 2) := by decide +kernel
theorem d_M_init_56 : decode b_M_init 56 = .ok (.putfield 29, 3) := by decide +kernel
theorem d_M_init_59 : decode b_M_init 59 = .ok (.aload_n 0, 1) := by decide +kernel
theorem d_M_init_60 : decode b_M_init 60 = .ok (.bipush 32, 2) := by decide +kernel
theorem d_M_init_62 : decode b_M_init 62 = .ok (.newarray .int, 2) := by decide +kernel
theorem d_M_init_64 : decode b_M_init 64 = .ok (.putfield 32, 3) := by decide +kernel
theorem d_M_init_67 : decode b_M_init 67 = .ok (.aload_n 0, 1) := by decide +kernel
theorem d_M_init_68 : decode b_M_init 68 = .ok (.bipush 32, 2) := by decide +kernel
theorem d_M_init_70 : decode b_M_init 70 = .ok (.newarray .int, 2) := by decide +kernel
theorem d_M_init_72 : decode b_M_init 72 = .ok (.putfield 35, 3) := by decide +kernel
theorem d_M_init_75 : decode b_M_init 75 = .ok (.aload_n 0, 1) := by decide +kernel
theorem d_M_init_76 : decode b_M_init 76 = .ok (.bipush 32, 2) := by decide +kernel
theorem d_M_init_78 : decode b_M_init 78 = .ok (.newarray .int, 2) := by decide +kernel
theorem d_M_init_80 : decode b_M_init 80 = .ok (.putfield 38, 3) := by decide +kernel
theorem d_M_init_83 : decode b_M_init 83 = .ok (.aload_n 0, 1) := by decide +kernel
theorem d_M_init_84 : decode b_M_init 84 = .ok (.bipush 32, 2) := by decide +kernel
theorem d_M_init_86 : decode b_M_init 86 = .ok (.newarray .long, 2) := by decide +kernel
theorem d_M_init_88 : decode b_M_init 88 = .ok (.putfield 41, 3) := by decide +kernel
theorem d_M_init_91 : decode b_M_init 91 = .ok (.aload_n 0, 1) := by decide +kernel
theorem d_M_init_92 : decode b_M_init 92 = .ok (.bipush 32, 2) := by decide +kernel
theorem d_M_init_94 : decode b_M_init 94 = .ok (.newarray .long, 2) := by decide +kernel
theorem d_M_init_96 : decode b_M_init 96 = .ok (.putfield 44, 3) := by decide +kernel
theorem d_M_init_99 : decode b_M_init 99 = .ok (.aload_n 0, 1) := by decide +kernel
theorem d_M_init_100 : decode b_M_init 100 = .ok (.bipush 32, 2) := by decide +kernel
theorem d_M_init_102 : decode b_M_init 102 = .ok (.newarray .long, 2) := by decide +kernel
theorem d_M_init_104 : decode b_M_init 104 = .ok (.putfield 47, 3) := by decide +kernel
theorem d_M_init_107 : decode b_M_init 107 = .ok (.aload_n 0, 1) := by decide +kernel
theorem d_M_init_108 : decode b_M_init 108 = .ok (.bipush 32, 2) := by decide +kernel
theorem d_M_init_110 : decode b_M_init 110 = .ok (.newarray .int, 2) := by decide +kernel
theorem d_M_init_112 : decode b_M_init 112 = .ok (.putfield 50, 3) := by decide +kernel
theorem d_M_init_115 : decode b_M_init 115 = .ok (.aload_n 0, 1) := by decide +kernel
theorem d_M_init_116 : decode b_M_init 116 = .ok (.bipush 32, 2) := by decide +kernel
theorem d_M_init_118 : decode b_M_init 118 = .ok (.newarray .int, 2) := by decide +kernel
theorem d_M_init_120 : decode b_M_init 120 = .ok (.putfield 53, 3) := by decide +kernel
theorem d_M_init_123 : decode b_M_init 123 = .ok (.aload_n 0, 1) := by decide +kernel
theorem d_M_init_124 : decode b_M_init 124 = .ok (.bipush 32, 2) := by decide +kernel
theorem d_M_init_126 : decode b_M_init 126 = .ok (.newarray .boolean, 2) := by decide +kernel
theorem d_M_init_128 : decode b_M_init 128 = .ok (.putfield 56, 3) := by decide +kernel
theorem d_M_init_131 : decode b_M_init 131 = .ok (.aload_n 0, 1) := by decide +kernel
theorem d_M_init_132 : decode b_M_init 132 = .ok (.iconst (-1), 1) := by decide +kernel
theorem d_M_init_133 : decode b_M_init 133 = .ok (.putfield 60, 3) := by decide +kernel
theorem d_M_init_136 : decode b_M_init 136 = .ok (.aload_n 0, 1) := by decide +kernel
theorem d_M_init_137 : decode b_M_init 137 = .ok (.sipush 16384, 3) := by decide +kernel
theorem d_M_init_140 : decode b_M_init 140 = .ok (.newarray .int, 2) := by decide +kernel
theorem d_M_init_142 : decode b_M_init 142 = .ok (.putfield 64, 3) := by decide +kernel
theorem d_M_init_145 : decode b_M_init 145 = .ok (.aload_n 0, 1) := by decide +kernel
theorem d_M_init_146 : decode b_M_init 146 = .ok (.bipush 40, 2) := by decide +kernel
theorem d_M_init_148 : decode b_M_init 148 = .ok (.newarray .int, 2) := by decide +kernel
theorem d_M_init_150 : decode b_M_init 150 = .ok (.putfield 67, 3) := by decide +kernel
theorem d_M_init_153 : decode b_M_init 153 = .ok (.aload_n 0, 1) := by decide +kernel
theorem d_M_init_154 : decode b_M_init 154 = .ok (.getfield 7, 3) := by decide +kernel
theorem d_M_init_157 : decode b_M_init 157 = .ok (.iconst 0, 1) := by decide +kernel
theorem d_M_init_158 : decode b_M_init 158 = .ok (.ldc2_w 70, 3) := by decide +kernel
theorem d_M_init_161 : decode b_M_init 161 = .ok (.lastore, 1) := by decide +kernel
theorem d_M_init_162 : decode b_M_init 162 = .ok (.aload_n 0, 1) := by decide +kernel
theorem d_M_init_163 : decode b_M_init 163 = .ok (.getfield 7, 3) := by decide +kernel
theorem d_M_init_166 : decode b_M_init 166 = .ok (.iconst 1, 1) := by decide +kernel
theorem d_M_init_167 : decode b_M_init 167 = .ok (.ldc2_w 72, 3) := by decide +kernel
theorem d_M_init_170 : decode b_M_init 170 = .ok (.lastore, 1) := by decide +kernel
theorem d_M_init_171 : decode b_M_init 171 = .ok (.aload_n 0, 1) := by decide +kernel
theorem d_M_init_172 : decode b_M_init 172 = .ok (.getfield 7, 3) := by decide +kernel
theorem d_M_init_175 : decode b_M_init 175 = .ok (.iconst 2, 1) := by decide +kernel
theorem d_M_init_176 : decode b_M_init 176 = .ok (.ldc2_w 74, 3) := by decide +kernel
theorem d_M_init_179 : decode b_M_init 179 = .ok (.lastore, 1) := by decide +kernel
theorem d_M_init_180 : decode b_M_init 180 = .ok (.aload_n 0, 1) := by decide +kernel
theorem d_M_init_181 : decode b_M_init 181 = .ok (.getfield 7, 3) := by decide +kernel
theorem d_M_init_184 : decode b_M_init 184 = .ok (.iconst 3, 1) := by decide +kernel
theorem d_M_init_185 : decode b_M_init 185 = .ok (.ldc2_w 76, 3) := by decide +kernel
theorem d_M_init_188 : decode b_M_init 188 = .ok (.lastore, 1) := by decide +kernel
theorem d_M_init_189 : decode b_M_init 189 = .ok (.aload_n 0, 1) := by decide +kernel
theorem d_M_init_190 : decode b_M_init 190 = .ok (.getfield 7, 3) := by decide +kernel
theorem d_M_init_193 : decode b_M_init 193 = .ok (.iconst 4, 1) := by decide +kernel
theorem d_M_init_194 : decode b_M_init 194 = .ok (.ldc2_w 78, 3) := by decide +kernel
theorem d_M_init_197 : decode b_M_init 197 = .ok (.lastore, 1) := by decide +kernel
theorem d_M_init_198 : decode b_M_init 198 = .ok (.aload_n 0, 1) := by decide +kernel
theorem d_M_init_199 : decode b_M_init 199 = .ok (.getfield 7, 3) := by decide +kernel
theorem d_M_init_202 : decode b_M_init 202 = .ok (.iconst 5, 1) := by decide +kernel
theorem d_M_init_203 : decode b_M_init 203 = .ok (.ldc2_w 80, 3) := by decide +kernel
theorem d_M_init_206 : decode b_M_init 206 = .ok (.lastore, 1) := by decide +kernel
theorem d_M_init_207 : decode b_M_init 207 = .ok (.aload_n 0, 1) := by decide +kernel
theorem d_M_init_208 : decode b_M_init 208 = .ok (.getfield 7, 3) := by decide +kernel
theorem d_M_init_211 : decode b_M_init 211 = .ok (.bipush 6, 2) := by decide +kernel
theorem d_M_init_213 : decode b_M_init 213 = .ok (.ldc2_w 82, 3) := by decide +kernel
theorem d_M_init_216 : decode b_M_init 216 = .ok (.lastore, 1) := by decide +kernel
theorem d_M_init_217 : decode b_M_init 217 = .ok (.aload_n 0, 1) := by decide +kernel
theorem d_M_init_218 : decode b_M_init 218 = .ok (.getfield 7, 3) := by decide +kernel
theorem d_M_init_221 : decode b_M_init 221 = .ok (.bipush 7, 2) := by decide +kernel
theorem d_M_init_223 : decode b_M_init 223 = .ok (.ldc2_w 84, 3) := by decide +kernel
theorem d_M_init_226 : decode b_M_init 226 = .ok (.lastore, 1) := by decide +kernel
theorem d_M_init_227 : decode b_M_init 227 = .ok (.aload_n 0, 1) := by decide +kernel
theorem d_M_init_228 : decode b_M_init 228 = .ok (.getfield 7, 3) := by decide +kernel
theorem d_M_init_231 : decode b_M_init 231 = .ok (.bipush 8, 2) := by decide +kernel
theorem d_M_init_233 : decode b_M_init 233 = .ok (.ldc2_w 86, 3) := by decide +kernel
theorem d_M_init_236 : decode b_M_init 236 = .ok (.lastore, 1) := by decide +kernel
theorem d_M_init_237 : decode b_M_init 237 = .ok (.aload_n 0, 1) := by decide +kernel
theorem d_M_init_238 : decode b_M_init 238 = .ok (.getfield 7, 3) := by decide +kernel
theorem d_M_init_241 : decode b_M_init 241 = .ok (.bipush 9, 2) := by decide +kernel
theorem d_M_init_243 : decode b_M_init 243 = .ok (.ldc2_w 88, 3) := by decide +kernel
theorem d_M_init_246 : decode b_M_init 246 = .ok (.lastore, 1) := by decide +kernel
theorem d_M_init_247 : decode b_M_init 247 = .ok (.aload_n 0, 1) := by decide +kernel
theorem d_M_init_248 : decode b_M_init 248 = .ok (.getfield 7, 3) := by decide +kernel
theorem d_M_init_251 : decode b_M_init 251 = .ok (.bipush 10, 2) := by decide +kernel
theorem d_M_init_253 : decode b_M_init 253 = .ok (.ldc2_w 90, 3) := by decide +kernel
theorem d_M_init_256 : decode b_M_init 256 = .ok (.lastore, 1) := by decide +kernel
theorem d_M_init_257 : decode b_M_init 257 = .ok (.aload_n 0, 1) := by decide +kernel
theorem d_M_init_258 : decode b_M_init 258 = .ok (.getfield 7, 3) := by decide +kernel
theorem d_M_init_261 : decode b_M_init 261 = .ok (.bipush 11, 2) := by decide +kernel
theorem d_M_init_263 : decode b_M_init 263 = .ok (.ldc2_w 92, 3) := by decide +kernel
theorem d_M_init_266 : decode b_M_init 266 = .ok (.lastore, 1) := by decide +kernel
theorem d_M_init_267 : decode b_M_init 267 = .ok (.aload_n 0, 1) := by decide +kernel
theorem d_M_init_268 : decode b_M_init 268 = .ok (.getfield 7, 3) := by decide +kernel
theorem d_M_init_271 : decode b_M_init 271 = .ok (.bipush 12, 2) := by decide +kernel
theorem d_M_init_273 : decode b_M_init 273 = .ok (.ldc2_w 94, 3) := by decide +kernel
theorem d_M_init_276 : decode b_M_init 276 = .ok (.lastore, 1) := by decide +kernel
theorem d_M_init_277 : decode b_M_init 277 = .ok (.aload_n 0, 1) := by decide +kernel
theorem d_M_init_278 : decode b_M_init 278 = .ok (.getfield 7, 3) := by decide +kernel
theorem d_M_init_281 : decode b_M_init 281 = .ok (.bipush 13, 2) := by decide +kernel
theorem d_M_init_283 : decode b_M_init 283 = .ok (.ldc2_w 96, 3) := by decide +kernel
theorem d_M_init_286 : decode b_M_init 286 = .ok (.lastore, 1) := by decide +kernel
theorem d_M_init_287 : decode b_M_init 287 = .ok (.aload_n 0, 1) := by decide +kernel
theorem d_M_init_288 : decode b_M_init 288 = .ok (.getfield 7, 3) := by decide +kernel
theorem d_M_init_291 : decode b_M_init 291 = .ok (.bipush 14, 2) := by decide +kernel
theorem d_M_init_293 : decode b_M_init 293 = .ok (.ldc2_w 98, 3) := by decide +kernel
theorem d_M_init_296 : decode b_M_init 296 = .ok (.lastore, 1) := by decide +kernel
theorem d_M_init_297 : decode b_M_init 297 = .ok (.aload_n 0, 1) := by decide +kernel
theorem d_M_init_298 : decode b_M_init 298 = .ok (.getfield 7, 3) := by decide +kernel
theorem d_M_init_301 : decode b_M_init 301 = .ok (.bipush 15, 2) := by decide +kernel
theorem d_M_init_303 : decode b_M_init 303 = .ok (.ldc2_w 100, 3) := by decide +kernel
theorem d_M_init_306 : decode b_M_init 306 = .ok (.lastore, 1) := by decide +kernel
theorem d_M_init_307 : decode b_M_init 307 = .ok (.aload_n 0, 1) := by decide +kernel
theorem d_M_init_308 : decode b_M_init 308 = .ok (.getfield 7, 3) := by decide +kernel
theorem d_M_init_311 : decode b_M_init 311 = .ok (.bipush 16, 2) := by decide +kernel
theorem d_M_init_313 : decode b_M_init 313 = .ok (.ldc2_w 102, 3) := by decide +kernel
theorem d_M_init_316 : decode b_M_init 316 = .ok (.lastore, 1) := by decide +kernel
theorem d_M_init_317 : decode b_M_init 317 = .ok (.aload_n 0, 1) := by decide +kernel
theorem d_M_init_318 : decode b_M_init 318 = .ok (.getfield 7, 3) := by decide +kernel
theorem d_M_init_321 : decode b_M_init 321 = .ok (.bipush 17, 2) := by decide +kernel
theorem d_M_init_323 : decode b_M_init 323 = .ok (.ldc2_w 104, 3) := by decide +kernel
theorem d_M_init_326 : decode b_M_init 326 = .ok (.lastore, 1) := by decide +kernel
theorem d_M_init_327 : decode b_M_init 327 = .ok (.aload_n 0, 1) := by decide +kernel
theorem d_M_init_328 : decode b_M_init 328 = .ok (.getfield 7, 3) := by decide +kernel
theorem d_M_init_331 : decode b_M_init 331 = .ok (.bipush 18, 2) := by decide +kernel
theorem d_M_init_333 : decode b_M_init 333 = .ok (.ldc2_w 106, 3) := by decide +kernel
theorem d_M_init_336 : decode b_M_init 336 = .ok (.lastore, 1) := by decide +kernel
theorem d_M_init_337 : decode b_M_init 337 = .ok (.aload_n 0, 1) := by decide +kernel
theorem d_M_init_338 : decode b_M_init 338 = .ok (.getfield 7, 3) := by decide +kernel
theorem d_M_init_341 : decode b_M_init 341 = .ok (.bipush 19, 2) := by decide +kernel
theorem d_M_init_343 : decode b_M_init 343 = .ok (.ldc2_w 108, 3) := by decide +kernel
theorem d_M_init_346 : decode b_M_init 346 = .ok (.lastore, 1) := by decide +kernel
theorem d_M_init_347 : decode b_M_init 347 = .ok (.aload_n 0, 1) := by decide +kernel
theorem d_M_init_348 : decode b_M_init 348 = .ok (.getfield 7, 3) := by decide +kernel
theorem d_M_init_351 : decode b_M_init 351 = .ok (.bipush 20, 2) := by decide +kernel
theorem d_M_init_353 : decode b_M_init 353 = .ok (.ldc2_w 110, 3) := by decide +kernel
theorem d_M_init_356 : decode b_M_init 356 = .ok (.lastore, 1) := by decide +kernel
theorem d_M_init_357 : decode b_M_init 357 = .ok (.aload_n 0, 1) := by decide +kernel
theorem d_M_init_358 : decode b_M_init 358 = .ok (.getfield 7, 3) := by decide +kernel
theorem d_M_init_361 : decode b_M_init 361 = .ok (.bipush 21, 2) := by decide +kernel
theorem d_M_init_363 : decode b_M_init 363 = .ok (.ldc2_w 112, 3) := by decide +kernel
theorem d_M_init_366 : decode b_M_init 366 = .ok (.lastore, 1) := by decide +kernel
theorem d_M_init_367 : decode b_M_init 367 = .ok (.aload_n 0, 1) := by decide +kernel
theorem d_M_init_368 : decode b_M_init 368 = .ok (.getfield 7, 3) := by decide +kernel
theorem d_M_init_371 : decode b_M_init 371 = .ok (.bipush 22, 2) := by decide +kernel
theorem d_M_init_373 : decode b_M_init 373 = .ok (.ldc2_w 114, 3) := by decide +kernel
theorem d_M_init_376 : decode b_M_init 376 = .ok (.lastore, 1) := by decide +kernel
theorem d_M_init_377 : decode b_M_init 377 = .ok (.aload_n 0, 1) := by decide +kernel
theorem d_M_init_378 : decode b_M_init 378 = .ok (.getfield 7, 3) := by decide +kernel
theorem d_M_init_381 : decode b_M_init 381 = .ok (.bipush 23, 2) := by decide +kernel
theorem d_M_init_383 : decode b_M_init 383 = .ok (.ldc2_w 116, 3) := by decide +kernel
theorem d_M_init_386 : decode b_M_init 386 = .ok (.lastore, 1) := by decide +kernel
theorem d_M_init_387 : decode b_M_init 387 = .ok (.aload_n 0, 1) := by decide +kernel
theorem d_M_init_388 : decode b_M_init 388 = .ok (.getfield 7, 3) := by decide +kernel
theorem d_M_init_391 : decode b_M_init 391 = .ok (.bipush 24, 2) := by decide +kernel
theorem d_M_init_393 : decode b_M_init 393 = .ok (.ldc2_w 118, 3) := by decide +kernel
theorem d_M_init_396 : decode b_M_init 396 = .ok (.lastore, 1) := by decide +kernel
theorem d_M_init_397 : decode b_M_init 397 = .ok (.aload_n 0, 1) := by decide +kernel
theorem d_M_init_398 : decode b_M_init 398 = .ok (.getfield 7, 3) := by decide +kernel
theorem d_M_init_401 : decode b_M_init 401 = .ok (.bipush 25, 2) := by decide +kernel
theorem d_M_init_403 : decode b_M_init 403 = .ok (.ldc2_w 120, 3) := by decide +kernel
theorem d_M_init_406 : decode b_M_init 406 = .ok (.lastore, 1) := by decide +kernel
theorem d_M_init_407 : decode b_M_init 407 = .ok (.aload_n 0, 1) := by decide +kernel
theorem d_M_init_408 : decode b_M_init 408 = .ok (.getfield 7, 3) := by decide +kernel
theorem d_M_init_411 : decode b_M_init 411 = .ok (.bipush 26, 2) := by decide +kernel
theorem d_M_init_413 : decode b_M_init 413 = .ok (.ldc2_w 122, 3) := by decide +kernel
theorem d_M_init_416 : decode b_M_init 416 = .ok (.lastore, 1) := by decide +kernel
theorem d_M_init_417 : decode b_M_init 417 = .ok (.aload_n 0, 1) := by decide +kernel
theorem d_M_init_418 : decode b_M_init 418 = .ok (.getfield 7, 3) := by decide +kernel
theorem d_M_init_421 : decode b_M_init 421 = .ok (.bipush 27, 2) := by decide +kernel
theorem d_M_init_423 : decode b_M_init 423 = .ok (.ldc2_w 124, 3) := by decide +kernel
theorem d_M_init_426 : decode b_M_init 426 = .ok (.lastore, 1) := by decide +kernel
theorem d_M_init_427 : decode b_M_init 427 = .ok (.aload_n 0, 1) := by decide +kernel
theorem d_M_init_428 : decode b_M_init 428 = .ok (.getfield 7, 3) := by decide +kernel
theorem d_M_init_431 : decode b_M_init 431 = .ok (.bipush 28, 2) := by decide +kernel
theorem d_M_init_433 : decode b_M_init 433 = .ok (.ldc2_w 126, 3) := by decide +kernel
theorem d_M_init_436 : decode b_M_init 436 = .ok (.lastore, 1) := by decide +kernel
theorem d_M_init_437 : decode b_M_init 437 = .ok (.aload_n 0, 1) := by decide +kernel
theorem d_M_init_438 : decode b_M_init 438 = .ok (.getfield 7, 3) := by decide +kernel
theorem d_M_init_441 : decode b_M_init 441 = .ok (.bipush 29, 2) := by decide +kernel
theorem d_M_init_443 : decode b_M_init 443 = .ok (.ldc2_w 128, 3) := by decide +kernel
theorem d_M_init_446 : decode b_M_init 446 = .ok (.lastore, 1) := by decide +kernel
theorem d_M_init_447 : decode b_M_init 447 = .ok (.aload_n 0, 1) := by decide +kernel
theorem d_M_init_448 : decode b_M_init 448 = .ok (.getfield 7, 3) := by decide +kernel
theorem d_M_init_451 : decode b_M_init 451 = .ok (.bipush 30, 2) := by decide +kernel
theorem d_M_init_453 : decode b_M_init 453 = .ok (.ldc2_w 130, 3) := by decide +kernel
theorem d_M_init_456 : decode b_M_init 456 = .ok (.lastore, 1) := by decide +kernel
theorem d_M_init_457 : decode b_M_init 457 = .ok (.aload_n 0, 1) := by decide +kernel
theorem d_M_init_458 : decode b_M_init 458 = .ok (.getfield 7, 3) := by decide +kernel
theorem d_M_init_461 : decode b_M_init 461 = .ok (.bipush 31, 2) := by decide +kernel
theorem d_M_init_463 : decode b_M_init 463 = .ok (.ldc2_w 132, 3) := by decide +kernel
theorem d_M_init_466 : decode b_M_init 466 = .ok (.lastore, 1) := by decide +kernel
theorem d_M_init_467 : decode b_M_init 467 = .ok (.aload_n 0, 1) := by decide +kernel
theorem d_M_init_468 : decode b_M_init 468 = .ok (.getfield 7, 3) := by decide +kernel
theorem d_M_init_471 : decode b_M_init 471 = .ok (.bipush 32, 2) := by decide +kernel
theorem d_M_init_473 : decode b_M_init 473 = .ok (.ldc2_w 134, 3) := by decide +kernel
theorem d_M_init_476 : decode b_M_init 476 = .ok (.lastore, 1) := by decide +kernel
theorem d_M_init_477 : decode b_M_init 477 = .ok (.aload_n 0, 1) := by decide +kernel
theorem d_M_init_478 : decode b_M_init 478 = .ok (.getfield 7, 3) := by decide +kernel
theorem d_M_init_481 : decode b_M_init 481 = .ok (.bipush 33, 2) := by decide +kernel
theorem d_M_init_483 : decode b_M_init 483 = .ok (.ldc2_w 136, 3) := by decide +kernel
theorem d_M_init_486 : decode b_M_init 486 = .ok (.lastore, 1) := by decide +kernel
theorem d_M_init_487 : decode b_M_init 487 = .ok (.aload_n 0, 1) := by decide +kernel
theorem d_M_init_488 : decode b_M_init 488 = .ok (.getfield 7, 3) := by decide +kernel
theorem d_M_init_491 : decode b_M_init 491 = .ok (.bipush 34, 2) := by decide +kernel
theorem d_M_init_493 : decode b_M_init 493 = .ok (.ldc2_w 138, 3) := by decide +kernel
theorem d_M_init_496 : decode b_M_init 496 = .ok (.lastore, 1) := by decide +kernel
theorem d_M_init_497 : decode b_M_init 497 = .ok (.aload_n 0, 1) := by decide +kernel
theorem d_M_init_498 : decode b_M_init 498 = .ok (.getfield 7, 3) := by decide +kernel
theorem d_M_init_501 : decode b_M_init 501 = .ok (.bipush 35, 2) := by decide +kernel
theorem d_M_init_503 : decode b_M_init 503 = .ok (.ldc2_w 140, 3) := by decide +kernel
theorem d_M_init_506 : decode b_M_init 506 = .ok (.lastore, 1) := by decide +kernel
theorem d_M_init_507 : decode b_M_init 507 = .ok (.aload_n 0, 1) := by decide +kernel
theorem d_M_init_508 : decode b_M_init 508 = .ok (.getfield 7, 3) := by decide +kernel
theorem d_M_init_511 : decode b_M_init 511 = .ok (.bipush 36, 2) := by decide +kernel
theorem d_M_init_513 : decode b_M_init 513 = .ok (.ldc2_w 142, 3) := by decide +kernel
theorem d_M_init_516 : decode b_M_init 516 = .ok (.lastore, 1) := by decide +kernel
theorem d_M_init_517 : decode b_M_init 517 = .ok (.aload_n 0, 1) := by decide +kernel
theorem d_M_init_518 : decode b_M_init 518 = .ok (.getfield 7, 3) := by decide +kernel
theorem d_M_init_521 : decode b_M_init 521 = .ok (.bipush 37, 2) := by decide +kernel
theorem d_M_init_523 : decode b_M_init 523 = .ok (.ldc2_w 144, 3) := by decide +kernel
theorem d_M_init_526 : decode b_M_init 526 = .ok (.lastore, 1) := by decide +kernel
theorem d_M_init_527 : decode b_M_init 527 = .ok (.aload_n 0, 1) := by decide +kernel
theorem d_M_init_528 : decode b_M_init 528 = .ok (.getfield 7, 3) := by decide +kernel
theorem d_M_init_531 : decode b_M_init 531 = .ok (.bipush 38, 2) := by decide +kernel
theorem d_M_init_533 : decode b_M_init 533 = .ok (.ldc2_w 146, 3) := by decide +kernel
theorem d_M_init_536 : decode b_M_init 536 = .ok (.lastore, 1) := by decide +kernel
theorem d_M_init_537 : decode b_M_init 537 = .ok (.aload_n 0, 1) := by decide +kernel
theorem d_M_init_538 : decode b_M_init 538 = .ok (.getfield 7, 3) := by decide +kernel
theorem d_M_init_541 : decode b_M_init 541 = .ok (.bipush 39, 2) := by decide +kernel
theorem d_M_init_543 : decode b_M_init 543 = .ok (.ldc2_w 148, 3) := by decide +kernel
theorem d_M_init_546 : decode b_M_init 546 = .ok (.lastore, 1) := by decide +kernel
theorem d_M_init_547 : decode b_M_init 547 = .ok (.aload_n 0, 1) := by decide +kernel
theorem d_M_init_548 : decode b_M_init 548 = .ok (.getfield 7, 3) := by decide +kernel
theorem d_M_init_551 : decode b_M_init 551 = .ok (.bipush 40, 2) := by decide +kernel
theorem d_M_init_553 : decode b_M_init 553 = .ok (.ldc2_w 150, 3) := by decide +kernel
theorem d_M_init_556 : decode b_M_init 556 = .ok (.lastore, 1) := by decide +kernel
theorem d_M_init_557 : decode b_M_init 557 = .ok (.aload_n 0, 1) := by decide +kernel
theorem d_M_init_558 : decode b_M_init 558 = .ok (.getfield 7, 3) := by decide +kernel
theorem d_M_init_561 : decode b_M_init 561 = .ok (.bipush 41, 2) := by decide +kernel
theorem d_M_init_563 : decode b_M_init 563 = .ok (.ldc2_w 152, 3) := by decide +kernel
theorem d_M_init_566 : decode b_M_init 566 = .ok (.lastore, 1) := by decide +kernel
theorem d_M_init_567 : decode b_M_init 567 = .ok (.aload_n 0, 1) := by decide +kernel
theorem d_M_init_568 : decode b_M_init 568 = .ok (.getfield 7, 3) := by decide +kernel
theorem d_M_init_571 : decode b_M_init 571 = .ok (.bipush 42, 2) := by decide +kernel
theorem d_M_init_573 : decode b_M_init 573 = .ok (.ldc2_w 154, 3) := by decide +kernel
theorem d_M_init_576 : decode b_M_init 576 = .ok (.lastore, 1) := by decide +kernel
theorem d_M_init_577 : decode b_M_init 577 = .ok (.aload_n 0, 1) := by decide +kernel
theorem d_M_init_578 : decode b_M_init 578 = .ok (.getfield 7, 3) := by decide +kernel
theorem d_M_init_581 : decode b_M_init 581 = .ok (.bipush 43, 2) := by decide +kernel
theorem d_M_init_583 : decode b_M_init 583 = .ok (.ldc2_w 156, 3) := by decide +kernel
theorem d_M_init_586 : decode b_M_init 586 = .ok (.lastore, 1) := by decide +kernel
theorem d_M_init_587 : decode b_M_init 587 = .ok (.aload_n 0, 1) := by decide +kernel
theorem d_M_init_588 : decode b_M_init 588 = .ok (.getfield 7, 3) := by decide +kernel
theorem d_M_init_591 : decode b_M_init 591 = .ok (.bipush 44, 2) := by decide +kernel
theorem d_M_init_593 : decode b_M_init 593 = .ok (.ldc2_w 158, 3) := by decide +kernel
theorem d_M_init_596 : decode b_M_init 596 = .ok (.lastore, 1) := by decide +kernel
theorem d_M_init_597 : decode b_M_init 597 = .ok (.aload_n 0, 1) := by decide +kernel
theorem d_M_init_598 : decode b_M_init 598 = .ok (.getfield 7, 3) := by decide +kernel
theorem d_M_init_601 : decode b_M_init 601 = .ok (.bipush 45, 2) := by decide +kernel
theorem d_M_init_603 : decode b_M_init 603 = .ok (.ldc2_w 160, 3) := by decide +kernel
theorem d_M_init_606 : decode b_M_init 606 = .ok (.lastore, 1) := by decide +kernel
theorem d_M_init_607 : decode b_M_init 607 = .ok (.aload_n 0, 1) := by decide +kernel
theorem d_M_init_608 : decode b_M_init 608 = .ok (.getfield 13, 3) := by decide +kernel
theorem d_M_init_611 : decode b_M_init 611 = .ok (.iconst 0, 1) := by decide +kernel
theorem d_M_init_612 : decode b_M_init 612 = .ok (.ldc 162, 2) := by decide +kernel
theorem d_M_init_614 : decode b_M_init 614 = .ok (.iastore, 1) := by decide +kernel
theorem d_M_init_615 : decode b_M_init 615 = .ok (.aload_n 0, 1) := by decide +kernel
theorem d_M_init_616 : decode b_M_init 616 = .ok (.getfield 13, 3) := by decide +kernel
theorem d_M_init_619 : decode b_M_init 619 = .ok (.iconst 1, 1) := by decide +kernel
theorem d_M_init_620 : decode b_M_init 620 = .ok (.ldc 163, 2) := by decide +kernel
theorem d_M_init_622 : decode b_M_init 622 = .ok (.iastore, 1) := by decide +kernel
theorem d_M_init_623 : decode b_M_init 623 = .ok (.aload_n 0, 1) := by decide +kernel
theorem d_M_init_624 : decode b_M_init 624 = .ok (.getfield 13, 3) := by decide +kernel
theorem d_M_init_627 : decode b_M_init 627 = .ok (.iconst 2, 1) := by decide +kernel
theorem d_M_init_628 : decode b_M_init 628 = .ok (.ldc 164, 2) := by decide +kernel
theorem d_M_init_630 : decode b_M_init 630 = .ok (.iastore, 1) := by decide +kernel
theorem d_M_init_631 : decode b_M_init 631 = .ok (.aload_n 0, 1) := by decide +kernel
theorem d_M_init_632 : decode b_M_init 632 = .ok (.getfield 13, 3) := by decide +kernel
theorem d_M_init_635 : decode b_M_init 635 = .ok (.iconst 3, 1) := by decide +kernel
theorem d_M_init_636 : decode b_M_init 636 = .ok (.ldc 165, 2) := by decide +kernel
theorem d_M_init_638 : decode b_M_init 638 = .ok (.iastore, 1) := by decide +kernel
theorem d_M_init_639 : decode b_M_init 639 = .ok (.aload_n 0, 1) := by decide +kernel
theorem d_M_init_640 : decode b_M_init 640 = .ok (.getfield 13, 3) := by decide +kernel
theorem d_M_init_643 : decode b_M_init 643 = .ok (.iconst 4, 1) := by decide +kernel
theorem d_M_init_644 : decode b_M_init 644 = .ok (.ldc 166, 2) := by decide +kernel
theorem d_M_init_646 : decode b_M_init 646 = .ok (.iastore, 1) := by decide +kernel
theorem d_M_init_647 : decode b_M_init 647 = .ok (.aload_n 0, 1) := by decide +kernel
theorem d_M_init_648 : decode b_M_init 648 = .ok (.getfield 13, 3) := by decide +kernel
theorem d_M_init_651 : decode b_M_init 651 = .ok (.iconst 5, 1) := by decide +kernel
theorem d_M_init_652 : decode b_M_init 652 = .ok (.ldc 167, 2) := by decide +kernel
theorem d_M_init_654 : decode b_M_init 654 = .ok (.iastore, 1) := by decide +kernel
theorem d_M_init_655 : decode b_M_init 655 = .ok (.aload_n 0, 1) := by decide +kernel
theorem d_M_init_656 : decode b_M_init 656 = .ok (.getfield 13, 3) := by decide +kernel
theorem d_M_init_659 : decode b_M_init 659 = .ok (.bipush 6, 2) := by decide +kernel
theorem d_M_init_661 : decode b_M_init 661 = .ok (.ldc 168, 2) := by decide +kernel
theorem d_M_init_663 : decode b_M_init 663 = .ok (.iastore, 1) := by decide +kernel
theorem d_M_init_664 : decode b_M_init 664 = .ok (.aload_n 0, 1) := by decide +kernel
theorem d_M_init_665 : decode b_M_init 665 = .ok (.getfield 13, 3) := by decide +kernel
theorem d_M_init_668 : decode b_M_init 668 = .ok (.bipush 7, 2) := by decide +kernel
theorem d_M_init_670 : decode b_M_init 670 = .ok (.ldc 169, 2) := by decide +kernel
theorem d_M_init_672 : decode b_M_init 672 = .ok (.iastore, 1) := by decide +kernel
theorem d_M_init_673 : decode b_M_init 673 = .ok (.aload_n 0, 1) := by decide +kernel
theorem d_M_init_674 : decode b_M_init 674 = .ok (.getfield 13, 3) := by decide +kernel
theorem d_M_init_677 : decode b_M_init 677 = .ok (.bipush 8, 2) := by decide +kernel
theorem d_M_init_679 : decode b_M_init 679 = .ok (.ldc 170, 2) := by decide +kernel
theorem d_M_init_681 : decode b_M_init 681 = .ok (.iastore, 1) := by decide +kernel
theorem d_M_init_682 : decode b_M_init 682 = .ok (.aload_n 0, 1) := by decide +kernel
theorem d_M_init_683 : decode b_M_init 683 = .ok (.getfield 13, 3) := by decide +kernel
theorem d_M_init_686 : decode b_M_init 686 = .ok (.bipush 9, 2) := by decide +kernel
theorem d_M_init_688 : decode b_M_init 688 = .ok (.ldc 171, 2) := by decide +kernel
theorem d_M_init_690 : decode b_M_init 690 = .ok (.iastore, 1) := by decide +kernel
theorem d_M_init_691 : decode b_M_init 691 = .ok (.aload_n 0, 1) := by decide +kernel
theorem d_M_init_692 : decode b_M_init 692 = .ok (.getfield 13, 3) := by decide +kernel
theorem d_M_init_695 : decode b_M_init 695 = .ok (.bipush 10, 2) := by decide +kernel
theorem d_M_init_697 : decode b_M_init 697 = .ok (.ldc 172, 2) := by decide +kernel
theorem d_M_init_699 : decode b_M_init 699 = .ok (.iastore, 1) := by decide +kernel
theorem d_M_init_700 : decode b_M_init 700 = .ok (.aload_n 0, 1) := by decide +kernel
theorem d_M_init_701 : decode b_M_init 701 = .ok (.getfield 13, 3) := by decide +kernel
theorem d_M_init_704 : decode b_M_init 704 = .ok (.bipush 11, 2) := by decide +kernel
theorem d_M_init_706 : decode b_M_init 706 = .ok (.ldc 173, 2) := by decide +kernel
theorem d_M_init_708 : decode b_M_init 708 = .ok (.iastore, 1) := by decide +kernel
theorem d_M_init_709 : decode b_M_init 709 = .ok (.aload_n 0, 1) := by decide +kernel
theorem d_M_init_710 : decode b_M_init 710 = .ok (.getfield 13, 3) := by decide +kernel
theorem d_M_init_713 : decode b_M_init 713 = .ok (.bipush 12, 2) := by decide +kernel
theorem d_M_init_715 : decode b_M_init 715 = .ok (.ldc 174, 2) := by decide +kernel
theorem d_M_init_717 : decode b_M_init 717 = .ok (.iastore, 1) := by decide +kernel
theorem d_M_init_718 : decode b_M_init 718 = .ok (.aload_n 0, 1) := by decide +kernel
theorem d_M_init_719 : decode b_M_init 719 = .ok (.getfield 13, 3) := by decide +kernel
theorem d_M_init_722 : decode b_M_init 722 = .ok (.bipush 13, 2) := by decide +kernel
theorem d_M_init_724 : decode b_M_init 724 = .ok (.ldc 175, 2) := by decide +kernel
theorem d_M_init_726 : decode b_M_init 726 = .ok (.iastore, 1) := by decide +kernel
theorem d_M_init_727 : decode b_M_init 727 = .ok (.aload_n 0, 1) := by decide +kernel
theorem d_M_init_728 : decode b_M_init 728 = .ok (.getfield 13, 3) := by decide +kernel
theorem d_M_init_731 : decode b_M_init 731 = .ok (.bipush 14, 2) := by decide +kernel
theorem d_M_init_733 : decode b_M_init 733 = .ok (.ldc 176, 2) := by decide +kernel
theorem d_M_init_735 : decode b_M_init 735 = .ok (.iastore, 1) := by decide +kernel
theorem d_M_init_736 : decode b_M_init 736 = .ok (.aload_n 0, 1) := by decide +kernel
theorem d_M_init_737 : decode b_M_init 737 = .ok (.getfield 13, 3) := by decide +kernel
theorem d_M_init_740 : decode b_M_init 740 = .ok (.bipush 15, 2) := by decide +kernel
theorem d_M_init_742 : decode b_M_init 742 = .ok (.ldc 177, 2) := by decide +kernel
theorem d_M_init_744 : decode b_M_init 744 = .ok (.iastore, 1) := by decide +kernel
theorem d_M_init_745 : decode b_M_init 745 = .ok (.aload_n 0, 1) := by decide +kernel
theorem d_M_init_746 : decode b_M_init 746 = .ok (.getfield 13, 3) := by decide +kernel
theorem d_M_init_749 : decode b_M_init 749 = .ok (.bipush 16, 2) := by decide +kernel
theorem d_M_init_751 : decode b_M_init 751 = .ok (.ldc 178, 2) := by decide +kernel
theorem d_M_init_753 : decode b_M_init 753 = .ok (.iastore, 1) := by decide +kernel
theorem d_M_init_754 : decode b_M_init 754 = .ok (.aload_n 0, 1) := by decide +kernel
theorem d_M_init_755 : decode b_M_init 755 = .ok (.getfield 13, 3) := by decide +kernel
theorem d_M_init_758 : decode b_M_init 758 = .ok (.bipush 17, 2) := by decide +kernel
theorem d_M_init_760 : decode b_M_init 760 = .ok (.ldc 179, 2) := by decide +kernel
theorem d_M_init_762 : decode b_M_init 762 = .ok (.iastore, 1) := by decide +kernel
theorem d_M_init_763 : decode b_M_init 763 = .ok (.aload_n 0, 1) := by decide +kernel
theorem d_M_init_764 : decode b_M_init 764 = .ok (.getfield 13, 3) := by decide +kernel
theorem d_M_init_767 : decode b_M_init 767 = .ok (.bipush 18, 2) := by decide +kernel
theorem d_M_init_769 : decode b_M_init 769 = .ok (.ldc 180, 2) := by decide +kernel
theorem d_M_init_771 : decode b_M_init 771 = .ok (.iastore, 1) := by decide +kernel
theorem d_M_init_772 : decode b_M_init 772 = .ok (.aload_n 0, 1) := by decide +kernel
theorem d_M_init_773 : decode b_M_init 773 = .ok (.getfield 13, 3) := by decide +kernel
theorem d_M_init_776 : decode b_M_init 776 = .ok (.bipush 19, 2) := by decide +kernel
theorem d_M_init_778 : decode b_M_init 778 = .ok (.ldc 181, 2) := by decide +kernel
theorem d_M_init_780 : decode b_M_init 780 = .ok (.iastore, 1) := by decide +kernel
theorem d_M_init_781 : decode b_M_init 781 = .ok (.aload_n 0, 1) := by decide +kernel
theorem d_M_init_782 : decode b_M_init 782 = .ok (.getfield 13, 3) := by decide +kernel
theorem d_M_init_785 : decode b_M_init 785 = .ok (.bipush 20, 2) := by decide +kernel
theorem d_M_init_787 : decode b_M_init 787 = .ok (.ldc 182, 2) := by decide +kernel
theorem d_M_init_789 : decode b_M_init 789 = .ok (.iastore, 1) := by decide +kernel
theorem d_M_init_790 : decode b_M_init 790 = .ok (.aload_n 0, 1) := by decide +kernel
theorem d_M_init_791 : decode b_M_init 791 = .ok (.getfield 13, 3) := by decide +kernel
theorem d_M_init_794 : decode b_M_init 794 = .ok (.bipush 21, 2) := by decide +kernel
theorem d_M_init_796 : decode b_M_init 796 = .ok (.ldc 183, 2) := by decide +kernel
theorem d_M_init_798 : decode b_M_init 798 = .ok (.iastore, 1) := by decide +kernel
theorem d_M_init_799 : decode b_M_init 799 = .ok (.aload_n 0, 1) := by decide +kernel
theorem d_M_init_800 : decode b_M_init 800 = .ok (.getfield 13, 3) := by decide +kernel
theorem d_M_init_803 : decode b_M_init 803 = .ok (.bipush 22, 2) := by decide +kernel
theorem d_M_init_805 : decode b_M_init 805 = .ok (.ldc 184, 2) := by decide +kernel
theorem d_M_init_807 : decode b_M_init 807 = .ok (.iastore, 1) := by decide +kernel
theorem d_M_init_808 : decode b_M_init 808 = .ok (.aload_n 0, 1) := by decide +kernel
theorem d_M_init_809 : decode b_M_init 809 = .ok (.getfield 13, 3) := by decide +kernel
theorem d_M_init_812 : decode b_M_init 812 = .ok (.bipush 23, 2) := by decide +kernel
theorem d_M_init_814 : decode b_M_init 814 = .ok (.ldc 185, 2) := by decide +kernel
theorem d_M_init_816 : decode b_M_init 816 = .ok (.iastore, 1) := by decide +kernel
theorem d_M_init_817 : decode b_M_init 817 = .ok (.aload_n 0, 1) := by decide +kernel
theorem d_M_init_818 : decode b_M_init 818 = .ok (.getfield 13, 3) := by decide +kernel
theorem d_M_init_821 : decode b_M_init 821 = .ok (.bipush 24, 2) := by decide +kernel
theorem d_M_init_823 : decode b_M_init 823 = .ok (.ldc 186, 2) := by decide +kernel
theorem d_M_init_825 : decode b_M_init 825 = .ok (.iastore, 1) := by decide +kernel
theorem d_M_init_826 : decode b_M_init 826 = .ok (.aload_n 0, 1) := by decide +kernel
theorem d_M_init_827 : decode b_M_init 827 = .ok (.getfield 13, 3) := by decide +kernel
theorem d_M_init_830 : decode b_M_init 830 = .ok (.bipush 25, 2) := by decide +kernel
theorem d_M_init_832 : decode b_M_init 832 = .ok (.ldc 187, 2) := by decide +kernel
theorem d_M_init_834 : decode b_M_init 834 = .ok (.iastore, 1) := by decide +kernel
theorem d_M_init_835 : decode b_M_init 835 = .ok (.aload_n 0, 1) := by decide +kernel
theorem d_M_init_836 : decode b_M_init 836 = .ok (.getfield 13, 3) := by decide +kernel
theorem d_M_init_839 : decode b_M_init 839 = .ok (.bipush 26, 2) := by decide +kernel
theorem d_M_init_841 : decode b_M_init 841 = .ok (.ldc 188, 2) := by decide +kernel
theorem d_M_init_843 : decode b_M_init 843 = .ok (.iastore, 1) := by decide +kernel
theorem d_M_init_844 : decode b_M_init 844 = .ok (.aload_n 0, 1) := by decide +kernel
theorem d_M_init_845 : decode b_M_init 845 = .ok (.getfield 13, 3) := by decide +kernel
theorem d_M_init_848 : decode b_M_init 848 = .ok (.bipush 27, 2) := by decide +kernel
theorem d_M_init_850 : decode b_M_init 850 = .ok (.ldc 189, 2) := by decide +kernel
theorem d_M_init_852 : decode b_M_init 852 = .ok (.iastore, 1) := by decide +kernel
theorem d_M_init_853 : decode b_M_init 853 = .ok (.aload_n 0, 1) := by decide +kernel
theorem d_M_init_854 : decode b_M_init 854 = .ok (.getfield 13, 3) := by decide +kernel
theorem d_M_init_857 : decode b_M_init 857 = .ok (.bipush 28, 2) := by decide +kernel
theorem d_M_init_859 : decode b_M_init 859 = .ok (.ldc 190, 2) := by decide +kernel
theorem d_M_init_861 : decode b_M_init 861 = .ok (.iastore, 1) := by decide +kernel
theorem d_M_init_862 : decode b_M_init 862 = .ok (.aload_n 0, 1) := by decide +kernel
theorem d_M_init_863 : decode b_M_init 863 = .ok (.getfield 13, 3) := by decide +kernel
theorem d_M_init_866 : decode b_M_init 866 = .ok (.bipush 29, 2) := by decide +kernel
theorem d_M_init_868 : decode b_M_init 868 = .ok (.ldc 191, 2) := by decide +kernel
theorem d_M_init_870 : decode b_M_init 870 = .ok (.iastore, 1) := by decide +kernel
theorem d_M_init_871 : decode b_M_init 871 = .ok (.aload_n 0, 1) := by decide +kernel
theorem d_M_init_872 : decode b_M_init 872 = .ok (.getfield 13, 3) := by decide +kernel
theorem d_M_init_875 : decode b_M_init 875 = .ok (.bipush 30, 2) := by decide +kernel
theorem d_M_init_877 : decode b_M_init 877 = .ok (.ldc 192, 2) := by decide +kernel
theorem d_M_init_879 : decode b_M_init 879 = .ok (.iastore, 1) := by decide +kernel
theorem d_M_init_880 : decode b_M_init 880 = .ok (.aload_n 0, 1) := by decide +kernel
theorem d_M_init_881 : decode b_M_init 881 = .ok (.getfield 13, 3) := by decide +kernel
theorem d_M_init_884 : decode b_M_init 884 = .ok (.bipush 31, 2) := by decide +kernel
theorem d_M_init_886 : decode b_M_init 886 = .ok (.ldc 193, 2) := by decide +kernel
theorem d_M_init_888 : decode b_M_init 888 = .ok (.iastore, 1) := by decide +kernel
theorem d_M_init_889 : decode b_M_init 889 = .ok (.aload_n 0, 1) := by decide +kernel
theorem d_M_init_890 : decode b_M_init 890 = .ok (.getfield 13, 3) := by decide +kernel
theorem d_M_init_893 : decode b_M_init 893 = .ok (.bipush 32, 2) := by decide +kernel
theorem d_M_init_895 : decode b_M_init 895 = .ok (.ldc 194, 2) := by decide +kernel
theorem d_M_init_897 : decode b_M_init 897 = .ok (.iastore, 1) := by decide +kernel
theorem d_M_init_898 : decode b_M_init 898 = .ok (.aload_n 0, 1) := by decide +kernel
theorem d_M_init_899 : decode b_M_init 899 = .ok (.getfield 13, 3) := by decide +kernel
theorem d_M_init_902 : decode b_M_init 902 = .ok (.bipush 33, 2) := by decide +kernel
theorem d_M_init_904 : decode b_M_init 904 = .ok (.ldc 195, 2) := by decide +kernel
theorem d_M_init_906 : decode b_M_init 906 = .ok (.iastore, 1) := by decide +kernel
theorem d_M_init_907 : decode b_M_init 907 = .ok (.aload_n 0, 1) := by decide +kernel
theorem d_M_init_908 : decode b_M_init 908 = .ok (.getfield 13, 3) := by decide +kernel
theorem d_M_init_911 : decode b_M_init 911 = .ok (.bipush 34, 2) := by decide +kernel
theorem d_M_init_913 : decode b_M_init 913 = .ok (.ldc 196, 2) := by decide +kernel
theorem d_M_init_915 : decode b_M_init 915 = .ok (.iastore, 1) := by decide +kernel
theorem d_M_init_916 : decode b_M_init 916 = .ok (.aload_n 0, 1) := by decide +kernel
theorem d_M_init_917 : decode b_M_init 917 = .ok (.getfield 13, 3) := by decide +kernel
theorem d_M_init_920 : decode b_M_init 920 = .ok (.bipush 35, 2) := by decide +kernel
theorem d_M_init_922 : decode b_M_init 922 = .ok (.ldc 197, 2) := by decide +kernel
theorem d_M_init_924 : decode b_M_init 924 = .ok (.iastore, 1) := by decide +kernel
theorem d_M_init_925 : decode b_M_init 925 = .ok (.aload_n 0, 1) := by decide +kernel
theorem d_M_init_926 : decode b_M_init 926 = .ok (.getfield 13, 3) := by decide +kernel
theorem d_M_init_929 : decode b_M_init 929 = .ok (.bipush 36, 2) := by decide +kernel
theorem d_M_init_931 : decode b_M_init 931 = .ok (.ldc 198, 2) := by decide +kernel
theorem d_M_init_933 : decode b_M_init 933 = .ok (.iastore, 1) := by decide +kernel
theorem d_M_init_934 : decode b_M_init 934 = .ok (.aload_n 0, 1) := by decide +kernel
theorem d_M_init_935 : decode b_M_init 935 = .ok (.getfield 13, 3) := by decide +kernel
theorem d_M_init_938 : decode b_M_init 938 = .ok (.bipush 37, 2) := by decide +kernel
theorem d_M_init_940 : decode b_M_init 940 = .ok (.ldc 199, 2) := by decide +kernel
theorem d_M_init_942 : decode b_M_init 942 = .ok (.iastore, 1) := by decide +kernel
theorem d_M_init_943 : decode b_M_init 943 = .ok (.aload_n 0, 1) := by decide +kernel
theorem d_M_init_944 : decode b_M_init 944 = .ok (.getfield 13, 3) := by decide +kernel
theorem d_M_init_947 : decode b_M_init 947 = .ok (.bipush 38, 2) := by decide +kernel
theorem d_M_init_949 : decode b_M_init 949 = .ok (.ldc 200, 2) := by decide +kernel
theorem d_M_init_951 : decode b_M_init 951 = .ok (.iastore, 1) := by decide +kernel
theorem d_M_init_952 : decode b_M_init 952 = .ok (.aload_n 0, 1) := by decide +kernel
theorem d_M_init_953 : decode b_M_init 953 = .ok (.getfield 13, 3) := by decide +kernel
theorem d_M_init_956 : decode b_M_init 956 = .ok (.bipush 39, 2) := by decide +kernel
theorem d_M_init_958 : decode b_M_init 958 = .ok (.ldc 201, 2) := by decide +kernel
theorem d_M_init_960 : decode b_M_init 960 = .ok (.iastore, 1) := by decide +kernel
theorem d_M_init_961 : decode b_M_init 961 = .ok (.aload_n 0, 1) := by decide +kernel
theorem d_M_init_962 : decode b_M_init 962 = .ok (.getfield 13, 3) := by decide +kernel
theorem d_M_init_965 : decode b_M_init 965 = .ok (.bipush 40, 2) := by decide +kernel
theorem d_M_init_967 : decode b_M_init 967 = .ok (.ldc 202, 2) := by decide +kernel
theorem d_M_init_969 : decode b_M_init 969 = .ok (.iastore, 1) := by decide +kernel
theorem d_M_init_970 : decode b_M_init 970 = .ok (.aload_n 0, 1) := by decide +kernel
theorem d_M_init_971 : decode b_M_init 971 = .ok (.getfield 13, 3) := by decide +kernel
theorem d_M_init_974 : decode b_M_init 974 = .ok (.bipush 41, 2) := by decide +kernel
theorem d_M_init_976 : decode b_M_init 976 = .ok (.ldc 203, 2) := by decide +kernel
theorem d_M_init_978 : decode b_M_init 978 = .ok (.iastore, 1) := by decide +kernel
theorem d_M_init_979 : decode b_M_init 979 = .ok (.aload_n 0, 1) := by decide +kernel
theorem d_M_init_980 : decode b_M_init 980 = .ok (.getfield 13, 3) := by decide +kernel
theorem d_M_init_983 : decode b_M_init 983 = .ok (.bipush 42, 2) := by decide +kernel
theorem d_M_init_985 : decode b_M_init 985 = .ok (.ldc 204, 2) := by decide +kernel
theorem d_M_init_987 : decode b_M_init 987 = .ok (.iastore, 1) := by decide +kernel
theorem d_M_init_988 : decode b_M_init 988 = .ok (.aload_n 0, 1) := by decide +kernel
theorem d_M_init_989 : decode b_M_init 989 = .ok (.getfield 13, 3) := by decide +kernel
theorem d_M_init_992 : decode b_M_init 992 = .ok (.bipush 43, 2) := by decide +kernel
theorem d_M_init_994 : decode b_M_init 994 = .ok (.ldc 205, 2) := by decide +kernel
theorem d_M_init_996 : decode b_M_init 996 = .ok (.iastore, 1) := by decide +kernel
theorem d_M_init_997 : decode b_M_init 997 = .ok (.aload_n 0, 1) := by decide +kernel
theorem d_M_init_998 : decode b_M_init 998 = .ok (.getfield 13, 3) := by decide +kernel
theorem d_M_init_1001 : decode b_M_init 1001 = .ok (.bipush 44, 2) := by decide +kernel
theorem d_M_init_1003 : decode b_M_init 1003 = .ok (.ldc 206, 2) := by decide +kernel
theorem d_M_init_1005 : decode b_M_init 1005 = .ok (.iastore, 1) := by decide +kernel
theorem d_M_init_1006 : decode b_M_init 1006 = .ok (.aload_n 0, 1) := by decide +kernel
theorem d_M_init_1007 : decode b_M_init 1007 = .ok (.getfield 13, 3) := by decide +kernel
theorem d_M_init_1010 : decode b_M_init 1010 = .ok (.bipush 45, 2) := by decide +kernel
theorem d_M_init_1012 : decode b_M_init 1012 = .ok (.ldc 207, 2) := by decide +kernel
theorem d_M_init_1014 : decode b_M_init 1014 = .ok (.iastore, 1) := by decide +kernel
theorem d_M_init_1015 : decode b_M_init 1015 = .ok (.return_, 1) := by decide +kernel
abbrev b_OJ_init : ByteArray := object_method_1_code
abbrev y_OJ_init : MethodName := ⟨"java/lang/Object", "<init>", "()V"⟩
theorem kc_OJ_init : (.code y_OJ_init b_OJ_init 1 none : Cond) ∈ tp_G := tp_Gm 102 (by decide +kernel) (by decide +kernel)
def w_OJ_init : List Cond := .code y_OJ_init b_OJ_init 1 none :: tp_G
theorem km_OJ_init : (.instanceMethod y_OJ_init : Cond) ∈ tp_G := tp_Gm 101 (by decide +kernel) (by decide +kernel)
theorem kl_M_1 : (.methodLink "TwoPassModel" 1 y_OJ_init : Cond) ∈ tp_G := tp_Gm 1142 (by decide +kernel) (by decide +kernel)
theorem kl_M_7 : (.fieldLink "TwoPassModel" 7 "TwoPassModel" "names" "[J" : Cond) ∈ tp_G := tp_Gm 1236 (by decide +kernel) (by decide +kernel)
theorem kl_M_13 : (.fieldLink "TwoPassModel" 13 "TwoPassModel" "forms" "[I" : Cond) ∈ tp_G := tp_Gm 1237 (by decide +kernel) (by decide +kernel)
theorem kl_M_17 : (.fieldLink "TwoPassModel" 17 "TwoPassModel" "text" "[I" : Cond) ∈ tp_G := tp_Gm 1239 (by decide +kernel) (by decide +kernel)
theorem kl_M_20 : (.fieldLink "TwoPassModel" 20 "TwoPassModel" "word" "[I" : Cond) ∈ tp_G := tp_Gm 1243 (by decide +kernel) (by decide +kernel)
theorem kl_M_23 : (.fieldLink "TwoPassModel" 23 "TwoPassModel" "count" "[I" : Cond) ∈ tp_G := tp_Gm 1252 (by decide +kernel) (by decide +kernel)
theorem kl_M_26 : (.fieldLink "TwoPassModel" 26 "TwoPassModel" "formOf" "[I" : Cond) ∈ tp_G := tp_Gm 1253 (by decide +kernel) (by decide +kernel)
theorem kl_M_29 : (.fieldLink "TwoPassModel" 29 "TwoPassModel" "codeOf" "[I" : Cond) ∈ tp_G := tp_Gm 1254 (by decide +kernel) (by decide +kernel)
theorem kl_M_32 : (.fieldLink "TwoPassModel" 32 "TwoPassModel" "dOf" "[I" : Cond) ∈ tp_G := tp_Gm 1255 (by decide +kernel) (by decide +kernel)
theorem kl_M_35 : (.fieldLink "TwoPassModel" 35 "TwoPassModel" "sOf" "[I" : Cond) ∈ tp_G := tp_Gm 1256 (by decide +kernel) (by decide +kernel)
theorem kl_M_38 : (.fieldLink "TwoPassModel" 38 "TwoPassModel" "tOf" "[I" : Cond) ∈ tp_G := tp_Gm 1257 (by decide +kernel) (by decide +kernel)
theorem kl_M_41 : (.fieldLink "TwoPassModel" 41 "TwoPassModel" "valueOf" "[J" : Cond) ∈ tp_G := tp_Gm 1258 (by decide +kernel) (by decide +kernel)
theorem kl_M_44 : (.fieldLink "TwoPassModel" 44 "TwoPassModel" "labelOf" "[J" : Cond) ∈ tp_G := tp_Gm 1259 (by decide +kernel) (by decide +kernel)
theorem kl_M_47 : (.fieldLink "TwoPassModel" 47 "TwoPassModel" "nameOf" "[J" : Cond) ∈ tp_G := tp_Gm 1260 (by decide +kernel) (by decide +kernel)
theorem kl_M_50 : (.fieldLink "TwoPassModel" 50 "TwoPassModel" "target" "[I" : Cond) ∈ tp_G := tp_Gm 1261 (by decide +kernel) (by decide +kernel)
theorem kl_M_53 : (.fieldLink "TwoPassModel" 53 "TwoPassModel" "place" "[I" : Cond) ∈ tp_G := tp_Gm 1262 (by decide +kernel) (by decide +kernel)
theorem kl_M_56 : (.fieldLink "TwoPassModel" 56 "TwoPassModel" "far" "[Z" : Cond) ∈ tp_G := tp_Gm 1263 (by decide +kernel) (by decide +kernel)
theorem kl_M_60 : (.fieldLink "TwoPassModel" 60 "TwoPassModel" "imageSize" "I" : Cond) ∈ tp_G := tp_Gm 1264 (by decide +kernel) (by decide +kernel)
theorem kl_M_64 : (.fieldLink "TwoPassModel" 64 "TwoPassModel" "image" "[I" : Cond) ∈ tp_G := tp_Gm 1266 (by decide +kernel) (by decide +kernel)
theorem kl_M_67 : (.fieldLink "TwoPassModel" 67 "TwoPassModel" "out" "[I" : Cond) ∈ tp_G := tp_Gm 1268 (by decide +kernel) (by decide +kernel)
theorem kl_M_70 : (.constantLong "TwoPassModel" 70 6382692 : Cond) ∈ tp_G := tp_Gm 1143 (by decide +kernel) (by decide +kernel)
theorem kl_M_72 : (.constantLong "TwoPassModel" 72 7566690 : Cond) ∈ tp_G := tp_Gm 1144 (by decide +kernel) (by decide +kernel)
theorem kl_M_74 : (.constantLong "TwoPassModel" 74 7564396 : Cond) ∈ tp_G := tp_Gm 1145 (by decide +kernel) (by decide +kernel)
theorem kl_M_76 : (.constantLong "TwoPassModel" 76 7564404 : Cond) ∈ tp_G := tp_Gm 1146 (by decide +kernel) (by decide +kernel)
theorem kl_M_78 : (.constantLong "TwoPassModel" 78 1936487541 : Cond) ∈ tp_G := tp_Gm 1147 (by decide +kernel) (by decide +kernel)
theorem kl_M_80 : (.constantLong "TwoPassModel" 80 7892850 : Cond) ∈ tp_G := tp_Gm 1148 (by decide +kernel) (by decide +kernel)
theorem kl_M_82 : (.constantLong "TwoPassModel" 82 7565932 : Cond) ∈ tp_G := tp_Gm 1149 (by decide +kernel) (by decide +kernel)
theorem kl_M_84 : (.constantLong "TwoPassModel" 84 7565921 : Cond) ∈ tp_G := tp_Gm 1150 (by decide +kernel) (by decide +kernel)
theorem kl_M_86 : (.constantLong "TwoPassModel" 86 28530 : Cond) ∈ tp_G := tp_Gm 1151 (by decide +kernel) (by decide +kernel)
theorem kl_M_88 : (.constantLong "TwoPassModel" 88 6385252 : Cond) ∈ tp_G := tp_Gm 1152 (by decide +kernel) (by decide +kernel)
theorem kl_M_90 : (.constantLong "TwoPassModel" 90 1633969257 : Cond) ∈ tp_G := tp_Gm 1153 (by decide +kernel) (by decide +kernel)
theorem kl_M_92 : (.constantLong "TwoPassModel" 92 1936487529 : Cond) ∈ tp_G := tp_Gm 1154 (by decide +kernel) (by decide +kernel)
theorem kl_M_94 : (.constantLong "TwoPassModel" 94 2020569705 : Cond) ∈ tp_G := tp_Gm 1155 (by decide +kernel) (by decide +kernel)
theorem kl_M_96 : (.constantLong "TwoPassModel" 96 7303785 : Cond) ∈ tp_G := tp_Gm 1156 (by decide +kernel) (by decide +kernel)
theorem kl_M_98 : (.constantLong "TwoPassModel" 98 1634624617 : Cond) ∈ tp_G := tp_Gm 1157 (by decide +kernel) (by decide +kernel)
theorem kl_M_100 : (.constantLong "TwoPassModel" 100 418296129911 : Cond) ∈ tp_G := tp_Gm 1158 (by decide +kernel) (by decide +kernel)
theorem kl_M_102 : (.constantLong "TwoPassModel" 102 1936485481 : Cond) ∈ tp_G := tp_Gm 1159 (by decide +kernel) (by decide +kernel)
theorem kl_M_104 : (.constantLong "TwoPassModel" 104 1936878697 : Cond) ∈ tp_G := tp_Gm 1160 (by decide +kernel) (by decide +kernel)
theorem kl_M_106 : (.constantLong "TwoPassModel" 106 1936875881 : Cond) ∈ tp_G := tp_Gm 1161 (by decide +kernel) (by decide +kernel)
theorem kl_M_108 : (.constantLong "TwoPassModel" 108 7107945 : Cond) ∈ tp_G := tp_Gm 1162 (by decide +kernel) (by decide +kernel)
theorem kl_M_110 : (.constantLong "TwoPassModel" 110 27746 : Cond) ∈ tp_G := tp_Gm 1163 (by decide +kernel) (by decide +kernel)
theorem kl_M_112 : (.constantLong "TwoPassModel" 112 27767 : Cond) ∈ tp_G := tp_Gm 1164 (by decide +kernel) (by decide +kernel)
theorem kl_M_114 : (.constantLong "TwoPassModel" 114 27748 : Cond) ∈ tp_G := tp_Gm 1165 (by decide +kernel) (by decide +kernel)
theorem kl_M_116 : (.constantLong "TwoPassModel" 116 7103093 : Cond) ∈ tp_G := tp_Gm 1166 (by decide +kernel) (by decide +kernel)
theorem kl_M_118 : (.constantLong "TwoPassModel" 118 1784769650 : Cond) ∈ tp_G := tp_Gm 1167 (by decide +kernel) (by decide +kernel)
theorem kl_M_120 : (.constantLong "TwoPassModel" 120 29538 : Cond) ∈ tp_G := tp_Gm 1168 (by decide +kernel) (by decide +kernel)
theorem kl_M_122 : (.constantLong "TwoPassModel" 122 29559 : Cond) ∈ tp_G := tp_Gm 1169 (by decide +kernel) (by decide +kernel)
theorem kl_M_124 : (.constantLong "TwoPassModel" 124 29540 : Cond) ∈ tp_G := tp_Gm 1170 (by decide +kernel) (by decide +kernel)
theorem kl_M_126 : (.constantLong "TwoPassModel" 126 6448497 : Cond) ∈ tp_G := tp_Gm 1171 (by decide +kernel) (by decide +kernel)
theorem kl_M_128 : (.constantLong "TwoPassModel" 128 6450789 : Cond) ∈ tp_G := tp_Gm 1172 (by decide +kernel) (by decide +kernel)
theorem kl_M_130 : (.constantLong "TwoPassModel" 130 6450292 : Cond) ∈ tp_G := tp_Gm 1173 (by decide +kernel) (by decide +kernel)
theorem kl_M_132 : (.constantLong "TwoPassModel" 132 6448997 : Cond) ∈ tp_G := tp_Gm 1174 (by decide +kernel) (by decide +kernel)
theorem kl_M_134 : (.constantLong "TwoPassModel" 134 6971756 : Cond) ∈ tp_G := tp_Gm 1175 (by decide +kernel) (by decide +kernel)
theorem kl_M_136 : (.constantLong "TwoPassModel" 136 27753 : Cond) ∈ tp_G := tp_Gm 1176 (by decide +kernel) (by decide +kernel)
theorem kl_M_138 : (.constantLong "TwoPassModel" 138 27745 : Cond) ∈ tp_G := tp_Gm 1177 (by decide +kernel) (by decide +kernel)
theorem kl_M_140 : (.constantLong "TwoPassModel" 140 199572288100 : Cond) ∈ tp_G := tp_Gm 1178 (by decide +kernel) (by decide +kernel)
theorem kl_M_142 : (.constantLong "TwoPassModel" 142 199220622437 : Cond) ∈ tp_G := tp_Gm 1179 (by decide +kernel) (by decide +kernel)
theorem kl_M_144 : (.constantLong "TwoPassModel" 144 51073341547365 : Cond) ∈ tp_G := tp_Gm 1180 (by decide +kernel) (by decide +kernel)
theorem kl_M_146 : (.constantLong "TwoPassModel" 146 13061564351537516 : Cond) ∈ tp_G := tp_Gm 1181 (by decide +kernel) (by decide +kernel)
theorem kl_M_148 : (.constantLong "TwoPassModel" 148 7237488 : Cond) ∈ tp_G := tp_Gm 1182 (by decide +kernel) (by decide +kernel)
theorem kl_M_150 : (.constantLong "TwoPassModel" 150 28022 : Cond) ∈ tp_G := tp_Gm 1183 (by decide +kernel) (by decide +kernel)
theorem kl_M_152 : (.constantLong "TwoPassModel" 152 7497076 : Cond) ∈ tp_G := tp_Gm 1184 (by decide +kernel) (by decide +kernel)
theorem kl_M_154 : (.constantLong "TwoPassModel" 154 106 : Cond) ∈ tp_G := tp_Gm 1185 (by decide +kernel) (by decide +kernel)
theorem kl_M_156 : (.constantLong "TwoPassModel" 156 1667329132 : Cond) ∈ tp_G := tp_Gm 1186 (by decide +kernel) (by decide +kernel)
theorem kl_M_158 : (.constantLong "TwoPassModel" 158 1650815354 : Cond) ∈ tp_G := tp_Gm 1187 (by decide +kernel) (by decide +kernel)
theorem kl_M_160 : (.constantLong "TwoPassModel" 160 1651402106 : Cond) ∈ tp_G := tp_Gm 1188 (by decide +kernel) (by decide +kernel)
theorem kl_M_162 : (.constant "TwoPassModel" 162 105100 : Cond) ∈ tp_G := tp_Gm 1189 (by decide +kernel) (by decide +kernel)
theorem kl_M_163 : (.constant "TwoPassModel" 163 105101 : Cond) ∈ tp_G := tp_Gm 1190 (by decide +kernel) (by decide +kernel)
theorem kl_M_164 : (.constant "TwoPassModel" 164 105110 : Cond) ∈ tp_G := tp_Gm 1191 (by decide +kernel) (by decide +kernel)
theorem kl_M_165 : (.constant "TwoPassModel" 165 105120 : Cond) ∈ tp_G := tp_Gm 1192 (by decide +kernel) (by decide +kernel)
theorem kl_M_166 : (.constant "TwoPassModel" 166 105130 : Cond) ∈ tp_G := tp_Gm 1193 (by decide +kernel) (by decide +kernel)
theorem kl_M_167 : (.constant "TwoPassModel" 167 105140 : Cond) ∈ tp_G := tp_Gm 1194 (by decide +kernel) (by decide +kernel)
theorem kl_M_168 : (.constant "TwoPassModel" 168 105150 : Cond) ∈ tp_G := tp_Gm 1195 (by decide +kernel) (by decide +kernel)
theorem kl_M_169 : (.constant "TwoPassModel" 169 105151 : Cond) ∈ tp_G := tp_Gm 1196 (by decide +kernel) (by decide +kernel)
theorem kl_M_170 : (.constant "TwoPassModel" 170 105160 : Cond) ∈ tp_G := tp_Gm 1197 (by decide +kernel) (by decide +kernel)
theorem kl_M_171 : (.constant "TwoPassModel" 171 105170 : Cond) ∈ tp_G := tp_Gm 1198 (by decide +kernel) (by decide +kernel)
theorem kl_M_172 : (.constant "TwoPassModel" 172 201900 : Cond) ∈ tp_G := tp_Gm 1199 (by decide +kernel) (by decide +kernel)
theorem kl_M_173 : (.constant "TwoPassModel" 173 201920 : Cond) ∈ tp_G := tp_Gm 1200 (by decide +kernel) (by decide +kernel)
theorem kl_M_174 : (.constant "TwoPassModel" 174 201940 : Cond) ∈ tp_G := tp_Gm 1201 (by decide +kernel) (by decide +kernel)
theorem kl_M_175 : (.constant "TwoPassModel" 175 201960 : Cond) ∈ tp_G := tp_Gm 1202 (by decide +kernel) (by decide +kernel)
theorem kl_M_176 : (.constant "TwoPassModel" 176 201970 : Cond) ∈ tp_G := tp_Gm 1203 (by decide +kernel) (by decide +kernel)
theorem kl_M_177 : (.constant "TwoPassModel" 177 202700 : Cond) ∈ tp_G := tp_Gm 1204 (by decide +kernel) (by decide +kernel)
theorem kl_M_178 : (.constant "TwoPassModel" 178 301910 : Cond) ∈ tp_G := tp_Gm 1205 (by decide +kernel) (by decide +kernel)
theorem kl_M_179 : (.constant "TwoPassModel" 179 301950 : Cond) ∈ tp_G := tp_Gm 1206 (by decide +kernel) (by decide +kernel)
theorem kl_M_180 : (.constant "TwoPassModel" 180 301951 : Cond) ∈ tp_G := tp_Gm 1207 (by decide +kernel) (by decide +kernel)
theorem kl_M_181 : (.constant "TwoPassModel" 181 405500 : Cond) ∈ tp_G := tp_Gm 1208 (by decide +kernel) (by decide +kernel)
theorem kl_M_182 : (.constant "TwoPassModel" 182 500300 : Cond) ∈ tp_G := tp_Gm 1209 (by decide +kernel) (by decide +kernel)
theorem kl_M_183 : (.constant "TwoPassModel" 183 500320 : Cond) ∈ tp_G := tp_Gm 1210 (by decide +kernel) (by decide +kernel)
theorem kl_M_184 : (.constant "TwoPassModel" 184 500330 : Cond) ∈ tp_G := tp_Gm 1211 (by decide +kernel) (by decide +kernel)
theorem kl_M_185 : (.constant "TwoPassModel" 185 500340 : Cond) ∈ tp_G := tp_Gm 1212 (by decide +kernel) (by decide +kernel)
theorem kl_M_186 : (.constant "TwoPassModel" 186 510300 : Cond) ∈ tp_G := tp_Gm 1213 (by decide +kernel) (by decide +kernel)
theorem kl_M_187 : (.constant "TwoPassModel" 187 603500 : Cond) ∈ tp_G := tp_Gm 1214 (by decide +kernel) (by decide +kernel)
theorem kl_M_188 : (.constant "TwoPassModel" 188 603520 : Cond) ∈ tp_G := tp_Gm 1215 (by decide +kernel) (by decide +kernel)
theorem kl_M_189 : (.constant "TwoPassModel" 189 603530 : Cond) ∈ tp_G := tp_Gm 1216 (by decide +kernel) (by decide +kernel)
theorem kl_M_190 : (.constant "TwoPassModel" 190 709900 : Cond) ∈ tp_G := tp_Gm 1217 (by decide +kernel) (by decide +kernel)
theorem kl_M_191 : (.constant "TwoPassModel" 191 709910 : Cond) ∈ tp_G := tp_Gm 1218 (by decide +kernel) (by decide +kernel)
theorem kl_M_192 : (.constant "TwoPassModel" 192 709940 : Cond) ∈ tp_G := tp_Gm 1219 (by decide +kernel) (by decide +kernel)
theorem kl_M_193 : (.constant "TwoPassModel" 193 709950 : Cond) ∈ tp_G := tp_Gm 1220 (by decide +kernel) (by decide +kernel)
theorem kl_M_194 : (.constant "TwoPassModel" 194 811100 : Cond) ∈ tp_G := tp_Gm 1221 (by decide +kernel) (by decide +kernel)
theorem kl_M_195 : (.constant "TwoPassModel" 195 900000 : Cond) ∈ tp_G := tp_Gm 1222 (by decide +kernel) (by decide +kernel)
theorem kl_M_196 : (.constant "TwoPassModel" 196 1000000 : Cond) ∈ tp_G := tp_Gm 1223 (by decide +kernel) (by decide +kernel)
theorem kl_M_197 : (.constant "TwoPassModel" 197 1100000 : Cond) ∈ tp_G := tp_Gm 1224 (by decide +kernel) (by decide +kernel)
theorem kl_M_198 : (.constant "TwoPassModel" 198 1200000 : Cond) ∈ tp_G := tp_Gm 1225 (by decide +kernel) (by decide +kernel)
theorem kl_M_199 : (.constant "TwoPassModel" 199 1300000 : Cond) ∈ tp_G := tp_Gm 1226 (by decide +kernel) (by decide +kernel)
theorem kl_M_200 : (.constant "TwoPassModel" 200 1400000 : Cond) ∈ tp_G := tp_Gm 1227 (by decide +kernel) (by decide +kernel)
theorem kl_M_201 : (.constant "TwoPassModel" 201 1501900 : Cond) ∈ tp_G := tp_Gm 1228 (by decide +kernel) (by decide +kernel)
theorem kl_M_202 : (.constant "TwoPassModel" 202 1601900 : Cond) ∈ tp_G := tp_Gm 1229 (by decide +kernel) (by decide +kernel)
theorem kl_M_203 : (.constant "TwoPassModel" 203 1710300 : Cond) ∈ tp_G := tp_Gm 1230 (by decide +kernel) (by decide +kernel)
theorem kl_M_204 : (.constant "TwoPassModel" 204 1811100 : Cond) ∈ tp_G := tp_Gm 1231 (by decide +kernel) (by decide +kernel)
theorem kl_M_205 : (.constant "TwoPassModel" 205 1911100 : Cond) ∈ tp_G := tp_Gm 1232 (by decide +kernel) (by decide +kernel)
theorem kl_M_206 : (.constant "TwoPassModel" 206 2009900 : Cond) ∈ tp_G := tp_Gm 1233 (by decide +kernel) (by decide +kernel)
theorem kl_M_207 : (.constant "TwoPassModel" 207 2009910 : Cond) ∈ tp_G := tp_Gm 1234 (by decide +kernel) (by decide +kernel)
abbrev b_Y_init : ByteArray := prog_6_method_1_code
abbrev y_Y_init : MethodName := ⟨"TwoPass$Typed", "<init>", "()V"⟩
theorem kc_Y_init : (.code y_Y_init b_Y_init 1 none : Cond) ∈ tp_G := tp_Gm 107 (by decide +kernel) (by decide +kernel)
def w_Y_init : List Cond := .code y_Y_init b_Y_init 1 none :: tp_G
theorem km_Y_init : (.instanceMethod y_Y_init : Cond) ∈ tp_G := tp_Gm 106 (by decide +kernel) (by decide +kernel)
theorem kb_T_9 : (.methodLinkNest "TwoPass" 9 y_Y_init "TwoPass" : Cond) ∈ tp_Bd := List.mem_filter.mpr ⟨List.mem_of_getElem? (i := 105) (by decide +kernel), rfl⟩
abbrev b_S_init : ByteArray := prog_5_method_1_code
abbrev y_S_init : MethodName := ⟨"TwoPass$Source", "<init>", "()V"⟩
theorem kc_S_init : (.code y_S_init b_S_init 1 none : Cond) ∈ tp_G := tp_Gm 135 (by decide +kernel) (by decide +kernel)
def w_S_init : List Cond := .code y_S_init b_S_init 1 none :: tp_G
theorem km_S_init : (.instanceMethod y_S_init : Cond) ∈ tp_G := tp_Gm 134 (by decide +kernel) (by decide +kernel)
theorem kb_T_18 : (.methodLinkNest "TwoPass" 18 y_S_init "TwoPass" : Cond) ∈ tp_Bd := List.mem_filter.mpr ⟨List.mem_of_getElem? (i := 133) (by decide +kernel), rfl⟩
abbrev b_N_init : ByteArray := prog_3_method_1_code
abbrev y_N_init : MethodName := ⟨"TwoPass$Line", "<init>", "()V"⟩
theorem kc_N_init : (.code y_N_init b_N_init 1 none : Cond) ∈ tp_G := tp_Gm 341 (by decide +kernel) (by decide +kernel)
def w_N_init : List Cond := .code y_N_init b_N_init 1 none :: tp_G
theorem km_N_init : (.instanceMethod y_N_init : Cond) ∈ tp_G := tp_Gm 340 (by decide +kernel) (by decide +kernel)
theorem kb_Y_27 : (.methodLinkNest "TwoPass$Typed" 27 y_N_init "TwoPass" : Cond) ∈ tp_Bd := List.mem_filter.mpr ⟨List.mem_of_getElem? (i := 339) (by decide +kernel), rfl⟩
