theorem d_M_init_146 : decode b_M_init 146 = .ok (.bipush 40, 2) := by decide +kernel
theorem d_M_init_148 : decode b_M_init 148 = .ok (.newarray .int, 2) := by decide +kernel
theorem d_M_init_150 : decode b_M_init 150 = .ok (.putfield 67, 3) := by decide +kernel
theorem d_M_init_153 : decode b_M_init 153 = .ok (.aload_n 0, 1) := by decide +kernel
theorem d_M_init_154 : decode b_M_init 154 = .ok (.getfield 7, 3) := by decide +kernel
theorem d_M_init_157 : decode b_M_init 157 = .ok (.iconst 0, 1) := by decide +kernel
theorem d_M_init_158 : decode b_M_init 158 = .ok (.ldc2_w 70, 3) := by decide +kernel
theorem d_M_init_161 : decode b_M_init 161 = .ok (.lastore, 1) := by decide +kernel
theorem d_M_init_162 : decode b_M_init 162 = .ok (.aload_n 0, 1) := by decide +kernel
theorem d_M_init_163 : decode b_M_init 163 = .ok (.getfield 7, 3) := by decide +kernel
theorem d_M_init_166 : decode b_M_init 166 = .ok (.iconst 1, 1) := by decide +kernel
theorem d_M_init_167 : decode b_M_init 167 = .ok (.ldc2_w 72, 3) := by decide +kernel
theorem d_M_init_170 : decode b_M_init 170 = .ok (.lastore, 1) := by decide +kernel
theorem d_M_init_171 : decode b_M_init 171 = .ok (.aload_n 0, 1) := by decide +kernel
theorem d_M_init_172 : decode b_M_init 172 = .ok (.getfield 7, 3) := by decide +kernel
theorem d_M_init_175 : decode b_M_init 175 = .ok (.iconst 2, 1) := by decide +kernel
theorem d_M_init_176 : decode b_M_init 176 = .ok (.ldc2_w 74, 3) := by decide +kernel
theorem d_M_init_179 : decode b_M_init 179 = .ok (.lastore, 1) := by decide +kernel
theorem d_M_init_180 : decode b_M_init 180 = .ok (.aload_n 0, 1) := by decide +kernel
theorem d_M_init_181 : decode b_M_init 181 = .ok (.getfield 7, 3) := by decide +kernel
theorem d_M_init_184 : decode b_M_init 184 = .ok (.iconst 3, 1) := by decide +kernel
theorem d_M_init_185 : decode b_M_init 185 = .ok (.ldc2_w 76, 3) := by decide +kernel
theorem d_M_init_188 : decode b_M_init 188 = .ok (.lastore, 1) := by decide +kernel
theorem d_M_init_189 : decode b_M_init 189 = .ok (.aload_n 0, 1) := by decide +kernel
theorem d_M_init_190 : decode b_M_init 190 = .ok (.getfield 7, 3) := by decide +kernel
theorem d_M_init_193 : decode b_M_init 193 = .ok (.iconst 4, 1) := by decide +kernel
theorem d_M_init_194 : decode b_M_init 194 = .ok (.ldc2_w 78, 3) := by decide +kernel
theorem d_M_init_197 : decode b_M_init 197 = .ok (.lastore, 1) := by decide +kernel
theorem d_M_init_198 : decode b_M_init 198 = .ok (.aload_n 0, 1) := by decide +kernel
theorem d_M_init_199 : decode b_M_init 199 = .ok (.getfield 7, 3) := by decide +kernel
theorem d_M_init_202 : decode b_M_init 202 = .ok (.iconst 5, 1) := by decide +kernel
theorem d_M_init_203 : decode b_M_init 203 = .ok (.ldc2_w 80, 3) := by decide +kernel
theorem d_M_init_206 : decode b_M_init 206 = .ok (.lastore, 1) := by decide +kernel
theorem d_M_init_207 : decode b_M_init 207 = .ok (.aload_n 0, 1) := by decide +kernel
theorem d_M_init_208 : decode b_M_init 208 = .ok (.getfield 7, 3) := by decide +kernel
theorem d_M_init_211 : decode b_M_init 211 = .ok (.bipush 6, 2) := by decide +kernel
theorem d_M_init_213 : decode b_M_init 213 = .ok (.ldc2_w 82, 3) := by decide +kernel
theorem d_M_init_216 : decode b_M_init 216 = .ok (.lastore, 1) := by decide +kernel
theorem d_M_init_217 : decode b_M_init 217 = .ok (.aload_n 0, 1) := by decide +kernel
theorem d_M_init_218 : decode b_M_init 218 = .ok (.getfield 7, 3) := by decide +kernel
theorem d_M_init_221 : decode b_M_init 221 = .ok (.bipush 7, 2) := by decide +kernel
theorem d_M_init_223 : decode b_M_init 223 = .ok (.ldc2_w 84, 3) := by decide +kernel
theorem d_M_init_226 : decode b_M_init 226 = .ok (.lastore, 1) := by decide +kernel
theorem d_M_init_227 : decode b_M_init 227 = .ok (.aload_n 0, 1) := by decide +kernel
theorem d_M_init_228 : decode b_M_init 228 = .ok (.getfield 7, 3) := by decide +kernel
theorem d_M_init_231 : decode b_M_init 231 = .ok (.bipush 8, 2) := by decide +kernel
theorem d_M_init_233 : decode b_M_init 233 = .ok (.ldc2_w 86, 3) := by decide +kernel
theorem d_M_init_236 : decode b_M_init 236 = .ok (.lastore, 1) := by decide +kernel
theorem d_M_init_237 : decode b_M_init 237 = .ok (.aload_n 0, 1) := by decide +kernel
theorem d_M_init_238 : decode b_M_init 238 = .ok (.getfield 7, 3) := by decide +kernel
theorem d_M_init_241 : decode b_M_init 241 = .ok (.bipush 9, 2) := by decide +kernel
theorem d_M_init_243 : decode b_M_init 243 = .ok (.ldc2_w 88, 3) := by decide +kernel
theorem d_M_init_246 : decode b_M_init 246 = .ok (.lastore, 1) := by decide +kernel
theorem d_M_init_247 : decode b_M_init 247 = .ok (.aload_n 0, 1) := by decide +kernel
theorem d_M_init_248 : decode b_M_init 248 = .ok (.getfield 7, 3) := by decide +kernel
theorem d_M_init_251 : decode b_M_init 251 = .ok (.bipush 10, 2) := by decide +kernel
theorem d_M_init_253 : decode b_M_init 253 = .ok (.ldc2_w 90, 3) := by decide +kernel
theorem d_M_init_256 : decode b_M_init 256 = .ok (.lastore, 1) := by decide +kernel
theorem d_M_init_257 : decode b_M_init 257 = .ok (.aload_n 0, 1) := by decide +kernel
theorem d_M_init_258 : decode b_M_init 258 = .ok (.getfield 7, 3) := by decide +kernel
theorem d_M_init_261 : decode b_M_init 261 = .ok (.bipush 11, 2) := by decide +kernel
theorem d_M_init_263 : decode b_M_init 263 = .ok (.ldc2_w 92, 3) := by decide +kernel
theorem d_M_init_266 : decode b_M_init 266 = .ok (.lastore, 1) := by decide +kernel
theorem d_M_init_267 : decode b_M_init 267 = .ok (.aload_n 0, 1) := by decide +kernel
theorem d_M_init_268 : decode b_M_init 268 = .ok (.getfield 7, 3) := by decide +kernel
theorem d_M_init_271 : decode b_M_init 271 = .ok (.bipush 12, 2) := by decide +kernel
theorem d_M_init_273 : decode b_M_init 273 = .ok (.ldc2_w 94, 3) := by decide +kernel
theorem d_M_init_276 : decode b_M_init 276 = .ok (.lastore, 1) := by decide +kernel
theorem d_M_init_277 : decode b_M_init 277 = .ok (.aload_n 0, 1) := by decide +kernel
theorem d_M_init_278 : decode b_M_init 278 = .ok (.getfield 7, 3) := by decide +kernel
theorem d_M_init_281 : decode b_M_init 281 = .ok (.bipush 13, 2) := by decide +kernel
theorem d_M_init_283 : decode b_M_init 283 = .ok (.ldc2_w 96, 3) := by decide +kernel
theorem d_M_init_286 : decode b_M_init 286 = .ok (.lastore, 1) := by decide +kernel
theorem d_M_init_287 : decode b_M_init 287 = .ok (.aload_n 0, 1) := by decide +kernel
theorem d_M_init_288 : decode b_M_init 288 = .ok (.getfield 7, 3) := by decide +kernel
theorem d_M_init_291 : decode b_M_init 291 = .ok (.bipush 14, 2) := by decide +kernel
theorem d_M_init_293 : decode b_M_init 293 = .ok (.ldc2_w 98, 3) := by decide +kernel
theorem d_M_init_296 : decode b_M_init 296 = .ok (.lastore, 1) := by decide +kernel
theorem d_M_init_297 : decode b_M_init 297 = .ok (.aload_n 0, 1) := by decide +kernel
theorem d_M_init_298 : decode b_M_init 298 = .ok (.getfield 7, 3) := by decide +kernel
theorem d_M_init_301 : decode b_M_init 301 = .ok (.bipush 15, 2) := by decide +kernel
theorem d_M_init_303 : decode b_M_init 303 = .ok (.ldc2_w 100, 3) := by decide +kernel
theorem d_M_init_306 : decode b_M_init 306 = .ok (.lastore, 1) := by decide +kernel
theorem d_M_init_307 : decode b_M_init 307 = .ok (.aload_n 0, 1) := by decide +kernel
theorem d_M_init_308 : decode b_M_init 308 = .ok (.getfield 7, 3) := by decide +kernel
theorem d_M_init_311 : decode b_M_init 311 = .ok (.bipush 16, 2) := by decide +kernel
theorem d_M_init_313 : decode b_M_init 313 = .ok (.ldc2_w 102, 3) := by decide +kernel
theorem d_M_init_316 : decode b_M_init 316 = .ok (.lastore, 1) := by decide +kernel
theorem d_M_init_317 : decode b_M_init 317 = .ok (.aload_n 0, 1) := by decide +kernel
theorem d_M_init_318 : decode b_M_init 318 = .ok (.getfield 7, 3) := by decide +kernel
theorem d_M_init_321 : decode b_M_init 321 = .ok (.bipush 17, 2) := by decide +kernel
theorem d_M_init_323 : decode b_M_init 323 = .ok (.ldc2_w 104, 3) := by decide +kernel
theorem d_M_init_326 : decode b_M_init 326 = .ok (.lastore, 1) := by decide +kernel
theorem d_M_init_327 : decode b_M_init 327 = .ok (.aload_n 0, 1) := by decide +kernel
theorem d_M_init_328 : decode b_M_init 328 = .ok (.getfield 7, 3) := by decide +kernel
theorem d_M_init_331 : decode b_M_init 331 = .ok (.bipush 18, 2) := by decide +kernel
theorem d_M_init_333 : decode b_M_init 333 = .ok (.ldc2_w 106, 3) := by decide +kernel
theorem d_M_init_336 : decode b_M_init 336 = .ok (.lastore, 1) := by decide +kernel
theorem d_M_init_337 : decode b_M_init 337 = .ok (.aload_n 0, 1) := by decide +kernel
theorem d_M_init_338 : decode b_M_init 338 = .ok (.getfield 7, 3) := by decide +kernel
theorem d_M_init_341 : decode b_M_init 341 = .ok (.bipush 19, 2) := by decide +kernel
theorem d_M_init_343 : decode b_M_init 343 = .ok (.ldc2_w 108, 3) := by decide +kernel
theorem d_M_init_346 : decode b_M_init 346 = .ok (.lastore, 1) := by decide +kernel
theorem d_M_init_347 : decode b_M_init 347 = .ok (.aload_n 0, 1) := by decide +kernel
theorem d_M_init_348 : decode b_M_init 348 = .ok (.getfield 7, 3) := by decide +kernel
theorem d_M_init_351 : decode b_M_init 351 = .ok (.bipush 20, 2) := by decide +kernel
theorem d_M_init_353 : decode b_M_init 353 = .ok (.ldc2_w 110, 3) := by decide +kernel
theorem d_M_init_356 : decode b_M_init 356 = .ok (.lastore, 1) := by decide +kernel
theorem d_M_init_357 : decode b_M_init 357 = .ok (.aload_n 0, 1) := by decide +kernel
theorem d_M_init_358 : decode b_M_init 358 = .ok (.getfield 7, 3) := by decide +kernel
theorem d_M_init_361 : decode b_M_init 361 = .ok (.bipush 21, 2) := by decide +kernel
theorem d_M_init_363 : decode b_M_init 363 = .ok (.ldc2_w 112, 3) := by decide +kernel
theorem d_M_init_366 : decode b_M_init 366 = .ok (.lastore, 1) := by decide +kernel
theorem d_M_init_367 : decode b_M_init 367 = .ok (.aload_n 0, 1) := by decide +kernel
theorem d_M_init_368 : decode b_M_init 368 = .ok (.getfield 7, 3) := by decide +kernel
theorem d_M_init_371 : decode b_M_init 371 = .ok (.bipush 22, 2) := by decide +kernel
theorem d_M_init_373 : decode b_M_init 373 = .ok (.ldc2_w 114, 3) := by decide +kernel
theorem d_M_init_376 : decode b_M_init 376 = .ok (.lastore, 1) := by decide +kernel
theorem d_M_init_377 : decode b_M_init 377 = .ok (.aload_n 0, 1) := by decide +kernel
theorem d_M_init_378 : decode b_M_init 378 = .ok (.getfield 7, 3) := by decide +kernel
theorem d_M_init_381 : decode b_M_init 381 = .ok (.bipush 23, 2) := by decide +kernel
theorem d_M_init_383 : decode b_M_init 383 = .ok (.ldc2_w 116, 3) := by decide +kernel
theorem d_M_init_386 : decode b_M_init 386 = .ok (.lastore, 1) := by decide +kernel
theorem d_M_init_387 : decode b_M_init 387 = .ok (.aload_n 0, 1) := by decide +kernel
theorem d_M_init_388 : decode b_M_init 388 = .ok (.getfield 7, 3) := by decide +kernel
theorem d_M_init_391 : decode b_M_init 391 = .ok (.bipush 24, 2) := by decide +kernel
theorem d_M_init_393 : decode b_M_init 393 = .ok (.ldc2_w 118, 3) := by decide +kernel
theorem d_M_init_396 : decode b_M_init 396 = .ok (.lastore, 1) := by decide +kernel
theorem d_M_init_397 : decode b_M_init 397 = .ok (.aload_n 0, 1) := by decide +kernel
theorem d_M_init_398 : decode b_M_init 398 = .ok (.getfield 7, 3) := by decide +kernel
theorem d_M_init_401 : decode b_M_init 401 = .ok (.bipush 25, 2) := by decide +kernel
theorem d_M_init_403 : decode b_M_init 403 = .ok (.ldc2_w 120, 3) := by decide +kernel
theorem d_M_init_406 : decode b_M_init 406 = .ok (.lastore, 1) := by decide +kernel
theorem d_M_init_407 : decode b_M_init 407 = .ok (.aload_n 0, 1) := by decide +kernel
theorem d_M_init_408 : decode b_M_init 408 = .ok (.getfield 7, 3) := by decide +kernel
theorem d_M_init_411 : decode b_M_init 411 = .ok (.bipush 26, 2) := by decide +kernel
theorem d_M_init_413 : decode b_M_init 413 = .ok (.ldc2_w 122, 3) := by decide +kernel
theorem d_M_init_416 : decode b_M_init 416 = .ok (.lastore, 1) := by decide +kernel
theorem d_M_init_417 : decode b_M_init 417 = .ok (.aload_n 0, 1) := by decide +kernel
theorem d_M_init_418 : decode b_M_init 418 = .ok (.getfield 7, 3) := by decide +kernel
theorem d_M_init_421 : decode b_M_init 421 = .ok (.bipush 27, 2) := by decide +kernel
theorem d_M_init_423 : decode b_M_init 423 = .ok (.ldc2_w 124, 3) := by decide +kernel
theorem d_M_init_426 : decode b_M_init 426 = .ok (.lastore, 1) := by decide +kernel
theorem d_M_init_427 : decode b_M_init 427 = .ok (.aload_n 0, 1) := by decide +kernel
theorem d_M_init_428 : decode b_M_init 428 = .ok (.getfield 7, 3) := by decide +kernel
theorem d_M_init_431 : decode b_M_init 431 = .ok (.bipush 28, 2) := by decide +kernel
theorem d_M_init_433 : decode b_M_init 433 = .ok (.ldc2_w 126, 3) := by decide +kernel
theorem d_M_init_436 : decode b_M_init 436 = .ok (.lastore, 1) := by decide +kernel
theorem d_M_init_437 : decode b_M_init 437 = .ok (.aload_n 0, 1) := by decide +kernel
theorem d_M_init_438 : decode b_M_init 438 = .ok (.getfield 7, 3) := by decide +kernel
