theorem d_Law_law_0 : decode code 0 = .ok (.new 8, 3) := by decide +kernel
theorem d_Law_law_3 : decode code 3 = .ok (.dup, 1) := by decide +kernel
theorem d_Law_law_4 : decode code 4 = .ok (.invokespecial 69, 3) := by decide +kernel
theorem d_Law_law_7 : decode code 7 = .ok (.astore_n 1, 1) := by decide +kernel
theorem d_Law_law_8 : decode code 8 = .ok (.new 70, 3) := by decide +kernel
theorem d_Law_law_11 : decode code 11 = .ok (.dup, 1) := by decide +kernel
theorem d_Law_law_12 : decode code 12 = .ok (.invokespecial 72, 3) := by decide +kernel
theorem d_Law_law_15 : decode code 15 = .ok (.astore_n 2, 1) := by decide +kernel
theorem d_Law_law_16 : decode code 16 = .ok (.iconst 1, 1) := by decide +kernel
theorem d_Law_law_17 : decode code 17 = .ok (.newarray .long, 2) := by decide +kernel
theorem d_Law_law_19 : decode code 19 = .ok (.astore_n 3, 1) := by decide +kernel
theorem d_Law_law_20 : decode code 20 = .ok (.iconst 0, 1) := by decide +kernel
theorem d_Law_law_21 : decode code 21 = .ok (.istore 4, 2) := by decide +kernel
theorem d_Law_law_23 : decode code 23 = .ok (.iload 4, 2) := by decide +kernel
theorem d_Law_law_25 : decode code 25 = .ok (.aload_n 0, 1) := by decide +kernel
theorem d_Law_law_26 : decode code 26 = .ok (.arraylength, 1) := by decide +kernel
theorem d_Law_law_27 : decode code 27 = .ok (.iconst 4, 1) := by decide +kernel
theorem d_Law_law_28 : decode code 28 = .ok (.isub, 1) := by decide +kernel
theorem d_Law_law_29 : decode code 29 = .ok (.if_icmp .gt 754, 3) := by decide +kernel
theorem d_Law_law_32 : decode code 32 = .ok (.aload_n 0, 1) := by decide +kernel
theorem d_Law_law_33 : decode code 33 = .ok (.iload 4, 2) := by decide +kernel
theorem d_Law_law_35 : decode code 35 = .ok (.iaload, 1) := by decide +kernel
theorem d_Law_law_36 : decode code 36 = .ok (.bipush 31, 2) := by decide +kernel
theorem d_Law_law_38 : decode code 38 = .ok (.iand, 1) := by decide +kernel
theorem d_Law_law_39 : decode code 39 = .ok (.tableswitch 738 0 16 #[81, 153, 197, 210, 250, 322, 350, 390, 401, 429, 457, 497, 565, 593, 633, 661, 698], 81) := by decide +kernel
theorem d_Law_law_120 : decode code 120 = .ok (.aload_n 1, 1) := by decide +kernel
theorem d_Law_law_121 : decode code 121 = .ok (.aload_n 0, 1) := by decide +kernel
theorem d_Law_law_122 : decode code 122 = .ok (.iload 4, 2) := by decide +kernel
theorem d_Law_law_124 : decode code 124 = .ok (.iconst 1, 1) := by decide +kernel
theorem d_Law_law_125 : decode code 125 = .ok (.iadd, 1) := by decide +kernel
theorem d_Law_law_126 : decode code 126 = .ok (.iaload, 1) := by decide +kernel
theorem d_Law_law_127 : decode code 127 = .ok (.i2l, 1) := by decide +kernel
theorem d_Law_law_128 : decode code 128 = .ok (.bipush 32, 2) := by decide +kernel
theorem d_Law_law_130 : decode code 130 = .ok (.lshl, 1) := by decide +kernel
theorem d_Law_law_131 : decode code 131 = .ok (.aload_n 0, 1) := by decide +kernel
theorem d_Law_law_132 : decode code 132 = .ok (.iload 4, 2) := by decide +kernel
theorem d_Law_law_134 : decode code 134 = .ok (.iconst 2, 1) := by decide +kernel
theorem d_Law_law_135 : decode code 135 = .ok (.iadd, 1) := by decide +kernel
theorem d_Law_law_136 : decode code 136 = .ok (.iaload, 1) := by decide +kernel
theorem d_Law_law_137 : decode code 137 = .ok (.i2l, 1) := by decide +kernel
theorem d_Law_law_138 : decode code 138 = .ok (.ldc2_w 73, 3) := by decide +kernel
theorem d_Law_law_141 : decode code 141 = .ok (.land, 1) := by decide +kernel
theorem d_Law_law_142 : decode code 142 = .ok (.lor, 1) := by decide +kernel
theorem d_Law_law_143 : decode code 143 = .ok (.aload_n 0, 1) := by decide +kernel
theorem d_Law_law_144 : decode code 144 = .ok (.iload 4, 2) := by decide +kernel
theorem d_Law_law_146 : decode code 146 = .ok (.iconst 3, 1) := by decide +kernel
theorem d_Law_law_147 : decode code 147 = .ok (.iadd, 1) := by decide +kernel
theorem d_Law_law_148 : decode code 148 = .ok (.iaload, 1) := by decide +kernel
theorem d_Law_law_149 : decode code 149 = .ok (.aload_n 3, 1) := by decide +kernel
theorem d_Law_law_150 : decode code 150 = .ok (.invokestatic 75, 3) := by decide +kernel
theorem d_Law_law_153 : decode code 153 = .ok (.istore 5, 2) := by decide +kernel
theorem d_Law_law_155 : decode code 155 = .ok (.aload_n 2, 1) := by decide +kernel
theorem d_Law_law_156 : decode code 156 = .ok (.aload_n 0, 1) := by decide +kernel
theorem d_Law_law_157 : decode code 157 = .ok (.iload 4, 2) := by decide +kernel
theorem d_Law_law_159 : decode code 159 = .ok (.iconst 1, 1) := by decide +kernel
theorem d_Law_law_160 : decode code 160 = .ok (.iadd, 1) := by decide +kernel
theorem d_Law_law_161 : decode code 161 = .ok (.iaload, 1) := by decide +kernel
theorem d_Law_law_162 : decode code 162 = .ok (.i2l, 1) := by decide +kernel
theorem d_Law_law_163 : decode code 163 = .ok (.bipush 32, 2) := by decide +kernel
theorem d_Law_law_165 : decode code 165 = .ok (.lshl, 1) := by decide +kernel
theorem d_Law_law_166 : decode code 166 = .ok (.aload_n 0, 1) := by decide +kernel
theorem d_Law_law_167 : decode code 167 = .ok (.iload 4, 2) := by decide +kernel
theorem d_Law_law_169 : decode code 169 = .ok (.iconst 2, 1) := by decide +kernel
theorem d_Law_law_170 : decode code 170 = .ok (.iadd, 1) := by decide +kernel
theorem d_Law_law_171 : decode code 171 = .ok (.iaload, 1) := by decide +kernel
theorem d_Law_law_172 : decode code 172 = .ok (.i2l, 1) := by decide +kernel
theorem d_Law_law_173 : decode code 173 = .ok (.ldc2_w 73, 3) := by decide +kernel
theorem d_Law_law_176 : decode code 176 = .ok (.land, 1) := by decide +kernel
theorem d_Law_law_177 : decode code 177 = .ok (.lor, 1) := by decide +kernel
theorem d_Law_law_178 : decode code 178 = .ok (.aload_n 0, 1) := by decide +kernel
theorem d_Law_law_179 : decode code 179 = .ok (.iload 4, 2) := by decide +kernel
theorem d_Law_law_181 : decode code 181 = .ok (.iconst 3, 1) := by decide +kernel
theorem d_Law_law_182 : decode code 182 = .ok (.iadd, 1) := by decide +kernel
theorem d_Law_law_183 : decode code 183 = .ok (.iaload, 1) := by decide +kernel
theorem d_Law_law_184 : decode code 184 = .ok (.invokevirtual 80, 3) := by decide +kernel
theorem d_Law_law_187 : decode code 187 = .ok (.istore 6, 2) := by decide +kernel
theorem d_Law_law_189 : decode code 189 = .ok (.goto 588, 3) := by decide +kernel
theorem d_Law_law_192 : decode code 192 = .ok (.aload_n 1, 1) := by decide +kernel
theorem d_Law_law_193 : decode code 193 = .ok (.aload_n 3, 1) := by decide +kernel
theorem d_Law_law_194 : decode code 194 = .ok (.invokestatic 81, 3) := by decide +kernel
theorem d_Law_law_197 : decode code 197 = .ok (.istore 5, 2) := by decide +kernel
theorem d_Law_law_199 : decode code 199 = .ok (.aload_n 2, 1) := by decide +kernel
theorem d_Law_law_200 : decode code 200 = .ok (.invokevirtual 84, 3) := by decide +kernel
theorem d_Law_law_203 : decode code 203 = .ok (.istore 6, 2) := by decide +kernel
theorem d_Law_law_205 : decode code 205 = .ok (.aload_n 2, 1) := by decide +kernel
theorem d_Law_law_206 : decode code 206 = .ok (.invokevirtual 85, 3) := by decide +kernel
theorem d_Law_law_209 : decode code 209 = .ok (.iload 5, 2) := by decide +kernel
theorem d_Law_law_211 : decode code 211 = .ok (.if_icmp .eq 5, 3) := by decide +kernel
theorem d_Law_law_214 : decode code 214 = .ok (.iconst 0, 1) := by decide +kernel
theorem d_Law_law_215 : decode code 215 = .ok (.ireturn, 1) := by decide +kernel
theorem d_Law_law_216 : decode code 216 = .ok (.iload 5, 2) := by decide +kernel
theorem d_Law_law_218 : decode code 218 = .ok (.ifCond .ne 15, 3) := by decide +kernel
theorem d_Law_law_221 : decode code 221 = .ok (.aload_n 3, 1) := by decide +kernel
theorem d_Law_law_222 : decode code 222 = .ok (.iconst 0, 1) := by decide +kernel
theorem d_Law_law_223 : decode code 223 = .ok (.laload, 1) := by decide +kernel
theorem d_Law_law_224 : decode code 224 = .ok (.iload 6, 2) := by decide +kernel
theorem d_Law_law_226 : decode code 226 = .ok (.i2l, 1) := by decide +kernel
theorem d_Law_law_227 : decode code 227 = .ok (.lcmp, 1) := by decide +kernel
theorem d_Law_law_228 : decode code 228 = .ok (.ifCond .eq 5, 3) := by decide +kernel
theorem d_Law_law_231 : decode code 231 = .ok (.iconst 0, 1) := by decide +kernel
theorem d_Law_law_232 : decode code 232 = .ok (.ireturn, 1) := by decide +kernel
theorem d_Law_law_233 : decode code 233 = .ok (.goto 544, 3) := by decide +kernel
theorem d_Law_law_236 : decode code 236 = .ok (.aload_n 1, 1) := by decide +kernel
theorem d_Law_law_237 : decode code 237 = .ok (.invokevirtual 88, 3) := by decide +kernel
theorem d_Law_law_240 : decode code 240 = .ok (.pop, 1) := by decide +kernel
theorem d_Law_law_241 : decode code 241 = .ok (.aload_n 2, 1) := by decide +kernel
theorem d_Law_law_242 : decode code 242 = .ok (.invokevirtual 91, 3) := by decide +kernel
theorem d_Law_law_245 : decode code 245 = .ok (.pop, 1) := by decide +kernel
theorem d_Law_law_246 : decode code 246 = .ok (.goto 531, 3) := by decide +kernel
theorem d_Law_law_249 : decode code 249 = .ok (.aload_n 1, 1) := by decide +kernel
theorem d_Law_law_250 : decode code 250 = .ok (.aload_n 0, 1) := by decide +kernel
theorem d_Law_law_251 : decode code 251 = .ok (.iload 4, 2) := by decide +kernel
theorem d_Law_law_253 : decode code 253 = .ok (.iconst 1, 1) := by decide +kernel
theorem d_Law_law_254 : decode code 254 = .ok (.iadd, 1) := by decide +kernel
theorem d_Law_law_255 : decode code 255 = .ok (.iaload, 1) := by decide +kernel
theorem d_Law_law_256 : decode code 256 = .ok (.aload_n 0, 1) := by decide +kernel
theorem d_Law_law_257 : decode code 257 = .ok (.iload 4, 2) := by decide +kernel
theorem d_Law_law_259 : decode code 259 = .ok (.iconst 2, 1) := by decide +kernel
theorem d_Law_law_260 : decode code 260 = .ok (.iadd, 1) := by decide +kernel
theorem d_Law_law_261 : decode code 261 = .ok (.iaload, 1) := by decide +kernel
theorem d_Law_law_262 : decode code 262 = .ok (.aload_n 3, 1) := by decide +kernel
theorem d_Law_law_263 : decode code 263 = .ok (.invokestatic 92, 3) := by decide +kernel
theorem d_Law_law_266 : decode code 266 = .ok (.istore 5, 2) := by decide +kernel
theorem d_Law_law_268 : decode code 268 = .ok (.aload_n 2, 1) := by decide +kernel
theorem d_Law_law_269 : decode code 269 = .ok (.aload_n 0, 1) := by decide +kernel
theorem d_Law_law_270 : decode code 270 = .ok (.iload 4, 2) := by decide +kernel
theorem d_Law_law_272 : decode code 272 = .ok (.iconst 1, 1) := by decide +kernel
theorem d_Law_law_273 : decode code 273 = .ok (.iadd, 1) := by decide +kernel
theorem d_Law_law_274 : decode code 274 = .ok (.iaload, 1) := by decide +kernel
theorem d_Law_law_275 : decode code 275 = .ok (.aload_n 0, 1) := by decide +kernel
theorem d_Law_law_276 : decode code 276 = .ok (.iload 4, 2) := by decide +kernel
theorem d_Law_law_278 : decode code 278 = .ok (.iconst 2, 1) := by decide +kernel
theorem d_Law_law_279 : decode code 279 = .ok (.iadd, 1) := by decide +kernel
theorem d_Law_law_280 : decode code 280 = .ok (.iaload, 1) := by decide +kernel
theorem d_Law_law_281 : decode code 281 = .ok (.invokevirtual 95, 3) := by decide +kernel
theorem d_Law_law_284 : decode code 284 = .ok (.istore 6, 2) := by decide +kernel
theorem d_Law_law_286 : decode code 286 = .ok (.goto 491, 3) := by decide +kernel
theorem d_Law_law_289 : decode code 289 = .ok (.aload_n 1, 1) := by decide +kernel
theorem d_Law_law_290 : decode code 290 = .ok (.aload_n 0, 1) := by decide +kernel
theorem d_Law_law_291 : decode code 291 = .ok (.iload 4, 2) := by decide +kernel
theorem d_Law_law_293 : decode code 293 = .ok (.iconst 1, 1) := by decide +kernel
theorem d_Law_law_294 : decode code 294 = .ok (.iadd, 1) := by decide +kernel
theorem d_Law_law_295 : decode code 295 = .ok (.iaload, 1) := by decide +kernel
theorem d_Law_law_296 : decode code 296 = .ok (.i2l, 1) := by decide +kernel
theorem d_Law_law_297 : decode code 297 = .ok (.bipush 32, 2) := by decide +kernel
theorem d_Law_law_299 : decode code 299 = .ok (.lshl, 1) := by decide +kernel
theorem d_Law_law_300 : decode code 300 = .ok (.aload_n 0, 1) := by decide +kernel
theorem d_Law_law_301 : decode code 301 = .ok (.iload 4, 2) := by decide +kernel
theorem d_Law_law_303 : decode code 303 = .ok (.iconst 2, 1) := by decide +kernel
theorem d_Law_law_304 : decode code 304 = .ok (.iadd, 1) := by decide +kernel
theorem d_Law_law_305 : decode code 305 = .ok (.iaload, 1) := by decide +kernel
theorem d_Law_law_306 : decode code 306 = .ok (.i2l, 1) := by decide +kernel
theorem d_Law_law_307 : decode code 307 = .ok (.ldc2_w 73, 3) := by decide +kernel
theorem d_Law_law_310 : decode code 310 = .ok (.land, 1) := by decide +kernel
theorem d_Law_law_311 : decode code 311 = .ok (.lor, 1) := by decide +kernel
theorem d_Law_law_312 : decode code 312 = .ok (.aload_n 0, 1) := by decide +kernel
theorem d_Law_law_313 : decode code 313 = .ok (.iload 4, 2) := by decide +kernel
theorem d_Law_law_315 : decode code 315 = .ok (.iconst 3, 1) := by decide +kernel
theorem d_Law_law_316 : decode code 316 = .ok (.iadd, 1) := by decide +kernel
theorem d_Law_law_317 : decode code 317 = .ok (.iaload, 1) := by decide +kernel
theorem d_Law_law_318 : decode code 318 = .ok (.aload_n 3, 1) := by decide +kernel
theorem d_Law_law_319 : decode code 319 = .ok (.invokestatic 96, 3) := by decide +kernel
theorem d_Law_law_322 : decode code 322 = .ok (.istore 5, 2) := by decide +kernel
theorem d_Law_law_324 : decode code 324 = .ok (.aload_n 2, 1) := by decide +kernel
theorem d_Law_law_325 : decode code 325 = .ok (.aload_n 0, 1) := by decide +kernel
theorem d_Law_law_326 : decode code 326 = .ok (.iload 4, 2) := by decide +kernel
theorem d_Law_law_328 : decode code 328 = .ok (.iconst 1, 1) := by decide +kernel
theorem d_Law_law_329 : decode code 329 = .ok (.iadd, 1) := by decide +kernel
theorem d_Law_law_330 : decode code 330 = .ok (.iaload, 1) := by decide +kernel
theorem d_Law_law_331 : decode code 331 = .ok (.i2l, 1) := by decide +kernel
theorem d_Law_law_332 : decode code 332 = .ok (.bipush 32, 2) := by decide +kernel
theorem d_Law_law_334 : decode code 334 = .ok (.lshl, 1) := by decide +kernel
theorem d_Law_law_335 : decode code 335 = .ok (.aload_n 0, 1) := by decide +kernel
theorem d_Law_law_336 : decode code 336 = .ok (.iload 4, 2) := by decide +kernel
theorem d_Law_law_338 : decode code 338 = .ok (.iconst 2, 1) := by decide +kernel
theorem d_Law_law_339 : decode code 339 = .ok (.iadd, 1) := by decide +kernel
theorem d_Law_law_340 : decode code 340 = .ok (.iaload, 1) := by decide +kernel
theorem d_Law_law_341 : decode code 341 = .ok (.i2l, 1) := by decide +kernel
theorem d_Law_law_342 : decode code 342 = .ok (.ldc2_w 73, 3) := by decide +kernel
theorem d_Law_law_345 : decode code 345 = .ok (.land, 1) := by decide +kernel
theorem d_Law_law_346 : decode code 346 = .ok (.lor, 1) := by decide +kernel
theorem d_Law_law_347 : decode code 347 = .ok (.aload_n 0, 1) := by decide +kernel
theorem d_Law_law_348 : decode code 348 = .ok (.iload 4, 2) := by decide +kernel
theorem d_Law_law_350 : decode code 350 = .ok (.iconst 3, 1) := by decide +kernel
theorem d_Law_law_351 : decode code 351 = .ok (.iadd, 1) := by decide +kernel
theorem d_Law_law_352 : decode code 352 = .ok (.iaload, 1) := by decide +kernel
theorem d_Law_law_353 : decode code 353 = .ok (.invokevirtual 98, 3) := by decide +kernel
theorem d_Law_law_356 : decode code 356 = .ok (.istore 6, 2) := by decide +kernel
theorem d_Law_law_358 : decode code 358 = .ok (.goto 419, 3) := by decide +kernel
theorem d_Law_law_361 : decode code 361 = .ok (.aload_n 1, 1) := by decide +kernel
theorem d_Law_law_362 : decode code 362 = .ok (.aload_n 0, 1) := by decide +kernel
theorem d_Law_law_363 : decode code 363 = .ok (.iload 4, 2) := by decide +kernel
theorem d_Law_law_365 : decode code 365 = .ok (.iconst 1, 1) := by decide +kernel
theorem d_Law_law_366 : decode code 366 = .ok (.iadd, 1) := by decide +kernel
theorem d_Law_law_367 : decode code 367 = .ok (.iaload, 1) := by decide +kernel
theorem d_Law_law_368 : decode code 368 = .ok (.aload_n 3, 1) := by decide +kernel
theorem d_Law_law_369 : decode code 369 = .ok (.invokestatic 99, 3) := by decide +kernel
theorem d_Law_law_372 : decode code 372 = .ok (.istore 5, 2) := by decide +kernel
theorem d_Law_law_374 : decode code 374 = .ok (.aload_n 2, 1) := by decide +kernel
theorem d_Law_law_375 : decode code 375 = .ok (.aload_n 0, 1) := by decide +kernel
theorem d_Law_law_376 : decode code 376 = .ok (.iload 4, 2) := by decide +kernel
theorem d_Law_law_378 : decode code 378 = .ok (.iconst 1, 1) := by decide +kernel
theorem d_Law_law_379 : decode code 379 = .ok (.iadd, 1) := by decide +kernel
theorem d_Law_law_380 : decode code 380 = .ok (.iaload, 1) := by decide +kernel
theorem d_Law_law_381 : decode code 381 = .ok (.invokevirtual 102, 3) := by decide +kernel
theorem d_Law_law_384 : decode code 384 = .ok (.istore 6, 2) := by decide +kernel
theorem d_Law_law_386 : decode code 386 = .ok (.goto 391, 3) := by decide +kernel
theorem d_Law_law_389 : decode code 389 = .ok (.aload_n 1, 1) := by decide +kernel
theorem d_Law_law_390 : decode code 390 = .ok (.aload_n 0, 1) := by decide +kernel
theorem d_Law_law_391 : decode code 391 = .ok (.iload 4, 2) := by decide +kernel
theorem d_Law_law_393 : decode code 393 = .ok (.iconst 1, 1) := by decide +kernel
theorem d_Law_law_394 : decode code 394 = .ok (.iadd, 1) := by decide +kernel
theorem d_Law_law_395 : decode code 395 = .ok (.iaload, 1) := by decide +kernel
theorem d_Law_law_396 : decode code 396 = .ok (.aload_n 0, 1) := by decide +kernel
theorem d_Law_law_397 : decode code 397 = .ok (.iload 4, 2) := by decide +kernel
theorem d_Law_law_399 : decode code 399 = .ok (.iconst 2, 1) := by decide +kernel
theorem d_Law_law_400 : decode code 400 = .ok (.iadd, 1) := by decide +kernel
theorem d_Law_law_401 : decode code 401 = .ok (.iaload, 1) := by decide +kernel
theorem d_Law_law_402 : decode code 402 = .ok (.aload_n 3, 1) := by decide +kernel
theorem d_Law_law_403 : decode code 403 = .ok (.invokestatic 103, 3) := by decide +kernel
theorem d_Law_law_406 : decode code 406 = .ok (.istore 5, 2) := by decide +kernel
theorem d_Law_law_408 : decode code 408 = .ok (.aload_n 2, 1) := by decide +kernel
theorem d_Law_law_409 : decode code 409 = .ok (.aload_n 0, 1) := by decide +kernel
theorem d_Law_law_410 : decode code 410 = .ok (.iload 4, 2) := by decide +kernel
theorem d_Law_law_412 : decode code 412 = .ok (.iconst 1, 1) := by decide +kernel
theorem d_Law_law_413 : decode code 413 = .ok (.iadd, 1) := by decide +kernel
theorem d_Law_law_414 : decode code 414 = .ok (.iaload, 1) := by decide +kernel
theorem d_Law_law_415 : decode code 415 = .ok (.aload_n 0, 1) := by decide +kernel
theorem d_Law_law_416 : decode code 416 = .ok (.iload 4, 2) := by decide +kernel
theorem d_Law_law_418 : decode code 418 = .ok (.iconst 2, 1) := by decide +kernel
theorem d_Law_law_419 : decode code 419 = .ok (.iadd, 1) := by decide +kernel
theorem d_Law_law_420 : decode code 420 = .ok (.iaload, 1) := by decide +kernel
theorem d_Law_law_421 : decode code 421 = .ok (.invokevirtual 105, 3) := by decide +kernel
theorem d_Law_law_424 : decode code 424 = .ok (.istore 6, 2) := by decide +kernel
theorem d_Law_law_426 : decode code 426 = .ok (.goto 351, 3) := by decide +kernel
theorem d_Law_law_429 : decode code 429 = .ok (.aload_n 1, 1) := by decide +kernel
theorem d_Law_law_430 : decode code 430 = .ok (.invokevirtual 106, 3) := by decide +kernel
theorem d_Law_law_433 : decode code 433 = .ok (.aload_n 2, 1) := by decide +kernel
theorem d_Law_law_434 : decode code 434 = .ok (.invokevirtual 109, 3) := by decide +kernel
theorem d_Law_law_437 : decode code 437 = .ok (.goto 340, 3) := by decide +kernel
theorem d_Law_law_440 : decode code 440 = .ok (.aload_n 1, 1) := by decide +kernel
theorem d_Law_law_441 : decode code 441 = .ok (.aload_n 0, 1) := by decide +kernel
theorem d_Law_law_442 : decode code 442 = .ok (.iload 4, 2) := by decide +kernel
theorem d_Law_law_444 : decode code 444 = .ok (.iconst 1, 1) := by decide +kernel
theorem d_Law_law_445 : decode code 445 = .ok (.iadd, 1) := by decide +kernel
theorem d_Law_law_446 : decode code 446 = .ok (.iaload, 1) := by decide +kernel
theorem d_Law_law_447 : decode code 447 = .ok (.aload_n 3, 1) := by decide +kernel
theorem d_Law_law_448 : decode code 448 = .ok (.invokestatic 110, 3) := by decide +kernel
theorem d_Law_law_451 : decode code 451 = .ok (.istore 5, 2) := by decide +kernel
theorem d_Law_law_453 : decode code 453 = .ok (.aload_n 2, 1) := by decide +kernel
theorem d_Law_law_454 : decode code 454 = .ok (.aload_n 0, 1) := by decide +kernel
theorem d_Law_law_455 : decode code 455 = .ok (.iload 4, 2) := by decide +kernel
theorem d_Law_law_457 : decode code 457 = .ok (.iconst 1, 1) := by decide +kernel
theorem d_Law_law_458 : decode code 458 = .ok (.iadd, 1) := by decide +kernel
theorem d_Law_law_459 : decode code 459 = .ok (.iaload, 1) := by decide +kernel
theorem d_Law_law_460 : decode code 460 = .ok (.invokevirtual 112, 3) := by decide +kernel
theorem d_Law_law_463 : decode code 463 = .ok (.istore 6, 2) := by decide +kernel
theorem d_Law_law_465 : decode code 465 = .ok (.goto 312, 3) := by decide +kernel
theorem d_Law_law_468 : decode code 468 = .ok (.aload_n 1, 1) := by decide +kernel
theorem d_Law_law_469 : decode code 469 = .ok (.aload_n 0, 1) := by decide +kernel
theorem d_Law_law_470 : decode code 470 = .ok (.iload 4, 2) := by decide +kernel
theorem d_Law_law_472 : decode code 472 = .ok (.iconst 1, 1) := by decide +kernel
theorem d_Law_law_473 : decode code 473 = .ok (.iadd, 1) := by decide +kernel
theorem d_Law_law_474 : decode code 474 = .ok (.iaload, 1) := by decide +kernel
theorem d_Law_law_475 : decode code 475 = .ok (.aload_n 3, 1) := by decide +kernel
theorem d_Law_law_476 : decode code 476 = .ok (.invokestatic 113, 3) := by decide +kernel
theorem d_Law_law_479 : decode code 479 = .ok (.istore 5, 2) := by decide +kernel
theorem d_Law_law_481 : decode code 481 = .ok (.aload_n 2, 1) := by decide +kernel
theorem d_Law_law_482 : decode code 482 = .ok (.aload_n 0, 1) := by decide +kernel
theorem d_Law_law_483 : decode code 483 = .ok (.iload 4, 2) := by decide +kernel
theorem d_Law_law_485 : decode code 485 = .ok (.iconst 1, 1) := by decide +kernel
theorem d_Law_law_486 : decode code 486 = .ok (.iadd, 1) := by decide +kernel
theorem d_Law_law_487 : decode code 487 = .ok (.iaload, 1) := by decide +kernel
theorem d_Law_law_488 : decode code 488 = .ok (.invokevirtual 115, 3) := by decide +kernel
theorem d_Law_law_491 : decode code 491 = .ok (.istore 6, 2) := by decide +kernel
theorem d_Law_law_493 : decode code 493 = .ok (.goto 284, 3) := by decide +kernel
theorem d_Law_law_496 : decode code 496 = .ok (.aload_n 1, 1) := by decide +kernel
theorem d_Law_law_497 : decode code 497 = .ok (.aload_n 0, 1) := by decide +kernel
theorem d_Law_law_498 : decode code 498 = .ok (.iload 4, 2) := by decide +kernel
theorem d_Law_law_500 : decode code 500 = .ok (.iconst 1, 1) := by decide +kernel
theorem d_Law_law_501 : decode code 501 = .ok (.iadd, 1) := by decide +kernel
theorem d_Law_law_502 : decode code 502 = .ok (.iaload, 1) := by decide +kernel
theorem d_Law_law_503 : decode code 503 = .ok (.aload_n 0, 1) := by decide +kernel
theorem d_Law_law_504 : decode code 504 = .ok (.iload 4, 2) := by decide +kernel
theorem d_Law_law_506 : decode code 506 = .ok (.iconst 2, 1) := by decide +kernel
theorem d_Law_law_507 : decode code 507 = .ok (.iadd, 1) := by decide +kernel
theorem d_Law_law_508 : decode code 508 = .ok (.iaload, 1) := by decide +kernel
theorem d_Law_law_509 : decode code 509 = .ok (.aload_n 3, 1) := by decide +kernel
theorem d_Law_law_510 : decode code 510 = .ok (.invokestatic 116, 3) := by decide +kernel
theorem d_Law_law_513 : decode code 513 = .ok (.istore 5, 2) := by decide +kernel
theorem d_Law_law_515 : decode code 515 = .ok (.aload_n 2, 1) := by decide +kernel
theorem d_Law_law_516 : decode code 516 = .ok (.aload_n 0, 1) := by decide +kernel
theorem d_Law_law_517 : decode code 517 = .ok (.iload 4, 2) := by decide +kernel
theorem d_Law_law_519 : decode code 519 = .ok (.iconst 1, 1) := by decide +kernel
theorem d_Law_law_520 : decode code 520 = .ok (.iadd, 1) := by decide +kernel
theorem d_Law_law_521 : decode code 521 = .ok (.iaload, 1) := by decide +kernel
theorem d_Law_law_522 : decode code 522 = .ok (.aload_n 0, 1) := by decide +kernel
theorem d_Law_law_523 : decode code 523 = .ok (.iload 4, 2) := by decide +kernel
theorem d_Law_law_525 : decode code 525 = .ok (.iconst 2, 1) := by decide +kernel
theorem d_Law_law_526 : decode code 526 = .ok (.iadd, 1) := by decide +kernel
theorem d_Law_law_527 : decode code 527 = .ok (.iaload, 1) := by decide +kernel
theorem d_Law_law_528 : decode code 528 = .ok (.invokevirtual 118, 3) := by decide +kernel
theorem d_Law_law_531 : decode code 531 = .ok (.istore 6, 2) := by decide +kernel
theorem d_Law_law_533 : decode code 533 = .ok (.goto 244, 3) := by decide +kernel
theorem d_Law_law_536 : decode code 536 = .ok (.aload_n 1, 1) := by decide +kernel
theorem d_Law_law_537 : decode code 537 = .ok (.aload_n 0, 1) := by decide +kernel
theorem d_Law_law_538 : decode code 538 = .ok (.iload 4, 2) := by decide +kernel
theorem d_Law_law_540 : decode code 540 = .ok (.iconst 1, 1) := by decide +kernel
theorem d_Law_law_541 : decode code 541 = .ok (.iadd, 1) := by decide +kernel
theorem d_Law_law_542 : decode code 542 = .ok (.iaload, 1) := by decide +kernel
theorem d_Law_law_543 : decode code 543 = .ok (.aload_n 0, 1) := by decide +kernel
theorem d_Law_law_544 : decode code 544 = .ok (.iload 4, 2) := by decide +kernel
theorem d_Law_law_546 : decode code 546 = .ok (.iconst 2, 1) := by decide +kernel
theorem d_Law_law_547 : decode code 547 = .ok (.iadd, 1) := by decide +kernel
theorem d_Law_law_548 : decode code 548 = .ok (.iaload, 1) := by decide +kernel
theorem d_Law_law_549 : decode code 549 = .ok (.aload_n 0, 1) := by decide +kernel
theorem d_Law_law_550 : decode code 550 = .ok (.iload 4, 2) := by decide +kernel
theorem d_Law_law_552 : decode code 552 = .ok (.iconst 3, 1) := by decide +kernel
theorem d_Law_law_553 : decode code 553 = .ok (.iadd, 1) := by decide +kernel
theorem d_Law_law_554 : decode code 554 = .ok (.iaload, 1) := by decide +kernel
theorem d_Law_law_555 : decode code 555 = .ok (.ifCond .eq 7, 3) := by decide +kernel
theorem d_Law_law_558 : decode code 558 = .ok (.iconst 1, 1) := by decide +kernel
theorem d_Law_law_559 : decode code 559 = .ok (.goto 4, 3) := by decide +kernel
theorem d_Law_law_562 : decode code 562 = .ok (.iconst 0, 1) := by decide +kernel
theorem d_Law_law_563 : decode code 563 = .ok (.aload_n 3, 1) := by decide +kernel
theorem d_Law_law_564 : decode code 564 = .ok (.invokestatic 119, 3) := by decide +kernel
theorem d_Law_law_567 : decode code 567 = .ok (.istore 5, 2) := by decide +kernel
theorem d_Law_law_569 : decode code 569 = .ok (.aload_n 2, 1) := by decide +kernel
theorem d_Law_law_570 : decode code 570 = .ok (.aload_n 0, 1) := by decide +kernel
theorem d_Law_law_571 : decode code 571 = .ok (.iload 4, 2) := by decide +kernel
theorem d_Law_law_573 : decode code 573 = .ok (.iconst 1, 1) := by decide +kernel
theorem d_Law_law_574 : decode code 574 = .ok (.iadd, 1) := by decide +kernel
theorem d_Law_law_575 : decode code 575 = .ok (.iaload, 1) := by decide +kernel
theorem d_Law_law_576 : decode code 576 = .ok (.aload_n 0, 1) := by decide +kernel
theorem d_Law_law_577 : decode code 577 = .ok (.iload 4, 2) := by decide +kernel
theorem d_Law_law_579 : decode code 579 = .ok (.iconst 2, 1) := by decide +kernel
theorem d_Law_law_580 : decode code 580 = .ok (.iadd, 1) := by decide +kernel
theorem d_Law_law_581 : decode code 581 = .ok (.iaload, 1) := by decide +kernel
theorem d_Law_law_582 : decode code 582 = .ok (.aload_n 0, 1) := by decide +kernel
theorem d_Law_law_583 : decode code 583 = .ok (.iload 4, 2) := by decide +kernel
theorem d_Law_law_585 : decode code 585 = .ok (.iconst 3, 1) := by decide +kernel
theorem d_Law_law_586 : decode code 586 = .ok (.iadd, 1) := by decide +kernel
theorem d_Law_law_587 : decode code 587 = .ok (.iaload, 1) := by decide +kernel
theorem d_Law_law_588 : decode code 588 = .ok (.ifCond .eq 7, 3) := by decide +kernel
theorem d_Law_law_591 : decode code 591 = .ok (.iconst 1, 1) := by decide +kernel
theorem d_Law_law_592 : decode code 592 = .ok (.goto 4, 3) := by decide +kernel
theorem d_Law_law_595 : decode code 595 = .ok (.iconst 0, 1) := by decide +kernel
theorem d_Law_law_596 : decode code 596 = .ok (.invokevirtual 122, 3) := by decide +kernel
theorem d_Law_law_599 : decode code 599 = .ok (.istore 6, 2) := by decide +kernel
theorem d_Law_law_601 : decode code 601 = .ok (.goto 176, 3) := by decide +kernel
theorem d_Law_law_604 : decode code 604 = .ok (.aload_n 1, 1) := by decide +kernel
theorem d_Law_law_605 : decode code 605 = .ok (.aload_n 0, 1) := by decide +kernel
theorem d_Law_law_606 : decode code 606 = .ok (.iload 4, 2) := by decide +kernel
theorem d_Law_law_608 : decode code 608 = .ok (.iconst 1, 1) := by decide +kernel
theorem d_Law_law_609 : decode code 609 = .ok (.iadd, 1) := by decide +kernel
theorem d_Law_law_610 : decode code 610 = .ok (.iaload, 1) := by decide +kernel
theorem d_Law_law_611 : decode code 611 = .ok (.aload_n 3, 1) := by decide +kernel
theorem d_Law_law_612 : decode code 612 = .ok (.invokestatic 123, 3) := by decide +kernel
theorem d_Law_law_615 : decode code 615 = .ok (.istore 5, 2) := by decide +kernel
theorem d_Law_law_617 : decode code 617 = .ok (.aload_n 2, 1) := by decide +kernel
theorem d_Law_law_618 : decode code 618 = .ok (.aload_n 0, 1) := by decide +kernel
theorem d_Law_law_619 : decode code 619 = .ok (.iload 4, 2) := by decide +kernel
theorem d_Law_law_621 : decode code 621 = .ok (.iconst 1, 1) := by decide +kernel
theorem d_Law_law_622 : decode code 622 = .ok (.iadd, 1) := by decide +kernel
theorem d_Law_law_623 : decode code 623 = .ok (.iaload, 1) := by decide +kernel
theorem d_Law_law_624 : decode code 624 = .ok (.invokevirtual 125, 3) := by decide +kernel
theorem d_Law_law_627 : decode code 627 = .ok (.istore 6, 2) := by decide +kernel
theorem d_Law_law_629 : decode code 629 = .ok (.goto 148, 3) := by decide +kernel
theorem d_Law_law_632 : decode code 632 = .ok (.aload_n 1, 1) := by decide +kernel
theorem d_Law_law_633 : decode code 633 = .ok (.aload_n 0, 1) := by decide +kernel
theorem d_Law_law_634 : decode code 634 = .ok (.iload 4, 2) := by decide +kernel
theorem d_Law_law_636 : decode code 636 = .ok (.iconst 1, 1) := by decide +kernel
theorem d_Law_law_637 : decode code 637 = .ok (.iadd, 1) := by decide +kernel
theorem d_Law_law_638 : decode code 638 = .ok (.iaload, 1) := by decide +kernel
theorem d_Law_law_639 : decode code 639 = .ok (.aload_n 0, 1) := by decide +kernel
theorem d_Law_law_640 : decode code 640 = .ok (.iload 4, 2) := by decide +kernel
theorem d_Law_law_642 : decode code 642 = .ok (.iconst 2, 1) := by decide +kernel
theorem d_Law_law_643 : decode code 643 = .ok (.iadd, 1) := by decide +kernel
theorem d_Law_law_644 : decode code 644 = .ok (.iaload, 1) := by decide +kernel
theorem d_Law_law_645 : decode code 645 = .ok (.aload_n 3, 1) := by decide +kernel
theorem d_Law_law_646 : decode code 646 = .ok (.invokestatic 126, 3) := by decide +kernel
theorem d_Law_law_649 : decode code 649 = .ok (.istore 5, 2) := by decide +kernel
theorem d_Law_law_651 : decode code 651 = .ok (.aload_n 2, 1) := by decide +kernel
theorem d_Law_law_652 : decode code 652 = .ok (.aload_n 0, 1) := by decide +kernel
theorem d_Law_law_653 : decode code 653 = .ok (.iload 4, 2) := by decide +kernel
theorem d_Law_law_655 : decode code 655 = .ok (.iconst 1, 1) := by decide +kernel
theorem d_Law_law_656 : decode code 656 = .ok (.iadd, 1) := by decide +kernel
theorem d_Law_law_657 : decode code 657 = .ok (.iaload, 1) := by decide +kernel
theorem d_Law_law_658 : decode code 658 = .ok (.aload_n 0, 1) := by decide +kernel
theorem d_Law_law_659 : decode code 659 = .ok (.iload 4, 2) := by decide +kernel
theorem d_Law_law_661 : decode code 661 = .ok (.iconst 2, 1) := by decide +kernel
theorem d_Law_law_662 : decode code 662 = .ok (.iadd, 1) := by decide +kernel
theorem d_Law_law_663 : decode code 663 = .ok (.iaload, 1) := by decide +kernel
theorem d_Law_law_664 : decode code 664 = .ok (.invokevirtual 128, 3) := by decide +kernel
theorem d_Law_law_667 : decode code 667 = .ok (.istore 6, 2) := by decide +kernel
theorem d_Law_law_669 : decode code 669 = .ok (.goto 108, 3) := by decide +kernel
theorem d_Law_law_672 : decode code 672 = .ok (.aload_n 1, 1) := by decide +kernel
theorem d_Law_law_673 : decode code 673 = .ok (.aload_n 0, 1) := by decide +kernel
theorem d_Law_law_674 : decode code 674 = .ok (.iload 4, 2) := by decide +kernel
theorem d_Law_law_676 : decode code 676 = .ok (.iconst 1, 1) := by decide +kernel
theorem d_Law_law_677 : decode code 677 = .ok (.iadd, 1) := by decide +kernel
theorem d_Law_law_678 : decode code 678 = .ok (.iaload, 1) := by decide +kernel
theorem d_Law_law_679 : decode code 679 = .ok (.aload_n 3, 1) := by decide +kernel
theorem d_Law_law_680 : decode code 680 = .ok (.invokestatic 129, 3) := by decide +kernel
theorem d_Law_law_683 : decode code 683 = .ok (.istore 5, 2) := by decide +kernel
theorem d_Law_law_685 : decode code 685 = .ok (.aload_n 2, 1) := by decide +kernel
theorem d_Law_law_686 : decode code 686 = .ok (.aload_n 0, 1) := by decide +kernel
theorem d_Law_law_687 : decode code 687 = .ok (.iload 4, 2) := by decide +kernel
theorem d_Law_law_689 : decode code 689 = .ok (.iconst 1, 1) := by decide +kernel
theorem d_Law_law_690 : decode code 690 = .ok (.iadd, 1) := by decide +kernel
theorem d_Law_law_691 : decode code 691 = .ok (.iaload, 1) := by decide +kernel
theorem d_Law_law_692 : decode code 692 = .ok (.invokevirtual 131, 3) := by decide +kernel
theorem d_Law_law_695 : decode code 695 = .ok (.istore 6, 2) := by decide +kernel
theorem d_Law_law_697 : decode code 697 = .ok (.goto 80, 3) := by decide +kernel
theorem d_Law_law_700 : decode code 700 = .ok (.aload_n 1, 1) := by decide +kernel
theorem d_Law_law_701 : decode code 701 = .ok (.aload_n 0, 1) := by decide +kernel
theorem d_Law_law_702 : decode code 702 = .ok (.iload 4, 2) := by decide +kernel
theorem d_Law_law_704 : decode code 704 = .ok (.iconst 1, 1) := by decide +kernel
theorem d_Law_law_705 : decode code 705 = .ok (.iadd, 1) := by decide +kernel
theorem d_Law_law_706 : decode code 706 = .ok (.iaload, 1) := by decide +kernel
theorem d_Law_law_707 : decode code 707 = .ok (.aload_n 0, 1) := by decide +kernel
theorem d_Law_law_708 : decode code 708 = .ok (.iload 4, 2) := by decide +kernel
theorem d_Law_law_710 : decode code 710 = .ok (.iconst 2, 1) := by decide +kernel
theorem d_Law_law_711 : decode code 711 = .ok (.iadd, 1) := by decide +kernel
theorem d_Law_law_712 : decode code 712 = .ok (.iaload, 1) := by decide +kernel
theorem d_Law_law_713 : decode code 713 = .ok (.invokestatic 132, 3) := by decide +kernel
theorem d_Law_law_716 : decode code 716 = .ok (.istore 5, 2) := by decide +kernel
theorem d_Law_law_718 : decode code 718 = .ok (.aload_n 2, 1) := by decide +kernel
theorem d_Law_law_719 : decode code 719 = .ok (.aload_n 0, 1) := by decide +kernel
theorem d_Law_law_720 : decode code 720 = .ok (.iload 4, 2) := by decide +kernel
theorem d_Law_law_722 : decode code 722 = .ok (.iconst 1, 1) := by decide +kernel
theorem d_Law_law_723 : decode code 723 = .ok (.iadd, 1) := by decide +kernel
theorem d_Law_law_724 : decode code 724 = .ok (.iaload, 1) := by decide +kernel
theorem d_Law_law_725 : decode code 725 = .ok (.aload_n 0, 1) := by decide +kernel
theorem d_Law_law_726 : decode code 726 = .ok (.iload 4, 2) := by decide +kernel
theorem d_Law_law_728 : decode code 728 = .ok (.iconst 2, 1) := by decide +kernel
theorem d_Law_law_729 : decode code 729 = .ok (.iadd, 1) := by decide +kernel
theorem d_Law_law_730 : decode code 730 = .ok (.iaload, 1) := by decide +kernel
theorem d_Law_law_731 : decode code 731 = .ok (.invokevirtual 135, 3) := by decide +kernel
theorem d_Law_law_734 : decode code 734 = .ok (.goto 43, 3) := by decide +kernel
theorem d_Law_law_737 : decode code 737 = .ok (.aload_n 1, 1) := by decide +kernel
theorem d_Law_law_738 : decode code 738 = .ok (.aload_n 0, 1) := by decide +kernel
theorem d_Law_law_739 : decode code 739 = .ok (.iload 4, 2) := by decide +kernel
theorem d_Law_law_741 : decode code 741 = .ok (.iconst 1, 1) := by decide +kernel
theorem d_Law_law_742 : decode code 742 = .ok (.iadd, 1) := by decide +kernel
theorem d_Law_law_743 : decode code 743 = .ok (.iaload, 1) := by decide +kernel
theorem d_Law_law_744 : decode code 744 = .ok (.aload_n 0, 1) := by decide +kernel
theorem d_Law_law_745 : decode code 745 = .ok (.iload 4, 2) := by decide +kernel
theorem d_Law_law_747 : decode code 747 = .ok (.iconst 2, 1) := by decide +kernel
theorem d_Law_law_748 : decode code 748 = .ok (.iadd, 1) := by decide +kernel
theorem d_Law_law_749 : decode code 749 = .ok (.iaload, 1) := by decide +kernel
theorem d_Law_law_750 : decode code 750 = .ok (.aload_n 3, 1) := by decide +kernel
theorem d_Law_law_751 : decode code 751 = .ok (.invokestatic 136, 3) := by decide +kernel
theorem d_Law_law_754 : decode code 754 = .ok (.istore 5, 2) := by decide +kernel
theorem d_Law_law_756 : decode code 756 = .ok (.aload_n 2, 1) := by decide +kernel
theorem d_Law_law_757 : decode code 757 = .ok (.aload_n 0, 1) := by decide +kernel
theorem d_Law_law_758 : decode code 758 = .ok (.iload 4, 2) := by decide +kernel
theorem d_Law_law_760 : decode code 760 = .ok (.iconst 1, 1) := by decide +kernel
theorem d_Law_law_761 : decode code 761 = .ok (.iadd, 1) := by decide +kernel
theorem d_Law_law_762 : decode code 762 = .ok (.iaload, 1) := by decide +kernel
theorem d_Law_law_763 : decode code 763 = .ok (.aload_n 0, 1) := by decide +kernel
theorem d_Law_law_764 : decode code 764 = .ok (.iload 4, 2) := by decide +kernel
theorem d_Law_law_766 : decode code 766 = .ok (.iconst 2, 1) := by decide +kernel
theorem d_Law_law_767 : decode code 767 = .ok (.iadd, 1) := by decide +kernel
theorem d_Law_law_768 : decode code 768 = .ok (.iaload, 1) := by decide +kernel
theorem d_Law_law_769 : decode code 769 = .ok (.invokevirtual 138, 3) := by decide +kernel
theorem d_Law_law_772 : decode code 772 = .ok (.istore 6, 2) := by decide +kernel
theorem d_Law_law_774 : decode code 774 = .ok (.goto 3, 3) := by decide +kernel
theorem d_Law_law_777 : decode code 777 = .ok (.iinc 4 4, 3) := by decide +kernel
theorem d_Law_law_780 : decode code 780 = .ok (.goto (-757), 3) := by decide +kernel
theorem d_Law_law_783 : decode code 783 = .ok (.iconst 1, 1) := by decide +kernel
theorem d_Law_law_784 : decode code 784 = .ok (.ireturn, 1) := by decide +kernel
