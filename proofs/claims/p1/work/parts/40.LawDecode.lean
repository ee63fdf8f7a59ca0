theorem d_Law_law_0 : decode code 0 = .ok (.new 8, 3) := by decide +kernel
theorem d_Law_law_3 : decode code 3 = .ok (.dup, 1) := by decide +kernel
theorem d_Law_law_4 : decode code 4 = .ok (.invokespecial 69, 3) := by decide +kernel
theorem d_Law_law_7 : decode code 7 = .ok (.astore_n 1, 1) := by decide +kernel
theorem d_Law_law_8 : decode code 8 = .ok (.new 70, 3) := by decide +kernel
theorem d_Law_law_11 : decode code 11 = .ok (.dup, 1) := by decide +kernel
theorem d_Law_law_12 : decode code 12 = .ok (.invokespecial 72, 3) := by decide +kernel
theorem d_Law_law_15 : decode code 15 = .ok (.astore_n 2, 1) := by decide +kernel
theorem d_Law_law_16 : decode code 16 = .ok (.iconst 1, 1) := by decide +kernel
theorem d_Law_law_17 : decode code 17 = .ok (.newarray .long, 2) := by decide +kernel
theorem d_Law_law_19 : decode code 19 = .ok (.astore_n 3, 1) := by decide +kernel
theorem d_Law_law_20 : decode code 20 = .ok (.iconst 0, 1) := by decide +kernel
theorem d_Law_law_21 : decode code 21 = .ok (.istore 4, 2) := by decide +kernel
theorem d_Law_law_23 : decode code 23 = .ok (.iload 4, 2) := by decide +kernel
theorem d_Law_law_25 : decode code 25 = .ok (.aload_n 0, 1) := by decide +kernel
theorem d_Law_law_26 : decode code 26 = .ok (.arraylength, 1) := by decide +kernel
theorem d_Law_law_27 : decode code 27 = .ok (.iconst 4, 1) := by decide +kernel
theorem d_Law_law_28 : decode code 28 = .ok (.isub, 1) := by decide +kernel
theorem d_Law_law_29 : decode code 29 = .ok (.if_icmp .gt 1143, 3) := by decide +kernel
theorem d_Law_law_32 : decode code 32 = .ok (.aload_n 0, 1) := by decide +kernel
theorem d_Law_law_33 : decode code 33 = .ok (.iload 4, 2) := by decide +kernel
theorem d_Law_law_35 : decode code 35 = .ok (.iaload, 1) := by decide +kernel
theorem d_Law_law_36 : decode code 36 = .ok (.bipush 31, 2) := by decide +kernel
theorem d_Law_law_38 : decode code 38 = .ok (.iand, 1) := by decide +kernel
theorem d_Law_law_39 : decode code 39 = .ok (.tableswitch 1127 0 16 #[81, 181, 225, 238, 306, 406, 462, 530, 541, 597, 653, 721, 817, 873, 948, 1004, 1052], 81) := by decide +kernel
theorem d_Law_law_120 : decode code 120 = .ok (.aload_n 1, 1) := by decide +kernel
theorem d_Law_law_121 : decode code 121 = .ok (.aload_n 0, 1) := by decide +kernel
theorem d_Law_law_122 : decode code 122 = .ok (.iload 4, 2) := by decide +kernel
theorem d_Law_law_124 : decode code 124 = .ok (.iconst 1, 1) := by decide +kernel
theorem d_Law_law_125 : decode code 125 = .ok (.iadd, 1) := by decide +kernel
theorem d_Law_law_126 : decode code 126 = .ok (.iaload, 1) := by decide +kernel
theorem d_Law_law_127 : decode code 127 = .ok (.i2l, 1) := by decide +kernel
theorem d_Law_law_128 : decode code 128 = .ok (.bipush 32, 2) := by decide +kernel
theorem d_Law_law_130 : decode code 130 = .ok (.lshl, 1) := by decide +kernel
theorem d_Law_law_131 : decode code 131 = .ok (.aload_n 0, 1) := by decide +kernel
theorem d_Law_law_132 : decode code 132 = .ok (.iload 4, 2) := by decide +kernel
theorem d_Law_law_134 : decode code 134 = .ok (.iconst 2, 1) := by decide +kernel
theorem d_Law_law_135 : decode code 135 = .ok (.iadd, 1) := by decide +kernel
theorem d_Law_law_136 : decode code 136 = .ok (.iaload, 1) := by decide +kernel
theorem d_Law_law_137 : decode code 137 = .ok (.i2l, 1) := by decide +kernel
theorem d_Law_law_138 : decode code 138 = .ok (.ldc2_w 73, 3) := by decide +kernel
theorem d_Law_law_141 : decode code 141 = .ok (.land, 1) := by decide +kernel
theorem d_Law_law_142 : decode code 142 = .ok (.lor, 1) := by decide +kernel
theorem d_Law_law_143 : decode code 143 = .ok (.aload_n 0, 1) := by decide +kernel
theorem d_Law_law_144 : decode code 144 = .ok (.iload 4, 2) := by decide +kernel
theorem d_Law_law_146 : decode code 146 = .ok (.iconst 3, 1) := by decide +kernel
theorem d_Law_law_147 : decode code 147 = .ok (.iadd, 1) := by decide +kernel
theorem d_Law_law_148 : decode code 148 = .ok (.iaload, 1) := by decide +kernel
theorem d_Law_law_149 : decode code 149 = .ok (.aload_n 3, 1) := by decide +kernel
theorem d_Law_law_150 : decode code 150 = .ok (.invokestatic 75, 3) := by decide +kernel
theorem d_Law_law_153 : decode code 153 = .ok (.istore 5, 2) := by decide +kernel
theorem d_Law_law_155 : decode code 155 = .ok (.aload_n 2, 1) := by decide +kernel
theorem d_Law_law_156 : decode code 156 = .ok (.aload_n 0, 1) := by decide +kernel
theorem d_Law_law_157 : decode code 157 = .ok (.iload 4, 2) := by decide +kernel
theorem d_Law_law_159 : decode code 159 = .ok (.iconst 1, 1) := by decide +kernel
theorem d_Law_law_160 : decode code 160 = .ok (.iadd, 1) := by decide +kernel
theorem d_Law_law_161 : decode code 161 = .ok (.iaload, 1) := by decide +kernel
theorem d_Law_law_162 : decode code 162 = .ok (.i2l, 1) := by decide +kernel
theorem d_Law_law_163 : decode code 163 = .ok (.bipush 32, 2) := by decide +kernel
theorem d_Law_law_165 : decode code 165 = .ok (.lshl, 1) := by decide +kernel
theorem d_Law_law_166 : decode code 166 = .ok (.aload_n 0, 1) := by decide +kernel
theorem d_Law_law_167 : decode code 167 = .ok (.iload 4, 2) := by decide +kernel
theorem d_Law_law_169 : decode code 169 = .ok (.iconst 2, 1) := by decide +kernel
theorem d_Law_law_170 : decode code 170 = .ok (.iadd, 1) := by decide +kernel
theorem d_Law_law_171 : decode code 171 = .ok (.iaload, 1) := by decide +kernel
theorem d_Law_law_172 : decode code 172 = .ok (.i2l, 1) := by decide +kernel
theorem d_Law_law_173 : decode code 173 = .ok (.ldc2_w 73, 3) := by decide +kernel
theorem d_Law_law_176 : decode code 176 = .ok (.land, 1) := by decide +kernel
theorem d_Law_law_177 : decode code 177 = .ok (.lor, 1) := by decide +kernel
theorem d_Law_law_178 : decode code 178 = .ok (.aload_n 0, 1) := by decide +kernel
theorem d_Law_law_179 : decode code 179 = .ok (.iload 4, 2) := by decide +kernel
theorem d_Law_law_181 : decode code 181 = .ok (.iconst 3, 1) := by decide +kernel
theorem d_Law_law_182 : decode code 182 = .ok (.iadd, 1) := by decide +kernel
theorem d_Law_law_183 : decode code 183 = .ok (.iaload, 1) := by decide +kernel
theorem d_Law_law_184 : decode code 184 = .ok (.invokevirtual 80, 3) := by decide +kernel
theorem d_Law_law_187 : decode code 187 = .ok (.istore 6, 2) := by decide +kernel
theorem d_Law_law_189 : decode code 189 = .ok (.aload_n 2, 1) := by decide +kernel
theorem d_Law_law_190 : decode code 190 = .ok (.invokevirtual 81, 3) := by decide +kernel
theorem d_Law_law_193 : decode code 193 = .ok (.iload 5, 2) := by decide +kernel
theorem d_Law_law_195 : decode code 195 = .ok (.if_icmp .eq 5, 3) := by decide +kernel
theorem d_Law_law_198 : decode code 198 = .ok (.iconst 0, 1) := by decide +kernel
theorem d_Law_law_199 : decode code 199 = .ok (.ireturn, 1) := by decide +kernel
theorem d_Law_law_200 : decode code 200 = .ok (.iload 5, 2) := by decide +kernel
theorem d_Law_law_202 : decode code 202 = .ok (.ifCond .ne 15, 3) := by decide +kernel
theorem d_Law_law_205 : decode code 205 = .ok (.aload_n 3, 1) := by decide +kernel
theorem d_Law_law_206 : decode code 206 = .ok (.iconst 0, 1) := by decide +kernel
theorem d_Law_law_207 : decode code 207 = .ok (.laload, 1) := by decide +kernel
theorem d_Law_law_208 : decode code 208 = .ok (.iload 6, 2) := by decide +kernel
theorem d_Law_law_210 : decode code 210 = .ok (.i2l, 1) := by decide +kernel
theorem d_Law_law_211 : decode code 211 = .ok (.lcmp, 1) := by decide +kernel
theorem d_Law_law_212 : decode code 212 = .ok (.ifCond .eq 5, 3) := by decide +kernel
theorem d_Law_law_215 : decode code 215 = .ok (.iconst 0, 1) := by decide +kernel
theorem d_Law_law_216 : decode code 216 = .ok (.ireturn, 1) := by decide +kernel
theorem d_Law_law_217 : decode code 217 = .ok (.goto 949, 3) := by decide +kernel
theorem d_Law_law_220 : decode code 220 = .ok (.aload_n 1, 1) := by decide +kernel
theorem d_Law_law_221 : decode code 221 = .ok (.aload_n 3, 1) := by decide +kernel
theorem d_Law_law_222 : decode code 222 = .ok (.invokestatic 84, 3) := by decide +kernel
theorem d_Law_law_225 : decode code 225 = .ok (.istore 5, 2) := by decide +kernel
theorem d_Law_law_227 : decode code 227 = .ok (.aload_n 2, 1) := by decide +kernel
theorem d_Law_law_228 : decode code 228 = .ok (.invokevirtual 87, 3) := by decide +kernel
theorem d_Law_law_231 : decode code 231 = .ok (.istore 6, 2) := by decide +kernel
theorem d_Law_law_233 : decode code 233 = .ok (.aload_n 2, 1) := by decide +kernel
theorem d_Law_law_234 : decode code 234 = .ok (.invokevirtual 81, 3) := by decide +kernel
theorem d_Law_law_237 : decode code 237 = .ok (.iload 5, 2) := by decide +kernel
theorem d_Law_law_239 : decode code 239 = .ok (.if_icmp .eq 5, 3) := by decide +kernel
theorem d_Law_law_242 : decode code 242 = .ok (.iconst 0, 1) := by decide +kernel
theorem d_Law_law_243 : decode code 243 = .ok (.ireturn, 1) := by decide +kernel
theorem d_Law_law_244 : decode code 244 = .ok (.iload 5, 2) := by decide +kernel
theorem d_Law_law_246 : decode code 246 = .ok (.ifCond .ne 15, 3) := by decide +kernel
theorem d_Law_law_249 : decode code 249 = .ok (.aload_n 3, 1) := by decide +kernel
theorem d_Law_law_250 : decode code 250 = .ok (.iconst 0, 1) := by decide +kernel
theorem d_Law_law_251 : decode code 251 = .ok (.laload, 1) := by decide +kernel
theorem d_Law_law_252 : decode code 252 = .ok (.iload 6, 2) := by decide +kernel
theorem d_Law_law_254 : decode code 254 = .ok (.i2l, 1) := by decide +kernel
theorem d_Law_law_255 : decode code 255 = .ok (.lcmp, 1) := by decide +kernel
theorem d_Law_law_256 : decode code 256 = .ok (.ifCond .eq 5, 3) := by decide +kernel
theorem d_Law_law_259 : decode code 259 = .ok (.iconst 0, 1) := by decide +kernel
theorem d_Law_law_260 : decode code 260 = .ok (.ireturn, 1) := by decide +kernel
theorem d_Law_law_261 : decode code 261 = .ok (.goto 905, 3) := by decide +kernel
theorem d_Law_law_264 : decode code 264 = .ok (.aload_n 1, 1) := by decide +kernel
theorem d_Law_law_265 : decode code 265 = .ok (.invokevirtual 88, 3) := by decide +kernel
theorem d_Law_law_268 : decode code 268 = .ok (.aload_n 2, 1) := by decide +kernel
theorem d_Law_law_269 : decode code 269 = .ok (.invokevirtual 91, 3) := by decide +kernel
theorem d_Law_law_272 : decode code 272 = .ok (.if_icmp .eq 894, 3) := by decide +kernel
theorem d_Law_law_275 : decode code 275 = .ok (.iconst 0, 1) := by decide +kernel
theorem d_Law_law_276 : decode code 276 = .ok (.ireturn, 1) := by decide +kernel
theorem d_Law_law_277 : decode code 277 = .ok (.aload_n 1, 1) := by decide +kernel
theorem d_Law_law_278 : decode code 278 = .ok (.aload_n 0, 1) := by decide +kernel
theorem d_Law_law_279 : decode code 279 = .ok (.iload 4, 2) := by decide +kernel
theorem d_Law_law_281 : decode code 281 = .ok (.iconst 1, 1) := by decide +kernel
theorem d_Law_law_282 : decode code 282 = .ok (.iadd, 1) := by decide +kernel
theorem d_Law_law_283 : decode code 283 = .ok (.iaload, 1) := by decide +kernel
theorem d_Law_law_284 : decode code 284 = .ok (.aload_n 0, 1) := by decide +kernel
theorem d_Law_law_285 : decode code 285 = .ok (.iload 4, 2) := by decide +kernel
theorem d_Law_law_287 : decode code 287 = .ok (.iconst 2, 1) := by decide +kernel
theorem d_Law_law_288 : decode code 288 = .ok (.iadd, 1) := by decide +kernel
theorem d_Law_law_289 : decode code 289 = .ok (.iaload, 1) := by decide +kernel
theorem d_Law_law_290 : decode code 290 = .ok (.aload_n 3, 1) := by decide +kernel
theorem d_Law_law_291 : decode code 291 = .ok (.invokestatic 92, 3) := by decide +kernel
theorem d_Law_law_294 : decode code 294 = .ok (.istore 5, 2) := by decide +kernel
theorem d_Law_law_296 : decode code 296 = .ok (.aload_n 2, 1) := by decide +kernel
theorem d_Law_law_297 : decode code 297 = .ok (.aload_n 0, 1) := by decide +kernel
theorem d_Law_law_298 : decode code 298 = .ok (.iload 4, 2) := by decide +kernel
theorem d_Law_law_300 : decode code 300 = .ok (.iconst 1, 1) := by decide +kernel
theorem d_Law_law_301 : decode code 301 = .ok (.iadd, 1) := by decide +kernel
theorem d_Law_law_302 : decode code 302 = .ok (.iaload, 1) := by decide +kernel
theorem d_Law_law_303 : decode code 303 = .ok (.aload_n 0, 1) := by decide +kernel
theorem d_Law_law_304 : decode code 304 = .ok (.iload 4, 2) := by decide +kernel
theorem d_Law_law_306 : decode code 306 = .ok (.iconst 2, 1) := by decide +kernel
theorem d_Law_law_307 : decode code 307 = .ok (.iadd, 1) := by decide +kernel
theorem d_Law_law_308 : decode code 308 = .ok (.iaload, 1) := by decide +kernel
theorem d_Law_law_309 : decode code 309 = .ok (.invokevirtual 95, 3) := by decide +kernel
theorem d_Law_law_312 : decode code 312 = .ok (.istore 6, 2) := by decide +kernel
theorem d_Law_law_314 : decode code 314 = .ok (.aload_n 2, 1) := by decide +kernel
theorem d_Law_law_315 : decode code 315 = .ok (.invokevirtual 81, 3) := by decide +kernel
theorem d_Law_law_318 : decode code 318 = .ok (.iload 5, 2) := by decide +kernel
theorem d_Law_law_320 : decode code 320 = .ok (.if_icmp .eq 5, 3) := by decide +kernel
theorem d_Law_law_323 : decode code 323 = .ok (.iconst 0, 1) := by decide +kernel
theorem d_Law_law_324 : decode code 324 = .ok (.ireturn, 1) := by decide +kernel
theorem d_Law_law_325 : decode code 325 = .ok (.iload 5, 2) := by decide +kernel
theorem d_Law_law_327 : decode code 327 = .ok (.ifCond .ne 15, 3) := by decide +kernel
theorem d_Law_law_330 : decode code 330 = .ok (.aload_n 3, 1) := by decide +kernel
theorem d_Law_law_331 : decode code 331 = .ok (.iconst 0, 1) := by decide +kernel
theorem d_Law_law_332 : decode code 332 = .ok (.laload, 1) := by decide +kernel
theorem d_Law_law_333 : decode code 333 = .ok (.iload 6, 2) := by decide +kernel
theorem d_Law_law_335 : decode code 335 = .ok (.i2l, 1) := by decide +kernel
theorem d_Law_law_336 : decode code 336 = .ok (.lcmp, 1) := by decide +kernel
theorem d_Law_law_337 : decode code 337 = .ok (.ifCond .eq 5, 3) := by decide +kernel
theorem d_Law_law_340 : decode code 340 = .ok (.iconst 0, 1) := by decide +kernel
theorem d_Law_law_341 : decode code 341 = .ok (.ireturn, 1) := by decide +kernel
theorem d_Law_law_342 : decode code 342 = .ok (.goto 824, 3) := by decide +kernel
theorem d_Law_law_345 : decode code 345 = .ok (.aload_n 1, 1) := by decide +kernel
theorem d_Law_law_346 : decode code 346 = .ok (.aload_n 0, 1) := by decide +kernel
theorem d_Law_law_347 : decode code 347 = .ok (.iload 4, 2) := by decide +kernel
theorem d_Law_law_349 : decode code 349 = .ok (.iconst 1, 1) := by decide +kernel
theorem d_Law_law_350 : decode code 350 = .ok (.iadd, 1) := by decide +kernel
theorem d_Law_law_351 : decode code 351 = .ok (.iaload, 1) := by decide +kernel
theorem d_Law_law_352 : decode code 352 = .ok (.i2l, 1) := by decide +kernel
theorem d_Law_law_353 : decode code 353 = .ok (.bipush 32, 2) := by decide +kernel
theorem d_Law_law_355 : decode code 355 = .ok (.lshl, 1) := by decide +kernel
theorem d_Law_law_356 : decode code 356 = .ok (.aload_n 0, 1) := by decide +kernel
theorem d_Law_law_357 : decode code 357 = .ok (.iload 4, 2) := by decide +kernel
theorem d_Law_law_359 : decode code 359 = .ok (.iconst 2, 1) := by decide +kernel
theorem d_Law_law_360 : decode code 360 = .ok (.iadd, 1) := by decide +kernel
theorem d_Law_law_361 : decode code 361 = .ok (.iaload, 1) := by decide +kernel
theorem d_Law_law_362 : decode code 362 = .ok (.i2l, 1) := by decide +kernel
theorem d_Law_law_363 : decode code 363 = .ok (.ldc2_w 73, 3) := by decide +kernel
theorem d_Law_law_366 : decode code 366 = .ok (.land, 1) := by decide +kernel
theorem d_Law_law_367 : decode code 367 = .ok (.lor, 1) := by decide +kernel
theorem d_Law_law_368 : decode code 368 = .ok (.aload_n 0, 1) := by decide +kernel
theorem d_Law_law_369 : decode code 369 = .ok (.iload 4, 2) := by decide +kernel
theorem d_Law_law_371 : decode code 371 = .ok (.iconst 3, 1) := by decide +kernel
theorem d_Law_law_372 : decode code 372 = .ok (.iadd, 1) := by decide +kernel
theorem d_Law_law_373 : decode code 373 = .ok (.iaload, 1) := by decide +kernel
theorem d_Law_law_374 : decode code 374 = .ok (.aload_n 3, 1) := by decide +kernel
theorem d_Law_law_375 : decode code 375 = .ok (.invokestatic 96, 3) := by decide +kernel
theorem d_Law_law_378 : decode code 378 = .ok (.istore 5, 2) := by decide +kernel
theorem d_Law_law_380 : decode code 380 = .ok (.aload_n 2, 1) := by decide +kernel
theorem d_Law_law_381 : decode code 381 = .ok (.aload_n 0, 1) := by decide +kernel
theorem d_Law_law_382 : decode code 382 = .ok (.iload 4, 2) := by decide +kernel
theorem d_Law_law_384 : decode code 384 = .ok (.iconst 1, 1) := by decide +kernel
theorem d_Law_law_385 : decode code 385 = .ok (.iadd, 1) := by decide +kernel
theorem d_Law_law_386 : decode code 386 = .ok (.iaload, 1) := by decide +kernel
theorem d_Law_law_387 : decode code 387 = .ok (.i2l, 1) := by decide +kernel
theorem d_Law_law_388 : decode code 388 = .ok (.bipush 32, 2) := by decide +kernel
theorem d_Law_law_390 : decode code 390 = .ok (.lshl, 1) := by decide +kernel
theorem d_Law_law_391 : decode code 391 = .ok (.aload_n 0, 1) := by decide +kernel
theorem d_Law_law_392 : decode code 392 = .ok (.iload 4, 2) := by decide +kernel
theorem d_Law_law_394 : decode code 394 = .ok (.iconst 2, 1) := by decide +kernel
theorem d_Law_law_395 : decode code 395 = .ok (.iadd, 1) := by decide +kernel
theorem d_Law_law_396 : decode code 396 = .ok (.iaload, 1) := by decide +kernel
theorem d_Law_law_397 : decode code 397 = .ok (.i2l, 1) := by decide +kernel
theorem d_Law_law_398 : decode code 398 = .ok (.ldc2_w 73, 3) := by decide +kernel
theorem d_Law_law_401 : decode code 401 = .ok (.land, 1) := by decide +kernel
theorem d_Law_law_402 : decode code 402 = .ok (.lor, 1) := by decide +kernel
theorem d_Law_law_403 : decode code 403 = .ok (.aload_n 0, 1) := by decide +kernel
theorem d_Law_law_404 : decode code 404 = .ok (.iload 4, 2) := by decide +kernel
theorem d_Law_law_406 : decode code 406 = .ok (.iconst 3, 1) := by decide +kernel
theorem d_Law_law_407 : decode code 407 = .ok (.iadd, 1) := by decide +kernel
theorem d_Law_law_408 : decode code 408 = .ok (.iaload, 1) := by decide +kernel
theorem d_Law_law_409 : decode code 409 = .ok (.invokevirtual 98, 3) := by decide +kernel
theorem d_Law_law_412 : decode code 412 = .ok (.istore 6, 2) := by decide +kernel
theorem d_Law_law_414 : decode code 414 = .ok (.aload_n 2, 1) := by decide +kernel
theorem d_Law_law_415 : decode code 415 = .ok (.invokevirtual 81, 3) := by decide +kernel
theorem d_Law_law_418 : decode code 418 = .ok (.iload 5, 2) := by decide +kernel
theorem d_Law_law_420 : decode code 420 = .ok (.if_icmp .eq 5, 3) := by decide +kernel
theorem d_Law_law_423 : decode code 423 = .ok (.iconst 0, 1) := by decide +kernel
theorem d_Law_law_424 : decode code 424 = .ok (.ireturn, 1) := by decide +kernel
theorem d_Law_law_425 : decode code 425 = .ok (.iload 5, 2) := by decide +kernel
theorem d_Law_law_427 : decode code 427 = .ok (.ifCond .ne 15, 3) := by decide +kernel
theorem d_Law_law_430 : decode code 430 = .ok (.aload_n 3, 1) := by decide +kernel
theorem d_Law_law_431 : decode code 431 = .ok (.iconst 0, 1) := by decide +kernel
theorem d_Law_law_432 : decode code 432 = .ok (.laload, 1) := by decide +kernel
theorem d_Law_law_433 : decode code 433 = .ok (.iload 6, 2) := by decide +kernel
theorem d_Law_law_435 : decode code 435 = .ok (.i2l, 1) := by decide +kernel
theorem d_Law_law_436 : decode code 436 = .ok (.lcmp, 1) := by decide +kernel
theorem d_Law_law_437 : decode code 437 = .ok (.ifCond .eq 5, 3) := by decide +kernel
theorem d_Law_law_440 : decode code 440 = .ok (.iconst 0, 1) := by decide +kernel
theorem d_Law_law_441 : decode code 441 = .ok (.ireturn, 1) := by decide +kernel
theorem d_Law_law_442 : decode code 442 = .ok (.goto 724, 3) := by decide +kernel
theorem d_Law_law_445 : decode code 445 = .ok (.aload_n 1, 1) := by decide +kernel
theorem d_Law_law_446 : decode code 446 = .ok (.aload_n 0, 1) := by decide +kernel
theorem d_Law_law_447 : decode code 447 = .ok (.iload 4, 2) := by decide +kernel
theorem d_Law_law_449 : decode code 449 = .ok (.iconst 1, 1) := by decide +kernel
theorem d_Law_law_450 : decode code 450 = .ok (.iadd, 1) := by decide +kernel
theorem d_Law_law_451 : decode code 451 = .ok (.iaload, 1) := by decide +kernel
theorem d_Law_law_452 : decode code 452 = .ok (.aload_n 3, 1) := by decide +kernel
theorem d_Law_law_453 : decode code 453 = .ok (.invokestatic 99, 3) := by decide +kernel
theorem d_Law_law_456 : decode code 456 = .ok (.istore 5, 2) := by decide +kernel
theorem d_Law_law_458 : decode code 458 = .ok (.aload_n 2, 1) := by decide +kernel
theorem d_Law_law_459 : decode code 459 = .ok (.aload_n 0, 1) := by decide +kernel
theorem d_Law_law_460 : decode code 460 = .ok (.iload 4, 2) := by decide +kernel
theorem d_Law_law_462 : decode code 462 = .ok (.iconst 1, 1) := by decide +kernel
theorem d_Law_law_463 : decode code 463 = .ok (.iadd, 1) := by decide +kernel
theorem d_Law_law_464 : decode code 464 = .ok (.iaload, 1) := by decide +kernel
theorem d_Law_law_465 : decode code 465 = .ok (.invokevirtual 102, 3) := by decide +kernel
theorem d_Law_law_468 : decode code 468 = .ok (.istore 6, 2) := by decide +kernel
theorem d_Law_law_470 : decode code 470 = .ok (.aload_n 2, 1) := by decide +kernel
theorem d_Law_law_471 : decode code 471 = .ok (.invokevirtual 81, 3) := by decide +kernel
theorem d_Law_law_474 : decode code 474 = .ok (.iload 5, 2) := by decide +kernel
theorem d_Law_law_476 : decode code 476 = .ok (.if_icmp .eq 5, 3) := by decide +kernel
theorem d_Law_law_479 : decode code 479 = .ok (.iconst 0, 1) := by decide +kernel
theorem d_Law_law_480 : decode code 480 = .ok (.ireturn, 1) := by decide +kernel
theorem d_Law_law_481 : decode code 481 = .ok (.iload 5, 2) := by decide +kernel
theorem d_Law_law_483 : decode code 483 = .ok (.ifCond .ne 15, 3) := by decide +kernel
theorem d_Law_law_486 : decode code 486 = .ok (.aload_n 3, 1) := by decide +kernel
theorem d_Law_law_487 : decode code 487 = .ok (.iconst 0, 1) := by decide +kernel
theorem d_Law_law_488 : decode code 488 = .ok (.laload, 1) := by decide +kernel
theorem d_Law_law_489 : decode code 489 = .ok (.iload 6, 2) := by decide +kernel
theorem d_Law_law_491 : decode code 491 = .ok (.i2l, 1) := by decide +kernel
theorem d_Law_law_492 : decode code 492 = .ok (.lcmp, 1) := by decide +kernel
theorem d_Law_law_493 : decode code 493 = .ok (.ifCond .eq 5, 3) := by decide +kernel
theorem d_Law_law_496 : decode code 496 = .ok (.iconst 0, 1) := by decide +kernel
theorem d_Law_law_497 : decode code 497 = .ok (.ireturn, 1) := by decide +kernel
theorem d_Law_law_498 : decode code 498 = .ok (.goto 668, 3) := by decide +kernel
theorem d_Law_law_501 : decode code 501 = .ok (.aload_n 1, 1) := by decide +kernel
theorem d_Law_law_502 : decode code 502 = .ok (.aload_n 0, 1) := by decide +kernel
theorem d_Law_law_503 : decode code 503 = .ok (.iload 4, 2) := by decide +kernel
theorem d_Law_law_505 : decode code 505 = .ok (.iconst 1, 1) := by decide +kernel
theorem d_Law_law_506 : decode code 506 = .ok (.iadd, 1) := by decide +kernel
theorem d_Law_law_507 : decode code 507 = .ok (.iaload, 1) := by decide +kernel
theorem d_Law_law_508 : decode code 508 = .ok (.aload_n 0, 1) := by decide +kernel
theorem d_Law_law_509 : decode code 509 = .ok (.iload 4, 2) := by decide +kernel
theorem d_Law_law_511 : decode code 511 = .ok (.iconst 2, 1) := by decide +kernel
theorem d_Law_law_512 : decode code 512 = .ok (.iadd, 1) := by decide +kernel
theorem d_Law_law_513 : decode code 513 = .ok (.iaload, 1) := by decide +kernel
theorem d_Law_law_514 : decode code 514 = .ok (.aload_n 3, 1) := by decide +kernel
theorem d_Law_law_515 : decode code 515 = .ok (.invokestatic 103, 3) := by decide +kernel
theorem d_Law_law_518 : decode code 518 = .ok (.istore 5, 2) := by decide +kernel
theorem d_Law_law_520 : decode code 520 = .ok (.aload_n 2, 1) := by decide +kernel
theorem d_Law_law_521 : decode code 521 = .ok (.aload_n 0, 1) := by decide +kernel
theorem d_Law_law_522 : decode code 522 = .ok (.iload 4, 2) := by decide +kernel
theorem d_Law_law_524 : decode code 524 = .ok (.iconst 1, 1) := by decide +kernel
theorem d_Law_law_525 : decode code 525 = .ok (.iadd, 1) := by decide +kernel
theorem d_Law_law_526 : decode code 526 = .ok (.iaload, 1) := by decide +kernel
theorem d_Law_law_527 : decode code 527 = .ok (.aload_n 0, 1) := by decide +kernel
theorem d_Law_law_528 : decode code 528 = .ok (.iload 4, 2) := by decide +kernel
theorem d_Law_law_530 : decode code 530 = .ok (.iconst 2, 1) := by decide +kernel
theorem d_Law_law_531 : decode code 531 = .ok (.iadd, 1) := by decide +kernel
theorem d_Law_law_532 : decode code 532 = .ok (.iaload, 1) := by decide +kernel
theorem d_Law_law_533 : decode code 533 = .ok (.invokevirtual 105, 3) := by decide +kernel
theorem d_Law_law_536 : decode code 536 = .ok (.istore 6, 2) := by decide +kernel
theorem d_Law_law_538 : decode code 538 = .ok (.aload_n 2, 1) := by decide +kernel
theorem d_Law_law_539 : decode code 539 = .ok (.invokevirtual 81, 3) := by decide +kernel
theorem d_Law_law_542 : decode code 542 = .ok (.iload 5, 2) := by decide +kernel
theorem d_Law_law_544 : decode code 544 = .ok (.if_icmp .eq 5, 3) := by decide +kernel
theorem d_Law_law_547 : decode code 547 = .ok (.iconst 0, 1) := by decide +kernel
theorem d_Law_law_548 : decode code 548 = .ok (.ireturn, 1) := by decide +kernel
theorem d_Law_law_549 : decode code 549 = .ok (.iload 5, 2) := by decide +kernel
theorem d_Law_law_551 : decode code 551 = .ok (.ifCond .ne 15, 3) := by decide +kernel
theorem d_Law_law_554 : decode code 554 = .ok (.aload_n 3, 1) := by decide +kernel
theorem d_Law_law_555 : decode code 555 = .ok (.iconst 0, 1) := by decide +kernel
theorem d_Law_law_556 : decode code 556 = .ok (.laload, 1) := by decide +kernel
theorem d_Law_law_557 : decode code 557 = .ok (.iload 6, 2) := by decide +kernel
theorem d_Law_law_559 : decode code 559 = .ok (.i2l, 1) := by decide +kernel
theorem d_Law_law_560 : decode code 560 = .ok (.lcmp, 1) := by decide +kernel
theorem d_Law_law_561 : decode code 561 = .ok (.ifCond .eq 5, 3) := by decide +kernel
theorem d_Law_law_564 : decode code 564 = .ok (.iconst 0, 1) := by decide +kernel
theorem d_Law_law_565 : decode code 565 = .ok (.ireturn, 1) := by decide +kernel
theorem d_Law_law_566 : decode code 566 = .ok (.goto 600, 3) := by decide +kernel
theorem d_Law_law_569 : decode code 569 = .ok (.aload_n 1, 1) := by decide +kernel
theorem d_Law_law_570 : decode code 570 = .ok (.invokevirtual 106, 3) := by decide +kernel
theorem d_Law_law_573 : decode code 573 = .ok (.aload_n 2, 1) := by decide +kernel
theorem d_Law_law_574 : decode code 574 = .ok (.invokevirtual 109, 3) := by decide +kernel
theorem d_Law_law_577 : decode code 577 = .ok (.goto 589, 3) := by decide +kernel
theorem d_Law_law_580 : decode code 580 = .ok (.aload_n 1, 1) := by decide +kernel
theorem d_Law_law_581 : decode code 581 = .ok (.aload_n 0, 1) := by decide +kernel
theorem d_Law_law_582 : decode code 582 = .ok (.iload 4, 2) := by decide +kernel
theorem d_Law_law_584 : decode code 584 = .ok (.iconst 1, 1) := by decide +kernel
theorem d_Law_law_585 : decode code 585 = .ok (.iadd, 1) := by decide +kernel
theorem d_Law_law_586 : decode code 586 = .ok (.iaload, 1) := by decide +kernel
theorem d_Law_law_587 : decode code 587 = .ok (.aload_n 3, 1) := by decide +kernel
theorem d_Law_law_588 : decode code 588 = .ok (.invokestatic 110, 3) := by decide +kernel
theorem d_Law_law_591 : decode code 591 = .ok (.istore 5, 2) := by decide +kernel
theorem d_Law_law_593 : decode code 593 = .ok (.aload_n 2, 1) := by decide +kernel
theorem d_Law_law_594 : decode code 594 = .ok (.aload_n 0, 1) := by decide +kernel
theorem d_Law_law_595 : decode code 595 = .ok (.iload 4, 2) := by decide +kernel
theorem d_Law_law_597 : decode code 597 = .ok (.iconst 1, 1) := by decide +kernel
theorem d_Law_law_598 : decode code 598 = .ok (.iadd, 1) := by decide +kernel
theorem d_Law_law_599 : decode code 599 = .ok (.iaload, 1) := by decide +kernel
theorem d_Law_law_600 : decode code 600 = .ok (.invokevirtual 112, 3) := by decide +kernel
theorem d_Law_law_603 : decode code 603 = .ok (.istore 6, 2) := by decide +kernel
theorem d_Law_law_605 : decode code 605 = .ok (.aload_n 2, 1) := by decide +kernel
theorem d_Law_law_606 : decode code 606 = .ok (.invokevirtual 81, 3) := by decide +kernel
theorem d_Law_law_609 : decode code 609 = .ok (.iload 5, 2) := by decide +kernel
theorem d_Law_law_611 : decode code 611 = .ok (.if_icmp .eq 5, 3) := by decide +kernel
theorem d_Law_law_614 : decode code 614 = .ok (.iconst 0, 1) := by decide +kernel
theorem d_Law_law_615 : decode code 615 = .ok (.ireturn, 1) := by decide +kernel
theorem d_Law_law_616 : decode code 616 = .ok (.iload 5, 2) := by decide +kernel
theorem d_Law_law_618 : decode code 618 = .ok (.ifCond .ne 15, 3) := by decide +kernel
theorem d_Law_law_621 : decode code 621 = .ok (.aload_n 3, 1) := by decide +kernel
theorem d_Law_law_622 : decode code 622 = .ok (.iconst 0, 1) := by decide +kernel
theorem d_Law_law_623 : decode code 623 = .ok (.laload, 1) := by decide +kernel
theorem d_Law_law_624 : decode code 624 = .ok (.iload 6, 2) := by decide +kernel
theorem d_Law_law_626 : decode code 626 = .ok (.i2l, 1) := by decide +kernel
theorem d_Law_law_627 : decode code 627 = .ok (.lcmp, 1) := by decide +kernel
theorem d_Law_law_628 : decode code 628 = .ok (.ifCond .eq 5, 3) := by decide +kernel
theorem d_Law_law_631 : decode code 631 = .ok (.iconst 0, 1) := by decide +kernel
theorem d_Law_law_632 : decode code 632 = .ok (.ireturn, 1) := by decide +kernel
theorem d_Law_law_633 : decode code 633 = .ok (.goto 533, 3) := by decide +kernel
theorem d_Law_law_636 : decode code 636 = .ok (.aload_n 1, 1) := by decide +kernel
theorem d_Law_law_637 : decode code 637 = .ok (.aload_n 0, 1) := by decide +kernel
theorem d_Law_law_638 : decode code 638 = .ok (.iload 4, 2) := by decide +kernel
theorem d_Law_law_640 : decode code 640 = .ok (.iconst 1, 1) := by decide +kernel
theorem d_Law_law_641 : decode code 641 = .ok (.iadd, 1) := by decide +kernel
theorem d_Law_law_642 : decode code 642 = .ok (.iaload, 1) := by decide +kernel
theorem d_Law_law_643 : decode code 643 = .ok (.aload_n 3, 1) := by decide +kernel
theorem d_Law_law_644 : decode code 644 = .ok (.invokestatic 113, 3) := by decide +kernel
theorem d_Law_law_647 : decode code 647 = .ok (.istore 5, 2) := by decide +kernel
theorem d_Law_law_649 : decode code 649 = .ok (.aload_n 2, 1) := by decide +kernel
theorem d_Law_law_650 : decode code 650 = .ok (.aload_n 0, 1) := by decide +kernel
theorem d_Law_law_651 : decode code 651 = .ok (.iload 4, 2) := by decide +kernel
theorem d_Law_law_653 : decode code 653 = .ok (.iconst 1, 1) := by decide +kernel
theorem d_Law_law_654 : decode code 654 = .ok (.iadd, 1) := by decide +kernel
theorem d_Law_law_655 : decode code 655 = .ok (.iaload, 1) := by decide +kernel
theorem d_Law_law_656 : decode code 656 = .ok (.invokevirtual 115, 3) := by decide +kernel
theorem d_Law_law_659 : decode code 659 = .ok (.istore 6, 2) := by decide +kernel
theorem d_Law_law_661 : decode code 661 = .ok (.aload_n 2, 1) := by decide +kernel
theorem d_Law_law_662 : decode code 662 = .ok (.invokevirtual 81, 3) := by decide +kernel
theorem d_Law_law_665 : decode code 665 = .ok (.iload 5, 2) := by decide +kernel
theorem d_Law_law_667 : decode code 667 = .ok (.if_icmp .eq 5, 3) := by decide +kernel
theorem d_Law_law_670 : decode code 670 = .ok (.iconst 0, 1) := by decide +kernel
theorem d_Law_law_671 : decode code 671 = .ok (.ireturn, 1) := by decide +kernel
theorem d_Law_law_672 : decode code 672 = .ok (.iload 5, 2) := by decide +kernel
theorem d_Law_law_674 : decode code 674 = .ok (.ifCond .ne 15, 3) := by decide +kernel
theorem d_Law_law_677 : decode code 677 = .ok (.aload_n 3, 1) := by decide +kernel
theorem d_Law_law_678 : decode code 678 = .ok (.iconst 0, 1) := by decide +kernel
theorem d_Law_law_679 : decode code 679 = .ok (.laload, 1) := by decide +kernel
theorem d_Law_law_680 : decode code 680 = .ok (.iload 6, 2) := by decide +kernel
theorem d_Law_law_682 : decode code 682 = .ok (.i2l, 1) := by decide +kernel
theorem d_Law_law_683 : decode code 683 = .ok (.lcmp, 1) := by decide +kernel
theorem d_Law_law_684 : decode code 684 = .ok (.ifCond .eq 5, 3) := by decide +kernel
theorem d_Law_law_687 : decode code 687 = .ok (.iconst 0, 1) := by decide +kernel
theorem d_Law_law_688 : decode code 688 = .ok (.ireturn, 1) := by decide +kernel
theorem d_Law_law_689 : decode code 689 = .ok (.goto 477, 3) := by decide +kernel
theorem d_Law_law_692 : decode code 692 = .ok (.aload_n 1, 1) := by decide +kernel
theorem d_Law_law_693 : decode code 693 = .ok (.aload_n 0, 1) := by decide +kernel
theorem d_Law_law_694 : decode code 694 = .ok (.iload 4, 2) := by decide +kernel
theorem d_Law_law_696 : decode code 696 = .ok (.iconst 1, 1) := by decide +kernel
theorem d_Law_law_697 : decode code 697 = .ok (.iadd, 1) := by decide +kernel
theorem d_Law_law_698 : decode code 698 = .ok (.iaload, 1) := by decide +kernel
theorem d_Law_law_699 : decode code 699 = .ok (.aload_n 0, 1) := by decide +kernel
theorem d_Law_law_700 : decode code 700 = .ok (.iload 4, 2) := by decide +kernel
theorem d_Law_law_702 : decode code 702 = .ok (.iconst 2, 1) := by decide +kernel
theorem d_Law_law_703 : decode code 703 = .ok (.iadd, 1) := by decide +kernel
theorem d_Law_law_704 : decode code 704 = .ok (.iaload, 1) := by decide +kernel
theorem d_Law_law_705 : decode code 705 = .ok (.aload_n 3, 1) := by decide +kernel
theorem d_Law_law_706 : decode code 706 = .ok (.invokestatic 116, 3) := by decide +kernel
theorem d_Law_law_709 : decode code 709 = .ok (.istore 5, 2) := by decide +kernel
theorem d_Law_law_711 : decode code 711 = .ok (.aload_n 2, 1) := by decide +kernel
theorem d_Law_law_712 : decode code 712 = .ok (.aload_n 0, 1) := by decide +kernel
theorem d_Law_law_713 : decode code 713 = .ok (.iload 4, 2) := by decide +kernel
theorem d_Law_law_715 : decode code 715 = .ok (.iconst 1, 1) := by decide +kernel
theorem d_Law_law_716 : decode code 716 = .ok (.iadd, 1) := by decide +kernel
theorem d_Law_law_717 : decode code 717 = .ok (.iaload, 1) := by decide +kernel
theorem d_Law_law_718 : decode code 718 = .ok (.aload_n 0, 1) := by decide +kernel
theorem d_Law_law_719 : decode code 719 = .ok (.iload 4, 2) := by decide +kernel
theorem d_Law_law_721 : decode code 721 = .ok (.iconst 2, 1) := by decide +kernel
theorem d_Law_law_722 : decode code 722 = .ok (.iadd, 1) := by decide +kernel
theorem d_Law_law_723 : decode code 723 = .ok (.iaload, 1) := by decide +kernel
theorem d_Law_law_724 : decode code 724 = .ok (.invokevirtual 118, 3) := by decide +kernel
theorem d_Law_law_727 : decode code 727 = .ok (.istore 6, 2) := by decide +kernel
theorem d_Law_law_729 : decode code 729 = .ok (.aload_n 2, 1) := by decide +kernel
theorem d_Law_law_730 : decode code 730 = .ok (.invokevirtual 81, 3) := by decide +kernel
theorem d_Law_law_733 : decode code 733 = .ok (.iload 5, 2) := by decide +kernel
theorem d_Law_law_735 : decode code 735 = .ok (.if_icmp .eq 5, 3) := by decide +kernel
theorem d_Law_law_738 : decode code 738 = .ok (.iconst 0, 1) := by decide +kernel
theorem d_Law_law_739 : decode code 739 = .ok (.ireturn, 1) := by decide +kernel
theorem d_Law_law_740 : decode code 740 = .ok (.iload 5, 2) := by decide +kernel
theorem d_Law_law_742 : decode code 742 = .ok (.ifCond .ne 15, 3) := by decide +kernel
theorem d_Law_law_745 : decode code 745 = .ok (.aload_n 3, 1) := by decide +kernel
theorem d_Law_law_746 : decode code 746 = .ok (.iconst 0, 1) := by decide +kernel
theorem d_Law_law_747 : decode code 747 = .ok (.laload, 1) := by decide +kernel
theorem d_Law_law_748 : decode code 748 = .ok (.iload 6, 2) := by decide +kernel
theorem d_Law_law_750 : decode code 750 = .ok (.i2l, 1) := by decide +kernel
theorem d_Law_law_751 : decode code 751 = .ok (.lcmp, 1) := by decide +kernel
theorem d_Law_law_752 : decode code 752 = .ok (.ifCond .eq 5, 3) := by decide +kernel
theorem d_Law_law_755 : decode code 755 = .ok (.iconst 0, 1) := by decide +kernel
theorem d_Law_law_756 : decode code 756 = .ok (.ireturn, 1) := by decide +kernel
theorem d_Law_law_757 : decode code 757 = .ok (.goto 409, 3) := by decide +kernel
theorem d_Law_law_760 : decode code 760 = .ok (.aload_n 1, 1) := by decide +kernel
theorem d_Law_law_761 : decode code 761 = .ok (.aload_n 0, 1) := by decide +kernel
theorem d_Law_law_762 : decode code 762 = .ok (.iload 4, 2) := by decide +kernel
theorem d_Law_law_764 : decode code 764 = .ok (.iconst 1, 1) := by decide +kernel
theorem d_Law_law_765 : decode code 765 = .ok (.iadd, 1) := by decide +kernel
theorem d_Law_law_766 : decode code 766 = .ok (.iaload, 1) := by decide +kernel
theorem d_Law_law_767 : decode code 767 = .ok (.aload_n 0, 1) := by decide +kernel
theorem d_Law_law_768 : decode code 768 = .ok (.iload 4, 2) := by decide +kernel
theorem d_Law_law_770 : decode code 770 = .ok (.iconst 2, 1) := by decide +kernel
theorem d_Law_law_771 : decode code 771 = .ok (.iadd, 1) := by decide +kernel
theorem d_Law_law_772 : decode code 772 = .ok (.iaload, 1) := by decide +kernel
theorem d_Law_law_773 : decode code 773 = .ok (.aload_n 0, 1) := by decide +kernel
theorem d_Law_law_774 : decode code 774 = .ok (.iload 4, 2) := by decide +kernel
theorem d_Law_law_776 : decode code 776 = .ok (.iconst 3, 1) := by decide +kernel
theorem d_Law_law_777 : decode code 777 = .ok (.iadd, 1) := by decide +kernel
theorem d_Law_law_778 : decode code 778 = .ok (.iaload, 1) := by decide +kernel
theorem d_Law_law_779 : decode code 779 = .ok (.ifCond .eq 7, 3) := by decide +kernel
theorem d_Law_law_782 : decode code 782 = .ok (.iconst 1, 1) := by decide +kernel
theorem d_Law_law_783 : decode code 783 = .ok (.goto 4, 3) := by decide +kernel
theorem d_Law_law_786 : decode code 786 = .ok (.iconst 0, 1) := by decide +kernel
theorem d_Law_law_787 : decode code 787 = .ok (.aload_n 3, 1) := by decide +kernel
theorem d_Law_law_788 : decode code 788 = .ok (.invokestatic 119, 3) := by decide +kernel
theorem d_Law_law_791 : decode code 791 = .ok (.istore 5, 2) := by decide +kernel
theorem d_Law_law_793 : decode code 793 = .ok (.aload_n 2, 1) := by decide +kernel
theorem d_Law_law_794 : decode code 794 = .ok (.aload_n 0, 1) := by decide +kernel
theorem d_Law_law_795 : decode code 795 = .ok (.iload 4, 2) := by decide +kernel
theorem d_Law_law_797 : decode code 797 = .ok (.iconst 1, 1) := by decide +kernel
theorem d_Law_law_798 : decode code 798 = .ok (.iadd, 1) := by decide +kernel
theorem d_Law_law_799 : decode code 799 = .ok (.iaload, 1) := by decide +kernel
theorem d_Law_law_800 : decode code 800 = .ok (.aload_n 0, 1) := by decide +kernel
theorem d_Law_law_801 : decode code 801 = .ok (.iload 4, 2) := by decide +kernel
theorem d_Law_law_803 : decode code 803 = .ok (.iconst 2, 1) := by decide +kernel
theorem d_Law_law_804 : decode code 804 = .ok (.iadd, 1) := by decide +kernel
theorem d_Law_law_805 : decode code 805 = .ok (.iaload, 1) := by decide +kernel
theorem d_Law_law_806 : decode code 806 = .ok (.aload_n 0, 1) := by decide +kernel
theorem d_Law_law_807 : decode code 807 = .ok (.iload 4, 2) := by decide +kernel
theorem d_Law_law_809 : decode code 809 = .ok (.iconst 3, 1) := by decide +kernel
theorem d_Law_law_810 : decode code 810 = .ok (.iadd, 1) := by decide +kernel
theorem d_Law_law_811 : decode code 811 = .ok (.iaload, 1) := by decide +kernel
theorem d_Law_law_812 : decode code 812 = .ok (.ifCond .eq 7, 3) := by decide +kernel
theorem d_Law_law_815 : decode code 815 = .ok (.iconst 1, 1) := by decide +kernel
theorem d_Law_law_816 : decode code 816 = .ok (.goto 4, 3) := by decide +kernel
theorem d_Law_law_819 : decode code 819 = .ok (.iconst 0, 1) := by decide +kernel
theorem d_Law_law_820 : decode code 820 = .ok (.invokevirtual 122, 3) := by decide +kernel
theorem d_Law_law_823 : decode code 823 = .ok (.istore 6, 2) := by decide +kernel
theorem d_Law_law_825 : decode code 825 = .ok (.aload_n 2, 1) := by decide +kernel
theorem d_Law_law_826 : decode code 826 = .ok (.invokevirtual 81, 3) := by decide +kernel
theorem d_Law_law_829 : decode code 829 = .ok (.iload 5, 2) := by decide +kernel
theorem d_Law_law_831 : decode code 831 = .ok (.if_icmp .eq 5, 3) := by decide +kernel
theorem d_Law_law_834 : decode code 834 = .ok (.iconst 0, 1) := by decide +kernel
theorem d_Law_law_835 : decode code 835 = .ok (.ireturn, 1) := by decide +kernel
theorem d_Law_law_836 : decode code 836 = .ok (.iload 5, 2) := by decide +kernel
theorem d_Law_law_838 : decode code 838 = .ok (.ifCond .ne 15, 3) := by decide +kernel
theorem d_Law_law_841 : decode code 841 = .ok (.aload_n 3, 1) := by decide +kernel
theorem d_Law_law_842 : decode code 842 = .ok (.iconst 0, 1) := by decide +kernel
theorem d_Law_law_843 : decode code 843 = .ok (.laload, 1) := by decide +kernel
theorem d_Law_law_844 : decode code 844 = .ok (.iload 6, 2) := by decide +kernel
theorem d_Law_law_846 : decode code 846 = .ok (.i2l, 1) := by decide +kernel
theorem d_Law_law_847 : decode code 847 = .ok (.lcmp, 1) := by decide +kernel
theorem d_Law_law_848 : decode code 848 = .ok (.ifCond .eq 5, 3) := by decide +kernel
theorem d_Law_law_851 : decode code 851 = .ok (.iconst 0, 1) := by decide +kernel
theorem d_Law_law_852 : decode code 852 = .ok (.ireturn, 1) := by decide +kernel
theorem d_Law_law_853 : decode code 853 = .ok (.goto 313, 3) := by decide +kernel
theorem d_Law_law_856 : decode code 856 = .ok (.aload_n 1, 1) := by decide +kernel
theorem d_Law_law_857 : decode code 857 = .ok (.aload_n 0, 1) := by decide +kernel
theorem d_Law_law_858 : decode code 858 = .ok (.iload 4, 2) := by decide +kernel
theorem d_Law_law_860 : decode code 860 = .ok (.iconst 1, 1) := by decide +kernel
theorem d_Law_law_861 : decode code 861 = .ok (.iadd, 1) := by decide +kernel
theorem d_Law_law_862 : decode code 862 = .ok (.iaload, 1) := by decide +kernel
theorem d_Law_law_863 : decode code 863 = .ok (.aload_n 3, 1) := by decide +kernel
theorem d_Law_law_864 : decode code 864 = .ok (.invokestatic 123, 3) := by decide +kernel
theorem d_Law_law_867 : decode code 867 = .ok (.istore 5, 2) := by decide +kernel
theorem d_Law_law_869 : decode code 869 = .ok (.aload_n 2, 1) := by decide +kernel
theorem d_Law_law_870 : decode code 870 = .ok (.aload_n 0, 1) := by decide +kernel
theorem d_Law_law_871 : decode code 871 = .ok (.iload 4, 2) := by decide +kernel
theorem d_Law_law_873 : decode code 873 = .ok (.iconst 1, 1) := by decide +kernel
theorem d_Law_law_874 : decode code 874 = .ok (.iadd, 1) := by decide +kernel
theorem d_Law_law_875 : decode code 875 = .ok (.iaload, 1) := by decide +kernel
theorem d_Law_law_876 : decode code 876 = .ok (.invokevirtual 125, 3) := by decide +kernel
theorem d_Law_law_879 : decode code 879 = .ok (.istore 6, 2) := by decide +kernel
theorem d_Law_law_881 : decode code 881 = .ok (.aload_n 2, 1) := by decide +kernel
theorem d_Law_law_882 : decode code 882 = .ok (.invokevirtual 81, 3) := by decide +kernel
theorem d_Law_law_885 : decode code 885 = .ok (.iload 5, 2) := by decide +kernel
theorem d_Law_law_887 : decode code 887 = .ok (.if_icmp .eq 5, 3) := by decide +kernel
theorem d_Law_law_890 : decode code 890 = .ok (.iconst 0, 1) := by decide +kernel
theorem d_Law_law_891 : decode code 891 = .ok (.ireturn, 1) := by decide +kernel
theorem d_Law_law_892 : decode code 892 = .ok (.iload 5, 2) := by decide +kernel
theorem d_Law_law_894 : decode code 894 = .ok (.ifCond .ne 15, 3) := by decide +kernel
theorem d_Law_law_897 : decode code 897 = .ok (.aload_n 3, 1) := by decide +kernel
theorem d_Law_law_898 : decode code 898 = .ok (.iconst 0, 1) := by decide +kernel
theorem d_Law_law_899 : decode code 899 = .ok (.laload, 1) := by decide +kernel
theorem d_Law_law_900 : decode code 900 = .ok (.iload 6, 2) := by decide +kernel
theorem d_Law_law_902 : decode code 902 = .ok (.i2l, 1) := by decide +kernel
theorem d_Law_law_903 : decode code 903 = .ok (.lcmp, 1) := by decide +kernel
theorem d_Law_law_904 : decode code 904 = .ok (.ifCond .eq 5, 3) := by decide +kernel
theorem d_Law_law_907 : decode code 907 = .ok (.iconst 0, 1) := by decide +kernel
theorem d_Law_law_908 : decode code 908 = .ok (.ireturn, 1) := by decide +kernel
theorem d_Law_law_909 : decode code 909 = .ok (.goto 257, 3) := by decide +kernel
theorem d_Law_law_912 : decode code 912 = .ok (.aload_n 1, 1) := by decide +kernel
theorem d_Law_law_913 : decode code 913 = .ok (.aload_n 0, 1) := by decide +kernel
theorem d_Law_law_914 : decode code 914 = .ok (.iload 4, 2) := by decide +kernel
theorem d_Law_law_916 : decode code 916 = .ok (.iconst 1, 1) := by decide +kernel
theorem d_Law_law_917 : decode code 917 = .ok (.iadd, 1) := by decide +kernel
theorem d_Law_law_918 : decode code 918 = .ok (.iaload, 1) := by decide +kernel
theorem d_Law_law_919 : decode code 919 = .ok (.aload_n 0, 1) := by decide +kernel
theorem d_Law_law_920 : decode code 920 = .ok (.iload 4, 2) := by decide +kernel
theorem d_Law_law_922 : decode code 922 = .ok (.iconst 2, 1) := by decide +kernel
theorem d_Law_law_923 : decode code 923 = .ok (.iadd, 1) := by decide +kernel
theorem d_Law_law_924 : decode code 924 = .ok (.iaload, 1) := by decide +kernel
theorem d_Law_law_925 : decode code 925 = .ok (.aload_n 3, 1) := by decide +kernel
theorem d_Law_law_926 : decode code 926 = .ok (.invokestatic 126, 3) := by decide +kernel
theorem d_Law_law_929 : decode code 929 = .ok (.istore 5, 2) := by decide +kernel
theorem d_Law_law_931 : decode code 931 = .ok (.aload_n 2, 1) := by decide +kernel
theorem d_Law_law_932 : decode code 932 = .ok (.aload_n 0, 1) := by decide +kernel
theorem d_Law_law_933 : decode code 933 = .ok (.iload 4, 2) := by decide +kernel
theorem d_Law_law_935 : decode code 935 = .ok (.iconst 1, 1) := by decide +kernel
theorem d_Law_law_936 : decode code 936 = .ok (.iadd, 1) := by decide +kernel
theorem d_Law_law_937 : decode code 937 = .ok (.iaload, 1) := by decide +kernel
theorem d_Law_law_938 : decode code 938 = .ok (.aload_n 0, 1) := by decide +kernel
theorem d_Law_law_939 : decode code 939 = .ok (.iload 4, 2) := by decide +kernel
theorem d_Law_law_941 : decode code 941 = .ok (.iconst 2, 1) := by decide +kernel
theorem d_Law_law_942 : decode code 942 = .ok (.iadd, 1) := by decide +kernel
theorem d_Law_law_943 : decode code 943 = .ok (.iaload, 1) := by decide +kernel
theorem d_Law_law_944 : decode code 944 = .ok (.invokevirtual 128, 3) := by decide +kernel
theorem d_Law_law_947 : decode code 947 = .ok (.istore 6, 2) := by decide +kernel
theorem d_Law_law_949 : decode code 949 = .ok (.aload_n 2, 1) := by decide +kernel
theorem d_Law_law_950 : decode code 950 = .ok (.invokevirtual 81, 3) := by decide +kernel
theorem d_Law_law_953 : decode code 953 = .ok (.iload 5, 2) := by decide +kernel
theorem d_Law_law_955 : decode code 955 = .ok (.if_icmp .eq 5, 3) := by decide +kernel
theorem d_Law_law_958 : decode code 958 = .ok (.iconst 0, 1) := by decide +kernel
theorem d_Law_law_959 : decode code 959 = .ok (.ireturn, 1) := by decide +kernel
theorem d_Law_law_960 : decode code 960 = .ok (.iload 5, 2) := by decide +kernel
theorem d_Law_law_962 : decode code 962 = .ok (.ifCond .ne 22, 3) := by decide +kernel
theorem d_Law_law_965 : decode code 965 = .ok (.aload_n 3, 1) := by decide +kernel
theorem d_Law_law_966 : decode code 966 = .ok (.iconst 0, 1) := by decide +kernel
theorem d_Law_law_967 : decode code 967 = .ok (.laload, 1) := by decide +kernel
theorem d_Law_law_968 : decode code 968 = .ok (.iload 6, 2) := by decide +kernel
theorem d_Law_law_970 : decode code 970 = .ok (.ifCond .eq 7, 3) := by decide +kernel
theorem d_Law_law_973 : decode code 973 = .ok (.lconst 1, 1) := by decide +kernel
theorem d_Law_law_974 : decode code 974 = .ok (.goto 4, 3) := by decide +kernel
theorem d_Law_law_977 : decode code 977 = .ok (.lconst 0, 1) := by decide +kernel
theorem d_Law_law_978 : decode code 978 = .ok (.lcmp, 1) := by decide +kernel
theorem d_Law_law_979 : decode code 979 = .ok (.ifCond .eq 5, 3) := by decide +kernel
theorem d_Law_law_982 : decode code 982 = .ok (.iconst 0, 1) := by decide +kernel
theorem d_Law_law_983 : decode code 983 = .ok (.ireturn, 1) := by decide +kernel
theorem d_Law_law_984 : decode code 984 = .ok (.goto 182, 3) := by decide +kernel
theorem d_Law_law_987 : decode code 987 = .ok (.aload_n 1, 1) := by decide +kernel
theorem d_Law_law_988 : decode code 988 = .ok (.aload_n 0, 1) := by decide +kernel
theorem d_Law_law_989 : decode code 989 = .ok (.iload 4, 2) := by decide +kernel
theorem d_Law_law_991 : decode code 991 = .ok (.iconst 1, 1) := by decide +kernel
theorem d_Law_law_992 : decode code 992 = .ok (.iadd, 1) := by decide +kernel
theorem d_Law_law_993 : decode code 993 = .ok (.iaload, 1) := by decide +kernel
theorem d_Law_law_994 : decode code 994 = .ok (.aload_n 3, 1) := by decide +kernel
theorem d_Law_law_995 : decode code 995 = .ok (.invokestatic 129, 3) := by decide +kernel
theorem d_Law_law_998 : decode code 998 = .ok (.istore 5, 2) := by decide +kernel
theorem d_Law_law_1000 : decode code 1000 = .ok (.aload_n 2, 1) := by decide +kernel
theorem d_Law_law_1001 : decode code 1001 = .ok (.aload_n 0, 1) := by decide +kernel
theorem d_Law_law_1002 : decode code 1002 = .ok (.iload 4, 2) := by decide +kernel
theorem d_Law_law_1004 : decode code 1004 = .ok (.iconst 1, 1) := by decide +kernel
theorem d_Law_law_1005 : decode code 1005 = .ok (.iadd, 1) := by decide +kernel
theorem d_Law_law_1006 : decode code 1006 = .ok (.iaload, 1) := by decide +kernel
theorem d_Law_law_1007 : decode code 1007 = .ok (.invokevirtual 131, 3) := by decide +kernel
theorem d_Law_law_1010 : decode code 1010 = .ok (.istore 6, 2) := by decide +kernel
theorem d_Law_law_1012 : decode code 1012 = .ok (.aload_n 2, 1) := by decide +kernel
theorem d_Law_law_1013 : decode code 1013 = .ok (.invokevirtual 81, 3) := by decide +kernel
theorem d_Law_law_1016 : decode code 1016 = .ok (.iload 5, 2) := by decide +kernel
theorem d_Law_law_1018 : decode code 1018 = .ok (.if_icmp .eq 5, 3) := by decide +kernel
theorem d_Law_law_1021 : decode code 1021 = .ok (.iconst 0, 1) := by decide +kernel
theorem d_Law_law_1022 : decode code 1022 = .ok (.ireturn, 1) := by decide +kernel
theorem d_Law_law_1023 : decode code 1023 = .ok (.iload 5, 2) := by decide +kernel
theorem d_Law_law_1025 : decode code 1025 = .ok (.ifCond .ne 15, 3) := by decide +kernel
theorem d_Law_law_1028 : decode code 1028 = .ok (.aload_n 3, 1) := by decide +kernel
theorem d_Law_law_1029 : decode code 1029 = .ok (.iconst 0, 1) := by decide +kernel
theorem d_Law_law_1030 : decode code 1030 = .ok (.laload, 1) := by decide +kernel
theorem d_Law_law_1031 : decode code 1031 = .ok (.iload 6, 2) := by decide +kernel
theorem d_Law_law_1033 : decode code 1033 = .ok (.i2l, 1) := by decide +kernel
theorem d_Law_law_1034 : decode code 1034 = .ok (.lcmp, 1) := by decide +kernel
theorem d_Law_law_1035 : decode code 1035 = .ok (.ifCond .eq 5, 3) := by decide +kernel
theorem d_Law_law_1038 : decode code 1038 = .ok (.iconst 0, 1) := by decide +kernel
theorem d_Law_law_1039 : decode code 1039 = .ok (.ireturn, 1) := by decide +kernel
theorem d_Law_law_1040 : decode code 1040 = .ok (.goto 126, 3) := by decide +kernel
theorem d_Law_law_1043 : decode code 1043 = .ok (.aload_n 1, 1) := by decide +kernel
theorem d_Law_law_1044 : decode code 1044 = .ok (.aload_n 0, 1) := by decide +kernel
theorem d_Law_law_1045 : decode code 1045 = .ok (.iload 4, 2) := by decide +kernel
theorem d_Law_law_1047 : decode code 1047 = .ok (.iconst 1, 1) := by decide +kernel
theorem d_Law_law_1048 : decode code 1048 = .ok (.iadd, 1) := by decide +kernel
theorem d_Law_law_1049 : decode code 1049 = .ok (.iaload, 1) := by decide +kernel
theorem d_Law_law_1050 : decode code 1050 = .ok (.aload_n 0, 1) := by decide +kernel
theorem d_Law_law_1051 : decode code 1051 = .ok (.iload 4, 2) := by decide +kernel
theorem d_Law_law_1053 : decode code 1053 = .ok (.iconst 2, 1) := by decide +kernel
theorem d_Law_law_1054 : decode code 1054 = .ok (.iadd, 1) := by decide +kernel
theorem d_Law_law_1055 : decode code 1055 = .ok (.iaload, 1) := by decide +kernel
theorem d_Law_law_1056 : decode code 1056 = .ok (.invokestatic 132, 3) := by decide +kernel
theorem d_Law_law_1059 : decode code 1059 = .ok (.istore 5, 2) := by decide +kernel
theorem d_Law_law_1061 : decode code 1061 = .ok (.aload_n 2, 1) := by decide +kernel
theorem d_Law_law_1062 : decode code 1062 = .ok (.aload_n 0, 1) := by decide +kernel
theorem d_Law_law_1063 : decode code 1063 = .ok (.iload 4, 2) := by decide +kernel
theorem d_Law_law_1065 : decode code 1065 = .ok (.iconst 1, 1) := by decide +kernel
theorem d_Law_law_1066 : decode code 1066 = .ok (.iadd, 1) := by decide +kernel
theorem d_Law_law_1067 : decode code 1067 = .ok (.iaload, 1) := by decide +kernel
theorem d_Law_law_1068 : decode code 1068 = .ok (.aload_n 0, 1) := by decide +kernel
theorem d_Law_law_1069 : decode code 1069 = .ok (.iload 4, 2) := by decide +kernel
theorem d_Law_law_1071 : decode code 1071 = .ok (.iconst 2, 1) := by decide +kernel
theorem d_Law_law_1072 : decode code 1072 = .ok (.iadd, 1) := by decide +kernel
theorem d_Law_law_1073 : decode code 1073 = .ok (.iaload, 1) := by decide +kernel
theorem d_Law_law_1074 : decode code 1074 = .ok (.invokevirtual 135, 3) := by decide +kernel
theorem d_Law_law_1077 : decode code 1077 = .ok (.aload_n 2, 1) := by decide +kernel
theorem d_Law_law_1078 : decode code 1078 = .ok (.invokevirtual 81, 3) := by decide +kernel
theorem d_Law_law_1081 : decode code 1081 = .ok (.iload 5, 2) := by decide +kernel
theorem d_Law_law_1083 : decode code 1083 = .ok (.if_icmp .eq 5, 3) := by decide +kernel
theorem d_Law_law_1086 : decode code 1086 = .ok (.iconst 0, 1) := by decide +kernel
theorem d_Law_law_1087 : decode code 1087 = .ok (.ireturn, 1) := by decide +kernel
theorem d_Law_law_1088 : decode code 1088 = .ok (.goto 78, 3) := by decide +kernel
theorem d_Law_law_1091 : decode code 1091 = .ok (.aload_n 1, 1) := by decide +kernel
theorem d_Law_law_1092 : decode code 1092 = .ok (.aload_n 0, 1) := by decide +kernel
theorem d_Law_law_1093 : decode code 1093 = .ok (.iload 4, 2) := by decide +kernel
theorem d_Law_law_1095 : decode code 1095 = .ok (.iconst 1, 1) := by decide +kernel
theorem d_Law_law_1096 : decode code 1096 = .ok (.iadd, 1) := by decide +kernel
theorem d_Law_law_1097 : decode code 1097 = .ok (.iaload, 1) := by decide +kernel
theorem d_Law_law_1098 : decode code 1098 = .ok (.aload_n 0, 1) := by decide +kernel
theorem d_Law_law_1099 : decode code 1099 = .ok (.iload 4, 2) := by decide +kernel
theorem d_Law_law_1101 : decode code 1101 = .ok (.iconst 2, 1) := by decide +kernel
theorem d_Law_law_1102 : decode code 1102 = .ok (.iadd, 1) := by decide +kernel
theorem d_Law_law_1103 : decode code 1103 = .ok (.iaload, 1) := by decide +kernel
theorem d_Law_law_1104 : decode code 1104 = .ok (.aload_n 3, 1) := by decide +kernel
theorem d_Law_law_1105 : decode code 1105 = .ok (.invokestatic 136, 3) := by decide +kernel
theorem d_Law_law_1108 : decode code 1108 = .ok (.istore 5, 2) := by decide +kernel
theorem d_Law_law_1110 : decode code 1110 = .ok (.aload_n 2, 1) := by decide +kernel
theorem d_Law_law_1111 : decode code 1111 = .ok (.aload_n 0, 1) := by decide +kernel
theorem d_Law_law_1112 : decode code 1112 = .ok (.iload 4, 2) := by decide +kernel
theorem d_Law_law_1114 : decode code 1114 = .ok (.iconst 1, 1) := by decide +kernel
theorem d_Law_law_1115 : decode code 1115 = .ok (.iadd, 1) := by decide +kernel
theorem d_Law_law_1116 : decode code 1116 = .ok (.iaload, 1) := by decide +kernel
theorem d_Law_law_1117 : decode code 1117 = .ok (.aload_n 0, 1) := by decide +kernel
theorem d_Law_law_1118 : decode code 1118 = .ok (.iload 4, 2) := by decide +kernel
theorem d_Law_law_1120 : decode code 1120 = .ok (.iconst 2, 1) := by decide +kernel
theorem d_Law_law_1121 : decode code 1121 = .ok (.iadd, 1) := by decide +kernel
theorem d_Law_law_1122 : decode code 1122 = .ok (.iaload, 1) := by decide +kernel
theorem d_Law_law_1123 : decode code 1123 = .ok (.invokevirtual 138, 3) := by decide +kernel
theorem d_Law_law_1126 : decode code 1126 = .ok (.istore 6, 2) := by decide +kernel
theorem d_Law_law_1128 : decode code 1128 = .ok (.aload_n 2, 1) := by decide +kernel
theorem d_Law_law_1129 : decode code 1129 = .ok (.invokevirtual 81, 3) := by decide +kernel
theorem d_Law_law_1132 : decode code 1132 = .ok (.iload 5, 2) := by decide +kernel
theorem d_Law_law_1134 : decode code 1134 = .ok (.if_icmp .eq 5, 3) := by decide +kernel
theorem d_Law_law_1137 : decode code 1137 = .ok (.iconst 0, 1) := by decide +kernel
theorem d_Law_law_1138 : decode code 1138 = .ok (.ireturn, 1) := by decide +kernel
theorem d_Law_law_1139 : decode code 1139 = .ok (.iload 5, 2) := by decide +kernel
theorem d_Law_law_1141 : decode code 1141 = .ok (.ifCond .ne 22, 3) := by decide +kernel
theorem d_Law_law_1144 : decode code 1144 = .ok (.aload_n 3, 1) := by decide +kernel
theorem d_Law_law_1145 : decode code 1145 = .ok (.iconst 0, 1) := by decide +kernel
theorem d_Law_law_1146 : decode code 1146 = .ok (.laload, 1) := by decide +kernel
theorem d_Law_law_1147 : decode code 1147 = .ok (.iload 6, 2) := by decide +kernel
theorem d_Law_law_1149 : decode code 1149 = .ok (.ifCond .eq 7, 3) := by decide +kernel
theorem d_Law_law_1152 : decode code 1152 = .ok (.lconst 1, 1) := by decide +kernel
theorem d_Law_law_1153 : decode code 1153 = .ok (.goto 4, 3) := by decide +kernel
theorem d_Law_law_1156 : decode code 1156 = .ok (.lconst 0, 1) := by decide +kernel
theorem d_Law_law_1157 : decode code 1157 = .ok (.lcmp, 1) := by decide +kernel
theorem d_Law_law_1158 : decode code 1158 = .ok (.ifCond .eq 5, 3) := by decide +kernel
theorem d_Law_law_1161 : decode code 1161 = .ok (.iconst 0, 1) := by decide +kernel
theorem d_Law_law_1162 : decode code 1162 = .ok (.ireturn, 1) := by decide +kernel
theorem d_Law_law_1163 : decode code 1163 = .ok (.goto 3, 3) := by decide +kernel
theorem d_Law_law_1166 : decode code 1166 = .ok (.iinc 4 4, 3) := by decide +kernel
theorem d_Law_law_1169 : decode code 1169 = .ok (.goto (-1146), 3) := by decide +kernel
theorem d_Law_law_1172 : decode code 1172 = .ok (.iconst 1, 1) := by decide +kernel
theorem d_Law_law_1173 : decode code 1173 = .ok (.ireturn, 1) := by decide +kernel
