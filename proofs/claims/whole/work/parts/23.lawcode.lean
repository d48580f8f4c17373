theorem dl_0 : decode code 0 = .ok (.new 8, 3) := by decide +kernel
theorem dl_3 : decode code 3 = .ok (.dup, 1) := by decide +kernel
theorem dl_4 : decode code 4 = .ok (.invokespecial 67, 3) := by decide +kernel
theorem dl_7 : decode code 7 = .ok (.astore_n 1, 1) := by decide +kernel
theorem dl_8 : decode code 8 = .ok (.new 68, 3) := by decide +kernel
theorem dl_11 : decode code 11 = .ok (.dup, 1) := by decide +kernel
theorem dl_12 : decode code 12 = .ok (.invokespecial 70, 3) := by decide +kernel
theorem dl_15 : decode code 15 = .ok (.astore_n 2, 1) := by decide +kernel
theorem dl_16 : decode code 16 = .ok (.iconst 1, 1) := by decide +kernel
theorem dl_17 : decode code 17 = .ok (.newarray .long, 2) := by decide +kernel
theorem dl_19 : decode code 19 = .ok (.astore_n 3, 1) := by decide +kernel
theorem dl_20 : decode code 20 = .ok (.iconst 0, 1) := by decide +kernel
theorem dl_21 : decode code 21 = .ok (.istore 4, 2) := by decide +kernel
theorem dl_23 : decode code 23 = .ok (.iload 4, 2) := by decide +kernel
theorem dl_25 : decode code 25 = .ok (.aload_n 0, 1) := by decide +kernel
theorem dl_26 : decode code 26 = .ok (.arraylength, 1) := by decide +kernel
theorem dl_27 : decode code 27 = .ok (.bipush 6, 2) := by decide +kernel
theorem dl_29 : decode code 29 = .ok (.isub, 1) := by decide +kernel
theorem dl_30 : decode code 30 = .ok (.if_icmp .gt 1039, 3) := by decide +kernel
theorem dl_33 : decode code 33 = .ok (.aload_n 0, 1) := by decide +kernel
theorem dl_34 : decode code 34 = .ok (.iload 4, 2) := by decide +kernel
theorem dl_36 : decode code 36 = .ok (.iaload, 1) := by decide +kernel
theorem dl_37 : decode code 37 = .ok (.bipush 15, 2) := by decide +kernel
theorem dl_39 : decode code 39 = .ok (.iand, 1) := by decide +kernel
theorem dl_40 : decode code 40 = .ok (.tableswitch 1023 0 14 #[76, 136, 227, 319, 394, 462, 566, 602, 638, 694, 750, 806, 874, 942, 967], 76) := by decide +kernel
theorem dl_116 : decode code 116 = .ok (.aload_n 1, 1) := by decide +kernel
theorem dl_117 : decode code 117 = .ok (.aload_n 0, 1) := by decide +kernel
theorem dl_118 : decode code 118 = .ok (.iload 4, 2) := by decide +kernel
theorem dl_120 : decode code 120 = .ok (.iconst 1, 1) := by decide +kernel
theorem dl_121 : decode code 121 = .ok (.iadd, 1) := by decide +kernel
theorem dl_122 : decode code 122 = .ok (.iaload, 1) := by decide +kernel
theorem dl_123 : decode code 123 = .ok (.aload_n 0, 1) := by decide +kernel
theorem dl_124 : decode code 124 = .ok (.iload 4, 2) := by decide +kernel
theorem dl_126 : decode code 126 = .ok (.iconst 2, 1) := by decide +kernel
theorem dl_127 : decode code 127 = .ok (.iadd, 1) := by decide +kernel
theorem dl_128 : decode code 128 = .ok (.iaload, 1) := by decide +kernel
theorem dl_129 : decode code 129 = .ok (.aload_n 0, 1) := by decide +kernel
theorem dl_130 : decode code 130 = .ok (.iload 4, 2) := by decide +kernel
theorem dl_132 : decode code 132 = .ok (.iconst 3, 1) := by decide +kernel
theorem dl_133 : decode code 133 = .ok (.iadd, 1) := by decide +kernel
theorem dl_134 : decode code 134 = .ok (.iaload, 1) := by decide +kernel
theorem dl_135 : decode code 135 = .ok (.invokestatic 71, 3) := by decide +kernel
theorem dl_138 : decode code 138 = .ok (.istore 5, 2) := by decide +kernel
theorem dl_140 : decode code 140 = .ok (.aload_n 2, 1) := by decide +kernel
theorem dl_141 : decode code 141 = .ok (.aload_n 0, 1) := by decide +kernel
theorem dl_142 : decode code 142 = .ok (.iload 4, 2) := by decide +kernel
theorem dl_144 : decode code 144 = .ok (.iconst 1, 1) := by decide +kernel
theorem dl_145 : decode code 145 = .ok (.iadd, 1) := by decide +kernel
theorem dl_146 : decode code 146 = .ok (.iaload, 1) := by decide +kernel
theorem dl_147 : decode code 147 = .ok (.aload_n 0, 1) := by decide +kernel
theorem dl_148 : decode code 148 = .ok (.iload 4, 2) := by decide +kernel
theorem dl_150 : decode code 150 = .ok (.iconst 2, 1) := by decide +kernel
theorem dl_151 : decode code 151 = .ok (.iadd, 1) := by decide +kernel
theorem dl_152 : decode code 152 = .ok (.iaload, 1) := by decide +kernel
theorem dl_153 : decode code 153 = .ok (.aload_n 0, 1) := by decide +kernel
theorem dl_154 : decode code 154 = .ok (.iload 4, 2) := by decide +kernel
theorem dl_156 : decode code 156 = .ok (.iconst 3, 1) := by decide +kernel
theorem dl_157 : decode code 157 = .ok (.iadd, 1) := by decide +kernel
theorem dl_158 : decode code 158 = .ok (.iaload, 1) := by decide +kernel
theorem dl_159 : decode code 159 = .ok (.invokevirtual 76, 3) := by decide +kernel
theorem dl_162 : decode code 162 = .ok (.aload_n 2, 1) := by decide +kernel
theorem dl_163 : decode code 163 = .ok (.invokevirtual 77, 3) := by decide +kernel
theorem dl_166 : decode code 166 = .ok (.iload 5, 2) := by decide +kernel
theorem dl_168 : decode code 168 = .ok (.if_icmp .eq 5, 3) := by decide +kernel
theorem dl_171 : decode code 171 = .ok (.iconst 0, 1) := by decide +kernel
theorem dl_172 : decode code 172 = .ok (.ireturn, 1) := by decide +kernel
theorem dl_173 : decode code 173 = .ok (.goto 890, 3) := by decide +kernel
theorem dl_176 : decode code 176 = .ok (.aload_n 1, 1) := by decide +kernel
theorem dl_177 : decode code 177 = .ok (.aload_n 0, 1) := by decide +kernel
theorem dl_178 : decode code 178 = .ok (.iload 4, 2) := by decide +kernel
theorem dl_180 : decode code 180 = .ok (.iconst 1, 1) := by decide +kernel
theorem dl_181 : decode code 181 = .ok (.iadd, 1) := by decide +kernel
theorem dl_182 : decode code 182 = .ok (.iaload, 1) := by decide +kernel
theorem dl_183 : decode code 183 = .ok (.aload_n 0, 1) := by decide +kernel
theorem dl_184 : decode code 184 = .ok (.iload 4, 2) := by decide +kernel
theorem dl_186 : decode code 186 = .ok (.iconst 2, 1) := by decide +kernel
theorem dl_187 : decode code 187 = .ok (.iadd, 1) := by decide +kernel
theorem dl_188 : decode code 188 = .ok (.iaload, 1) := by decide +kernel
theorem dl_189 : decode code 189 = .ok (.ifCond .eq 7, 3) := by decide +kernel
theorem dl_192 : decode code 192 = .ok (.iconst 1, 1) := by decide +kernel
theorem dl_193 : decode code 193 = .ok (.goto 4, 3) := by decide +kernel
theorem dl_196 : decode code 196 = .ok (.iconst 0, 1) := by decide +kernel
theorem dl_197 : decode code 197 = .ok (.aload_n 3, 1) := by decide +kernel
theorem dl_198 : decode code 198 = .ok (.invokestatic 81, 3) := by decide +kernel
theorem dl_201 : decode code 201 = .ok (.istore 5, 2) := by decide +kernel
theorem dl_203 : decode code 203 = .ok (.aload_n 2, 1) := by decide +kernel
theorem dl_204 : decode code 204 = .ok (.aload_n 0, 1) := by decide +kernel
theorem dl_205 : decode code 205 = .ok (.iload 4, 2) := by decide +kernel
theorem dl_207 : decode code 207 = .ok (.iconst 1, 1) := by decide +kernel
theorem dl_208 : decode code 208 = .ok (.iadd, 1) := by decide +kernel
theorem dl_209 : decode code 209 = .ok (.iaload, 1) := by decide +kernel
theorem dl_210 : decode code 210 = .ok (.aload_n 0, 1) := by decide +kernel
theorem dl_211 : decode code 211 = .ok (.iload 4, 2) := by decide +kernel
theorem dl_213 : decode code 213 = .ok (.iconst 2, 1) := by decide +kernel
theorem dl_214 : decode code 214 = .ok (.iadd, 1) := by decide +kernel
theorem dl_215 : decode code 215 = .ok (.iaload, 1) := by decide +kernel
theorem dl_216 : decode code 216 = .ok (.ifCond .eq 7, 3) := by decide +kernel
theorem dl_219 : decode code 219 = .ok (.iconst 1, 1) := by decide +kernel
theorem dl_220 : decode code 220 = .ok (.goto 4, 3) := by decide +kernel
theorem dl_223 : decode code 223 = .ok (.iconst 0, 1) := by decide +kernel
theorem dl_224 : decode code 224 = .ok (.invokevirtual 84, 3) := by decide +kernel
theorem dl_227 : decode code 227 = .ok (.istore 6, 2) := by decide +kernel
theorem dl_229 : decode code 229 = .ok (.aload_n 2, 1) := by decide +kernel
theorem dl_230 : decode code 230 = .ok (.invokevirtual 77, 3) := by decide +kernel
theorem dl_233 : decode code 233 = .ok (.iload 5, 2) := by decide +kernel
theorem dl_235 : decode code 235 = .ok (.if_icmp .eq 5, 3) := by decide +kernel
theorem dl_238 : decode code 238 = .ok (.iconst 0, 1) := by decide +kernel
theorem dl_239 : decode code 239 = .ok (.ireturn, 1) := by decide +kernel
theorem dl_240 : decode code 240 = .ok (.iload 5, 2) := by decide +kernel
theorem dl_242 : decode code 242 = .ok (.ifCond .ne 22, 3) := by decide +kernel
theorem dl_245 : decode code 245 = .ok (.aload_n 3, 1) := by decide +kernel
theorem dl_246 : decode code 246 = .ok (.iconst 0, 1) := by decide +kernel
theorem dl_247 : decode code 247 = .ok (.laload, 1) := by decide +kernel
theorem dl_248 : decode code 248 = .ok (.iload 6, 2) := by decide +kernel
theorem dl_250 : decode code 250 = .ok (.ifCond .eq 7, 3) := by decide +kernel
theorem dl_253 : decode code 253 = .ok (.lconst 1, 1) := by decide +kernel
theorem dl_254 : decode code 254 = .ok (.goto 4, 3) := by decide +kernel
theorem dl_257 : decode code 257 = .ok (.lconst 0, 1) := by decide +kernel
theorem dl_258 : decode code 258 = .ok (.lcmp, 1) := by decide +kernel
theorem dl_259 : decode code 259 = .ok (.ifCond .eq 5, 3) := by decide +kernel
theorem dl_262 : decode code 262 = .ok (.iconst 0, 1) := by decide +kernel
theorem dl_263 : decode code 263 = .ok (.ireturn, 1) := by decide +kernel
theorem dl_264 : decode code 264 = .ok (.goto 799, 3) := by decide +kernel
theorem dl_267 : decode code 267 = .ok (.aload_n 1, 1) := by decide +kernel
theorem dl_268 : decode code 268 = .ok (.aload_n 0, 1) := by decide +kernel
theorem dl_269 : decode code 269 = .ok (.iload 4, 2) := by decide +kernel
theorem dl_271 : decode code 271 = .ok (.iconst 1, 1) := by decide +kernel
theorem dl_272 : decode code 272 = .ok (.iadd, 1) := by decide +kernel
theorem dl_273 : decode code 273 = .ok (.iaload, 1) := by decide +kernel
theorem dl_274 : decode code 274 = .ok (.aload_n 0, 1) := by decide +kernel
theorem dl_275 : decode code 275 = .ok (.iload 4, 2) := by decide +kernel
theorem dl_277 : decode code 277 = .ok (.iconst 2, 1) := by decide +kernel
theorem dl_278 : decode code 278 = .ok (.iadd, 1) := by decide +kernel
theorem dl_279 : decode code 279 = .ok (.iaload, 1) := by decide +kernel
theorem dl_280 : decode code 280 = .ok (.aload_n 0, 1) := by decide +kernel
theorem dl_281 : decode code 281 = .ok (.iload 4, 2) := by decide +kernel
theorem dl_283 : decode code 283 = .ok (.iconst 3, 1) := by decide +kernel
theorem dl_284 : decode code 284 = .ok (.iadd, 1) := by decide +kernel
theorem dl_285 : decode code 285 = .ok (.iaload, 1) := by decide +kernel
theorem dl_286 : decode code 286 = .ok (.aload_n 0, 1) := by decide +kernel
theorem dl_287 : decode code 287 = .ok (.iload 4, 2) := by decide +kernel
theorem dl_289 : decode code 289 = .ok (.iconst 4, 1) := by decide +kernel
theorem dl_290 : decode code 290 = .ok (.iadd, 1) := by decide +kernel
theorem dl_291 : decode code 291 = .ok (.iaload, 1) := by decide +kernel
theorem dl_292 : decode code 292 = .ok (.aload_n 3, 1) := by decide +kernel
theorem dl_293 : decode code 293 = .ok (.invokestatic 85, 3) := by decide +kernel
theorem dl_296 : decode code 296 = .ok (.istore 5, 2) := by decide +kernel
theorem dl_298 : decode code 298 = .ok (.aload_n 2, 1) := by decide +kernel
theorem dl_299 : decode code 299 = .ok (.aload_n 0, 1) := by decide +kernel
theorem dl_300 : decode code 300 = .ok (.iload 4, 2) := by decide +kernel
theorem dl_302 : decode code 302 = .ok (.iconst 1, 1) := by decide +kernel
theorem dl_303 : decode code 303 = .ok (.iadd, 1) := by decide +kernel
theorem dl_304 : decode code 304 = .ok (.iaload, 1) := by decide +kernel
theorem dl_305 : decode code 305 = .ok (.aload_n 0, 1) := by decide +kernel
theorem dl_306 : decode code 306 = .ok (.iload 4, 2) := by decide +kernel
theorem dl_308 : decode code 308 = .ok (.iconst 2, 1) := by decide +kernel
theorem dl_309 : decode code 309 = .ok (.iadd, 1) := by decide +kernel
theorem dl_310 : decode code 310 = .ok (.iaload, 1) := by decide +kernel
theorem dl_311 : decode code 311 = .ok (.aload_n 0, 1) := by decide +kernel
theorem dl_312 : decode code 312 = .ok (.iload 4, 2) := by decide +kernel
theorem dl_314 : decode code 314 = .ok (.iconst 3, 1) := by decide +kernel
theorem dl_315 : decode code 315 = .ok (.iadd, 1) := by decide +kernel
theorem dl_316 : decode code 316 = .ok (.iaload, 1) := by decide +kernel
theorem dl_317 : decode code 317 = .ok (.aload_n 0, 1) := by decide +kernel
theorem dl_318 : decode code 318 = .ok (.iload 4, 2) := by decide +kernel
theorem dl_320 : decode code 320 = .ok (.iconst 4, 1) := by decide +kernel
theorem dl_321 : decode code 321 = .ok (.iadd, 1) := by decide +kernel
theorem dl_322 : decode code 322 = .ok (.iaload, 1) := by decide +kernel
theorem dl_323 : decode code 323 = .ok (.invokevirtual 88, 3) := by decide +kernel
theorem dl_326 : decode code 326 = .ok (.istore 6, 2) := by decide +kernel
theorem dl_328 : decode code 328 = .ok (.aload_n 2, 1) := by decide +kernel
theorem dl_329 : decode code 329 = .ok (.invokevirtual 77, 3) := by decide +kernel
theorem dl_332 : decode code 332 = .ok (.iload 5, 2) := by decide +kernel
theorem dl_334 : decode code 334 = .ok (.if_icmp .eq 5, 3) := by decide +kernel
theorem dl_337 : decode code 337 = .ok (.iconst 0, 1) := by decide +kernel
theorem dl_338 : decode code 338 = .ok (.ireturn, 1) := by decide +kernel
theorem dl_339 : decode code 339 = .ok (.iload 5, 2) := by decide +kernel
theorem dl_341 : decode code 341 = .ok (.ifCond .ne 15, 3) := by decide +kernel
theorem dl_344 : decode code 344 = .ok (.aload_n 3, 1) := by decide +kernel
theorem dl_345 : decode code 345 = .ok (.iconst 0, 1) := by decide +kernel
theorem dl_346 : decode code 346 = .ok (.laload, 1) := by decide +kernel
theorem dl_347 : decode code 347 = .ok (.iload 6, 2) := by decide +kernel
theorem dl_349 : decode code 349 = .ok (.i2l, 1) := by decide +kernel
theorem dl_350 : decode code 350 = .ok (.lcmp, 1) := by decide +kernel
theorem dl_351 : decode code 351 = .ok (.ifCond .eq 5, 3) := by decide +kernel
theorem dl_354 : decode code 354 = .ok (.iconst 0, 1) := by decide +kernel
theorem dl_355 : decode code 355 = .ok (.ireturn, 1) := by decide +kernel
theorem dl_356 : decode code 356 = .ok (.goto 707, 3) := by decide +kernel
theorem dl_359 : decode code 359 = .ok (.aload_n 1, 1) := by decide +kernel
theorem dl_360 : decode code 360 = .ok (.aload_n 0, 1) := by decide +kernel
theorem dl_361 : decode code 361 = .ok (.iload 4, 2) := by decide +kernel
theorem dl_363 : decode code 363 = .ok (.iconst 1, 1) := by decide +kernel
theorem dl_364 : decode code 364 = .ok (.iadd, 1) := by decide +kernel
theorem dl_365 : decode code 365 = .ok (.iaload, 1) := by decide +kernel
theorem dl_366 : decode code 366 = .ok (.aload_n 0, 1) := by decide +kernel
theorem dl_367 : decode code 367 = .ok (.iload 4, 2) := by decide +kernel
theorem dl_369 : decode code 369 = .ok (.iconst 2, 1) := by decide +kernel
theorem dl_370 : decode code 370 = .ok (.iadd, 1) := by decide +kernel
theorem dl_371 : decode code 371 = .ok (.iaload, 1) := by decide +kernel
theorem dl_372 : decode code 372 = .ok (.aload_n 3, 1) := by decide +kernel
theorem dl_373 : decode code 373 = .ok (.invokestatic 89, 3) := by decide +kernel
theorem dl_376 : decode code 376 = .ok (.istore 5, 2) := by decide +kernel
theorem dl_378 : decode code 378 = .ok (.aload_n 2, 1) := by decide +kernel
theorem dl_379 : decode code 379 = .ok (.aload_n 0, 1) := by decide +kernel
theorem dl_380 : decode code 380 = .ok (.iload 4, 2) := by decide +kernel
theorem dl_382 : decode code 382 = .ok (.iconst 1, 1) := by decide +kernel
theorem dl_383 : decode code 383 = .ok (.iadd, 1) := by decide +kernel
theorem dl_384 : decode code 384 = .ok (.iaload, 1) := by decide +kernel
theorem dl_385 : decode code 385 = .ok (.aload_n 0, 1) := by decide +kernel
theorem dl_386 : decode code 386 = .ok (.iload 4, 2) := by decide +kernel
theorem dl_388 : decode code 388 = .ok (.iconst 2, 1) := by decide +kernel
theorem dl_389 : decode code 389 = .ok (.iadd, 1) := by decide +kernel
theorem dl_390 : decode code 390 = .ok (.iaload, 1) := by decide +kernel
theorem dl_391 : decode code 391 = .ok (.invokevirtual 92, 3) := by decide +kernel
theorem dl_394 : decode code 394 = .ok (.istore 6, 2) := by decide +kernel
theorem dl_396 : decode code 396 = .ok (.aload_n 2, 1) := by decide +kernel
theorem dl_397 : decode code 397 = .ok (.invokevirtual 77, 3) := by decide +kernel
theorem dl_400 : decode code 400 = .ok (.iload 5, 2) := by decide +kernel
theorem dl_402 : decode code 402 = .ok (.if_icmp .eq 5, 3) := by decide +kernel
theorem dl_405 : decode code 405 = .ok (.iconst 0, 1) := by decide +kernel
theorem dl_406 : decode code 406 = .ok (.ireturn, 1) := by decide +kernel
theorem dl_407 : decode code 407 = .ok (.iload 5, 2) := by decide +kernel
theorem dl_409 : decode code 409 = .ok (.ifCond .ne 22, 3) := by decide +kernel
theorem dl_412 : decode code 412 = .ok (.aload_n 3, 1) := by decide +kernel
theorem dl_413 : decode code 413 = .ok (.iconst 0, 1) := by decide +kernel
theorem dl_414 : decode code 414 = .ok (.laload, 1) := by decide +kernel
theorem dl_415 : decode code 415 = .ok (.iload 6, 2) := by decide +kernel
theorem dl_417 : decode code 417 = .ok (.ifCond .eq 7, 3) := by decide +kernel
theorem dl_420 : decode code 420 = .ok (.lconst 1, 1) := by decide +kernel
theorem dl_421 : decode code 421 = .ok (.goto 4, 3) := by decide +kernel
theorem dl_424 : decode code 424 = .ok (.lconst 0, 1) := by decide +kernel
theorem dl_425 : decode code 425 = .ok (.lcmp, 1) := by decide +kernel
theorem dl_426 : decode code 426 = .ok (.ifCond .eq 5, 3) := by decide +kernel
theorem dl_429 : decode code 429 = .ok (.iconst 0, 1) := by decide +kernel
theorem dl_430 : decode code 430 = .ok (.ireturn, 1) := by decide +kernel
theorem dl_431 : decode code 431 = .ok (.goto 632, 3) := by decide +kernel
theorem dl_434 : decode code 434 = .ok (.aload_n 1, 1) := by decide +kernel
theorem dl_435 : decode code 435 = .ok (.aload_n 0, 1) := by decide +kernel
theorem dl_436 : decode code 436 = .ok (.iload 4, 2) := by decide +kernel
theorem dl_438 : decode code 438 = .ok (.iconst 1, 1) := by decide +kernel
theorem dl_439 : decode code 439 = .ok (.iadd, 1) := by decide +kernel
theorem dl_440 : decode code 440 = .ok (.iaload, 1) := by decide +kernel
theorem dl_441 : decode code 441 = .ok (.aload_n 0, 1) := by decide +kernel
theorem dl_442 : decode code 442 = .ok (.iload 4, 2) := by decide +kernel
theorem dl_444 : decode code 444 = .ok (.iconst 2, 1) := by decide +kernel
theorem dl_445 : decode code 445 = .ok (.iadd, 1) := by decide +kernel
theorem dl_446 : decode code 446 = .ok (.iaload, 1) := by decide +kernel
theorem dl_447 : decode code 447 = .ok (.aload_n 3, 1) := by decide +kernel
theorem dl_448 : decode code 448 = .ok (.invokestatic 93, 3) := by decide +kernel
theorem dl_451 : decode code 451 = .ok (.istore 5, 2) := by decide +kernel
theorem dl_453 : decode code 453 = .ok (.aload_n 2, 1) := by decide +kernel
theorem dl_454 : decode code 454 = .ok (.aload_n 0, 1) := by decide +kernel
theorem dl_455 : decode code 455 = .ok (.iload 4, 2) := by decide +kernel
theorem dl_457 : decode code 457 = .ok (.iconst 1, 1) := by decide +kernel
theorem dl_458 : decode code 458 = .ok (.iadd, 1) := by decide +kernel
theorem dl_459 : decode code 459 = .ok (.iaload, 1) := by decide +kernel
theorem dl_460 : decode code 460 = .ok (.aload_n 0, 1) := by decide +kernel
theorem dl_461 : decode code 461 = .ok (.iload 4, 2) := by decide +kernel
theorem dl_463 : decode code 463 = .ok (.iconst 2, 1) := by decide +kernel
theorem dl_464 : decode code 464 = .ok (.iadd, 1) := by decide +kernel
theorem dl_465 : decode code 465 = .ok (.iaload, 1) := by decide +kernel
theorem dl_466 : decode code 466 = .ok (.invokevirtual 95, 3) := by decide +kernel
theorem dl_469 : decode code 469 = .ok (.istore 6, 2) := by decide +kernel
theorem dl_471 : decode code 471 = .ok (.aload_n 2, 1) := by decide +kernel
theorem dl_472 : decode code 472 = .ok (.invokevirtual 77, 3) := by decide +kernel
theorem dl_475 : decode code 475 = .ok (.iload 5, 2) := by decide +kernel
theorem dl_477 : decode code 477 = .ok (.if_icmp .eq 5, 3) := by decide +kernel
theorem dl_480 : decode code 480 = .ok (.iconst 0, 1) := by decide +kernel
theorem dl_481 : decode code 481 = .ok (.ireturn, 1) := by decide +kernel
theorem dl_482 : decode code 482 = .ok (.iload 5, 2) := by decide +kernel
theorem dl_484 : decode code 484 = .ok (.ifCond .ne 15, 3) := by decide +kernel
theorem dl_487 : decode code 487 = .ok (.aload_n 3, 1) := by decide +kernel
theorem dl_488 : decode code 488 = .ok (.iconst 0, 1) := by decide +kernel
theorem dl_489 : decode code 489 = .ok (.laload, 1) := by decide +kernel
theorem dl_490 : decode code 490 = .ok (.iload 6, 2) := by decide +kernel
theorem dl_492 : decode code 492 = .ok (.i2l, 1) := by decide +kernel
theorem dl_493 : decode code 493 = .ok (.lcmp, 1) := by decide +kernel
theorem dl_494 : decode code 494 = .ok (.ifCond .eq 5, 3) := by decide +kernel
theorem dl_497 : decode code 497 = .ok (.iconst 0, 1) := by decide +kernel
theorem dl_498 : decode code 498 = .ok (.ireturn, 1) := by decide +kernel
theorem dl_499 : decode code 499 = .ok (.goto 564, 3) := by decide +kernel
theorem dl_502 : decode code 502 = .ok (.aload_n 1, 1) := by decide +kernel
theorem dl_503 : decode code 503 = .ok (.aload_n 0, 1) := by decide +kernel
theorem dl_504 : decode code 504 = .ok (.iload 4, 2) := by decide +kernel
theorem dl_506 : decode code 506 = .ok (.iconst 1, 1) := by decide +kernel
theorem dl_507 : decode code 507 = .ok (.iadd, 1) := by decide +kernel
theorem dl_508 : decode code 508 = .ok (.iaload, 1) := by decide +kernel
theorem dl_509 : decode code 509 = .ok (.aload_n 0, 1) := by decide +kernel
theorem dl_510 : decode code 510 = .ok (.iload 4, 2) := by decide +kernel
theorem dl_512 : decode code 512 = .ok (.iconst 2, 1) := by decide +kernel
theorem dl_513 : decode code 513 = .ok (.iadd, 1) := by decide +kernel
theorem dl_514 : decode code 514 = .ok (.iaload, 1) := by decide +kernel
theorem dl_515 : decode code 515 = .ok (.aload_n 0, 1) := by decide +kernel
theorem dl_516 : decode code 516 = .ok (.iload 4, 2) := by decide +kernel
theorem dl_518 : decode code 518 = .ok (.iconst 3, 1) := by decide +kernel
theorem dl_519 : decode code 519 = .ok (.iadd, 1) := by decide +kernel
theorem dl_520 : decode code 520 = .ok (.iaload, 1) := by decide +kernel
theorem dl_521 : decode code 521 = .ok (.aload_n 0, 1) := by decide +kernel
theorem dl_522 : decode code 522 = .ok (.iload 4, 2) := by decide +kernel
theorem dl_524 : decode code 524 = .ok (.iconst 4, 1) := by decide +kernel
theorem dl_525 : decode code 525 = .ok (.iadd, 1) := by decide +kernel
theorem dl_526 : decode code 526 = .ok (.iaload, 1) := by decide +kernel
theorem dl_527 : decode code 527 = .ok (.aload_n 0, 1) := by decide +kernel
theorem dl_528 : decode code 528 = .ok (.iload 4, 2) := by decide +kernel
theorem dl_530 : decode code 530 = .ok (.iconst 5, 1) := by decide +kernel
theorem dl_531 : decode code 531 = .ok (.iadd, 1) := by decide +kernel
theorem dl_532 : decode code 532 = .ok (.iaload, 1) := by decide +kernel
theorem dl_533 : decode code 533 = .ok (.aload_n 3, 1) := by decide +kernel
theorem dl_534 : decode code 534 = .ok (.invokestatic 96, 3) := by decide +kernel
theorem dl_537 : decode code 537 = .ok (.istore 5, 2) := by decide +kernel
theorem dl_539 : decode code 539 = .ok (.aload_n 2, 1) := by decide +kernel
theorem dl_540 : decode code 540 = .ok (.aload_n 0, 1) := by decide +kernel
theorem dl_541 : decode code 541 = .ok (.iload 4, 2) := by decide +kernel
theorem dl_543 : decode code 543 = .ok (.iconst 1, 1) := by decide +kernel
theorem dl_544 : decode code 544 = .ok (.iadd, 1) := by decide +kernel
theorem dl_545 : decode code 545 = .ok (.iaload, 1) := by decide +kernel
theorem dl_546 : decode code 546 = .ok (.aload_n 0, 1) := by decide +kernel
theorem dl_547 : decode code 547 = .ok (.iload 4, 2) := by decide +kernel
theorem dl_549 : decode code 549 = .ok (.iconst 2, 1) := by decide +kernel
theorem dl_550 : decode code 550 = .ok (.iadd, 1) := by decide +kernel
theorem dl_551 : decode code 551 = .ok (.iaload, 1) := by decide +kernel
theorem dl_552 : decode code 552 = .ok (.aload_n 0, 1) := by decide +kernel
theorem dl_553 : decode code 553 = .ok (.iload 4, 2) := by decide +kernel
theorem dl_555 : decode code 555 = .ok (.iconst 3, 1) := by decide +kernel
theorem dl_556 : decode code 556 = .ok (.iadd, 1) := by decide +kernel
theorem dl_557 : decode code 557 = .ok (.iaload, 1) := by decide +kernel
theorem dl_558 : decode code 558 = .ok (.aload_n 0, 1) := by decide +kernel
theorem dl_559 : decode code 559 = .ok (.iload 4, 2) := by decide +kernel
theorem dl_561 : decode code 561 = .ok (.iconst 4, 1) := by decide +kernel
theorem dl_562 : decode code 562 = .ok (.iadd, 1) := by decide +kernel
theorem dl_563 : decode code 563 = .ok (.iaload, 1) := by decide +kernel
theorem dl_564 : decode code 564 = .ok (.aload_n 0, 1) := by decide +kernel
theorem dl_565 : decode code 565 = .ok (.iload 4, 2) := by decide +kernel
theorem dl_567 : decode code 567 = .ok (.iconst 5, 1) := by decide +kernel
theorem dl_568 : decode code 568 = .ok (.iadd, 1) := by decide +kernel
theorem dl_569 : decode code 569 = .ok (.iaload, 1) := by decide +kernel
theorem dl_570 : decode code 570 = .ok (.invokevirtual 99, 3) := by decide +kernel
theorem dl_573 : decode code 573 = .ok (.istore 6, 2) := by decide +kernel
theorem dl_575 : decode code 575 = .ok (.aload_n 2, 1) := by decide +kernel
theorem dl_576 : decode code 576 = .ok (.invokevirtual 77, 3) := by decide +kernel
theorem dl_579 : decode code 579 = .ok (.iload 5, 2) := by decide +kernel
theorem dl_581 : decode code 581 = .ok (.if_icmp .eq 5, 3) := by decide +kernel
theorem dl_584 : decode code 584 = .ok (.iconst 0, 1) := by decide +kernel
theorem dl_585 : decode code 585 = .ok (.ireturn, 1) := by decide +kernel
theorem dl_586 : decode code 586 = .ok (.iload 5, 2) := by decide +kernel
theorem dl_588 : decode code 588 = .ok (.ifCond .ne 15, 3) := by decide +kernel
theorem dl_591 : decode code 591 = .ok (.aload_n 3, 1) := by decide +kernel
theorem dl_592 : decode code 592 = .ok (.iconst 0, 1) := by decide +kernel
theorem dl_593 : decode code 593 = .ok (.laload, 1) := by decide +kernel
theorem dl_594 : decode code 594 = .ok (.iload 6, 2) := by decide +kernel
theorem dl_596 : decode code 596 = .ok (.i2l, 1) := by decide +kernel
theorem dl_597 : decode code 597 = .ok (.lcmp, 1) := by decide +kernel
theorem dl_598 : decode code 598 = .ok (.ifCond .eq 5, 3) := by decide +kernel
theorem dl_601 : decode code 601 = .ok (.iconst 0, 1) := by decide +kernel
theorem dl_602 : decode code 602 = .ok (.ireturn, 1) := by decide +kernel
theorem dl_603 : decode code 603 = .ok (.goto 460, 3) := by decide +kernel
theorem dl_606 : decode code 606 = .ok (.aload_n 1, 1) := by decide +kernel
theorem dl_607 : decode code 607 = .ok (.aload_n 0, 1) := by decide +kernel
theorem dl_608 : decode code 608 = .ok (.iload 4, 2) := by decide +kernel
theorem dl_610 : decode code 610 = .ok (.iconst 1, 1) := by decide +kernel
theorem dl_611 : decode code 611 = .ok (.iadd, 1) := by decide +kernel
theorem dl_612 : decode code 612 = .ok (.iaload, 1) := by decide +kernel
theorem dl_613 : decode code 613 = .ok (.invokestatic 100, 3) := by decide +kernel
theorem dl_616 : decode code 616 = .ok (.istore 5, 2) := by decide +kernel
theorem dl_618 : decode code 618 = .ok (.aload_n 2, 1) := by decide +kernel
theorem dl_619 : decode code 619 = .ok (.aload_n 0, 1) := by decide +kernel
theorem dl_620 : decode code 620 = .ok (.iload 4, 2) := by decide +kernel
theorem dl_622 : decode code 622 = .ok (.iconst 1, 1) := by decide +kernel
theorem dl_623 : decode code 623 = .ok (.iadd, 1) := by decide +kernel
theorem dl_624 : decode code 624 = .ok (.iaload, 1) := by decide +kernel
theorem dl_625 : decode code 625 = .ok (.invokevirtual 103, 3) := by decide +kernel
theorem dl_628 : decode code 628 = .ok (.aload_n 2, 1) := by decide +kernel
theorem dl_629 : decode code 629 = .ok (.invokevirtual 77, 3) := by decide +kernel
theorem dl_632 : decode code 632 = .ok (.iload 5, 2) := by decide +kernel
theorem dl_634 : decode code 634 = .ok (.if_icmp .eq 5, 3) := by decide +kernel
theorem dl_637 : decode code 637 = .ok (.iconst 0, 1) := by decide +kernel
theorem dl_638 : decode code 638 = .ok (.ireturn, 1) := by decide +kernel
theorem dl_639 : decode code 639 = .ok (.goto 424, 3) := by decide +kernel
theorem dl_642 : decode code 642 = .ok (.aload_n 1, 1) := by decide +kernel
theorem dl_643 : decode code 643 = .ok (.aload_n 0, 1) := by decide +kernel
theorem dl_644 : decode code 644 = .ok (.iload 4, 2) := by decide +kernel
theorem dl_646 : decode code 646 = .ok (.iconst 1, 1) := by decide +kernel
theorem dl_647 : decode code 647 = .ok (.iadd, 1) := by decide +kernel
theorem dl_648 : decode code 648 = .ok (.iaload, 1) := by decide +kernel
theorem dl_649 : decode code 649 = .ok (.invokestatic 104, 3) := by decide +kernel
theorem dl_652 : decode code 652 = .ok (.istore 5, 2) := by decide +kernel
theorem dl_654 : decode code 654 = .ok (.aload_n 2, 1) := by decide +kernel
theorem dl_655 : decode code 655 = .ok (.aload_n 0, 1) := by decide +kernel
theorem dl_656 : decode code 656 = .ok (.iload 4, 2) := by decide +kernel
theorem dl_658 : decode code 658 = .ok (.iconst 1, 1) := by decide +kernel
theorem dl_659 : decode code 659 = .ok (.iadd, 1) := by decide +kernel
theorem dl_660 : decode code 660 = .ok (.iaload, 1) := by decide +kernel
theorem dl_661 : decode code 661 = .ok (.invokevirtual 106, 3) := by decide +kernel
theorem dl_664 : decode code 664 = .ok (.aload_n 2, 1) := by decide +kernel
theorem dl_665 : decode code 665 = .ok (.invokevirtual 77, 3) := by decide +kernel
theorem dl_668 : decode code 668 = .ok (.iload 5, 2) := by decide +kernel
theorem dl_670 : decode code 670 = .ok (.if_icmp .eq 5, 3) := by decide +kernel
theorem dl_673 : decode code 673 = .ok (.iconst 0, 1) := by decide +kernel
theorem dl_674 : decode code 674 = .ok (.ireturn, 1) := by decide +kernel
theorem dl_675 : decode code 675 = .ok (.goto 388, 3) := by decide +kernel
theorem dl_678 : decode code 678 = .ok (.aload_n 1, 1) := by decide +kernel
theorem dl_679 : decode code 679 = .ok (.aload_n 0, 1) := by decide +kernel
theorem dl_680 : decode code 680 = .ok (.iload 4, 2) := by decide +kernel
theorem dl_682 : decode code 682 = .ok (.iconst 1, 1) := by decide +kernel
theorem dl_683 : decode code 683 = .ok (.iadd, 1) := by decide +kernel
theorem dl_684 : decode code 684 = .ok (.iaload, 1) := by decide +kernel
theorem dl_685 : decode code 685 = .ok (.aload_n 3, 1) := by decide +kernel
theorem dl_686 : decode code 686 = .ok (.invokestatic 107, 3) := by decide +kernel
theorem dl_689 : decode code 689 = .ok (.istore 5, 2) := by decide +kernel
theorem dl_691 : decode code 691 = .ok (.aload_n 2, 1) := by decide +kernel
theorem dl_692 : decode code 692 = .ok (.aload_n 0, 1) := by decide +kernel
theorem dl_693 : decode code 693 = .ok (.iload 4, 2) := by decide +kernel
theorem dl_695 : decode code 695 = .ok (.iconst 1, 1) := by decide +kernel
theorem dl_696 : decode code 696 = .ok (.iadd, 1) := by decide +kernel
theorem dl_697 : decode code 697 = .ok (.iaload, 1) := by decide +kernel
theorem dl_698 : decode code 698 = .ok (.invokevirtual 110, 3) := by decide +kernel
theorem dl_701 : decode code 701 = .ok (.istore 6, 2) := by decide +kernel
theorem dl_703 : decode code 703 = .ok (.aload_n 2, 1) := by decide +kernel
theorem dl_704 : decode code 704 = .ok (.invokevirtual 77, 3) := by decide +kernel
theorem dl_707 : decode code 707 = .ok (.iload 5, 2) := by decide +kernel
theorem dl_709 : decode code 709 = .ok (.if_icmp .eq 5, 3) := by decide +kernel
theorem dl_712 : decode code 712 = .ok (.iconst 0, 1) := by decide +kernel
theorem dl_713 : decode code 713 = .ok (.ireturn, 1) := by decide +kernel
theorem dl_714 : decode code 714 = .ok (.iload 5, 2) := by decide +kernel
theorem dl_716 : decode code 716 = .ok (.ifCond .ne 15, 3) := by decide +kernel
theorem dl_719 : decode code 719 = .ok (.aload_n 3, 1) := by decide +kernel
theorem dl_720 : decode code 720 = .ok (.iconst 0, 1) := by decide +kernel
theorem dl_721 : decode code 721 = .ok (.laload, 1) := by decide +kernel
theorem dl_722 : decode code 722 = .ok (.iload 6, 2) := by decide +kernel
theorem dl_724 : decode code 724 = .ok (.i2l, 1) := by decide +kernel
theorem dl_725 : decode code 725 = .ok (.lcmp, 1) := by decide +kernel
theorem dl_726 : decode code 726 = .ok (.ifCond .eq 5, 3) := by decide +kernel
theorem dl_729 : decode code 729 = .ok (.iconst 0, 1) := by decide +kernel
theorem dl_730 : decode code 730 = .ok (.ireturn, 1) := by decide +kernel
theorem dl_731 : decode code 731 = .ok (.goto 332, 3) := by decide +kernel
theorem dl_734 : decode code 734 = .ok (.aload_n 1, 1) := by decide +kernel
theorem dl_735 : decode code 735 = .ok (.aload_n 0, 1) := by decide +kernel
theorem dl_736 : decode code 736 = .ok (.iload 4, 2) := by decide +kernel
theorem dl_738 : decode code 738 = .ok (.iconst 1, 1) := by decide +kernel
theorem dl_739 : decode code 739 = .ok (.iadd, 1) := by decide +kernel
theorem dl_740 : decode code 740 = .ok (.iaload, 1) := by decide +kernel
theorem dl_741 : decode code 741 = .ok (.aload_n 3, 1) := by decide +kernel
theorem dl_742 : decode code 742 = .ok (.invokestatic 111, 3) := by decide +kernel
theorem dl_745 : decode code 745 = .ok (.istore 5, 2) := by decide +kernel
theorem dl_747 : decode code 747 = .ok (.aload_n 2, 1) := by decide +kernel
theorem dl_748 : decode code 748 = .ok (.aload_n 0, 1) := by decide +kernel
theorem dl_749 : decode code 749 = .ok (.iload 4, 2) := by decide +kernel
theorem dl_751 : decode code 751 = .ok (.iconst 1, 1) := by decide +kernel
theorem dl_752 : decode code 752 = .ok (.iadd, 1) := by decide +kernel
theorem dl_753 : decode code 753 = .ok (.iaload, 1) := by decide +kernel
theorem dl_754 : decode code 754 = .ok (.invokevirtual 113, 3) := by decide +kernel
theorem dl_757 : decode code 757 = .ok (.istore 6, 2) := by decide +kernel
theorem dl_759 : decode code 759 = .ok (.aload_n 2, 1) := by decide +kernel
theorem dl_760 : decode code 760 = .ok (.invokevirtual 77, 3) := by decide +kernel
theorem dl_763 : decode code 763 = .ok (.iload 5, 2) := by decide +kernel
theorem dl_765 : decode code 765 = .ok (.if_icmp .eq 5, 3) := by decide +kernel
theorem dl_768 : decode code 768 = .ok (.iconst 0, 1) := by decide +kernel
theorem dl_769 : decode code 769 = .ok (.ireturn, 1) := by decide +kernel
theorem dl_770 : decode code 770 = .ok (.iload 5, 2) := by decide +kernel
theorem dl_772 : decode code 772 = .ok (.ifCond .ne 15, 3) := by decide +kernel
theorem dl_775 : decode code 775 = .ok (.aload_n 3, 1) := by decide +kernel
theorem dl_776 : decode code 776 = .ok (.iconst 0, 1) := by decide +kernel
theorem dl_777 : decode code 777 = .ok (.laload, 1) := by decide +kernel
theorem dl_778 : decode code 778 = .ok (.iload 6, 2) := by decide +kernel
theorem dl_780 : decode code 780 = .ok (.i2l, 1) := by decide +kernel
theorem dl_781 : decode code 781 = .ok (.lcmp, 1) := by decide +kernel
theorem dl_782 : decode code 782 = .ok (.ifCond .eq 5, 3) := by decide +kernel
theorem dl_785 : decode code 785 = .ok (.iconst 0, 1) := by decide +kernel
theorem dl_786 : decode code 786 = .ok (.ireturn, 1) := by decide +kernel
theorem dl_787 : decode code 787 = .ok (.goto 276, 3) := by decide +kernel
theorem dl_790 : decode code 790 = .ok (.aload_n 1, 1) := by decide +kernel
theorem dl_791 : decode code 791 = .ok (.aload_n 0, 1) := by decide +kernel
theorem dl_792 : decode code 792 = .ok (.iload 4, 2) := by decide +kernel
theorem dl_794 : decode code 794 = .ok (.iconst 1, 1) := by decide +kernel
theorem dl_795 : decode code 795 = .ok (.iadd, 1) := by decide +kernel
theorem dl_796 : decode code 796 = .ok (.iaload, 1) := by decide +kernel
theorem dl_797 : decode code 797 = .ok (.aload_n 3, 1) := by decide +kernel
theorem dl_798 : decode code 798 = .ok (.invokestatic 114, 3) := by decide +kernel
theorem dl_801 : decode code 801 = .ok (.istore 5, 2) := by decide +kernel
theorem dl_803 : decode code 803 = .ok (.aload_n 2, 1) := by decide +kernel
theorem dl_804 : decode code 804 = .ok (.aload_n 0, 1) := by decide +kernel
theorem dl_805 : decode code 805 = .ok (.iload 4, 2) := by decide +kernel
theorem dl_807 : decode code 807 = .ok (.iconst 1, 1) := by decide +kernel
theorem dl_808 : decode code 808 = .ok (.iadd, 1) := by decide +kernel
theorem dl_809 : decode code 809 = .ok (.iaload, 1) := by decide +kernel
theorem dl_810 : decode code 810 = .ok (.invokevirtual 116, 3) := by decide +kernel
theorem dl_813 : decode code 813 = .ok (.istore 6, 2) := by decide +kernel
theorem dl_815 : decode code 815 = .ok (.aload_n 2, 1) := by decide +kernel
theorem dl_816 : decode code 816 = .ok (.invokevirtual 77, 3) := by decide +kernel
theorem dl_819 : decode code 819 = .ok (.iload 5, 2) := by decide +kernel
theorem dl_821 : decode code 821 = .ok (.if_icmp .eq 5, 3) := by decide +kernel
theorem dl_824 : decode code 824 = .ok (.iconst 0, 1) := by decide +kernel
theorem dl_825 : decode code 825 = .ok (.ireturn, 1) := by decide +kernel
theorem dl_826 : decode code 826 = .ok (.iload 5, 2) := by decide +kernel
theorem dl_828 : decode code 828 = .ok (.ifCond .ne 15, 3) := by decide +kernel
theorem dl_831 : decode code 831 = .ok (.aload_n 3, 1) := by decide +kernel
theorem dl_832 : decode code 832 = .ok (.iconst 0, 1) := by decide +kernel
theorem dl_833 : decode code 833 = .ok (.laload, 1) := by decide +kernel
theorem dl_834 : decode code 834 = .ok (.iload 6, 2) := by decide +kernel
theorem dl_836 : decode code 836 = .ok (.i2l, 1) := by decide +kernel
theorem dl_837 : decode code 837 = .ok (.lcmp, 1) := by decide +kernel
theorem dl_838 : decode code 838 = .ok (.ifCond .eq 5, 3) := by decide +kernel
theorem dl_841 : decode code 841 = .ok (.iconst 0, 1) := by decide +kernel
theorem dl_842 : decode code 842 = .ok (.ireturn, 1) := by decide +kernel
theorem dl_843 : decode code 843 = .ok (.goto 220, 3) := by decide +kernel
theorem dl_846 : decode code 846 = .ok (.aload_n 1, 1) := by decide +kernel
theorem dl_847 : decode code 847 = .ok (.aload_n 0, 1) := by decide +kernel
theorem dl_848 : decode code 848 = .ok (.iload 4, 2) := by decide +kernel
theorem dl_850 : decode code 850 = .ok (.iconst 1, 1) := by decide +kernel
theorem dl_851 : decode code 851 = .ok (.iadd, 1) := by decide +kernel
theorem dl_852 : decode code 852 = .ok (.iaload, 1) := by decide +kernel
theorem dl_853 : decode code 853 = .ok (.aload_n 0, 1) := by decide +kernel
theorem dl_854 : decode code 854 = .ok (.iload 4, 2) := by decide +kernel
theorem dl_856 : decode code 856 = .ok (.iconst 2, 1) := by decide +kernel
theorem dl_857 : decode code 857 = .ok (.iadd, 1) := by decide +kernel
theorem dl_858 : decode code 858 = .ok (.iaload, 1) := by decide +kernel
theorem dl_859 : decode code 859 = .ok (.aload_n 3, 1) := by decide +kernel
theorem dl_860 : decode code 860 = .ok (.invokestatic 117, 3) := by decide +kernel
theorem dl_863 : decode code 863 = .ok (.istore 5, 2) := by decide +kernel
theorem dl_865 : decode code 865 = .ok (.aload_n 2, 1) := by decide +kernel
theorem dl_866 : decode code 866 = .ok (.aload_n 0, 1) := by decide +kernel
theorem dl_867 : decode code 867 = .ok (.iload 4, 2) := by decide +kernel
theorem dl_869 : decode code 869 = .ok (.iconst 1, 1) := by decide +kernel
theorem dl_870 : decode code 870 = .ok (.iadd, 1) := by decide +kernel
theorem dl_871 : decode code 871 = .ok (.iaload, 1) := by decide +kernel
theorem dl_872 : decode code 872 = .ok (.aload_n 0, 1) := by decide +kernel
theorem dl_873 : decode code 873 = .ok (.iload 4, 2) := by decide +kernel
theorem dl_875 : decode code 875 = .ok (.iconst 2, 1) := by decide +kernel
theorem dl_876 : decode code 876 = .ok (.iadd, 1) := by decide +kernel
theorem dl_877 : decode code 877 = .ok (.iaload, 1) := by decide +kernel
theorem dl_878 : decode code 878 = .ok (.invokevirtual 119, 3) := by decide +kernel
theorem dl_881 : decode code 881 = .ok (.istore 6, 2) := by decide +kernel
theorem dl_883 : decode code 883 = .ok (.aload_n 2, 1) := by decide +kernel
theorem dl_884 : decode code 884 = .ok (.invokevirtual 77, 3) := by decide +kernel
theorem dl_887 : decode code 887 = .ok (.iload 5, 2) := by decide +kernel
theorem dl_889 : decode code 889 = .ok (.if_icmp .eq 5, 3) := by decide +kernel
theorem dl_892 : decode code 892 = .ok (.iconst 0, 1) := by decide +kernel
theorem dl_893 : decode code 893 = .ok (.ireturn, 1) := by decide +kernel
theorem dl_894 : decode code 894 = .ok (.iload 5, 2) := by decide +kernel
theorem dl_896 : decode code 896 = .ok (.ifCond .ne 15, 3) := by decide +kernel
theorem dl_899 : decode code 899 = .ok (.aload_n 3, 1) := by decide +kernel
theorem dl_900 : decode code 900 = .ok (.iconst 0, 1) := by decide +kernel
theorem dl_901 : decode code 901 = .ok (.laload, 1) := by decide +kernel
theorem dl_902 : decode code 902 = .ok (.iload 6, 2) := by decide +kernel
theorem dl_904 : decode code 904 = .ok (.i2l, 1) := by decide +kernel
theorem dl_905 : decode code 905 = .ok (.lcmp, 1) := by decide +kernel
theorem dl_906 : decode code 906 = .ok (.ifCond .eq 5, 3) := by decide +kernel
theorem dl_909 : decode code 909 = .ok (.iconst 0, 1) := by decide +kernel
theorem dl_910 : decode code 910 = .ok (.ireturn, 1) := by decide +kernel
theorem dl_911 : decode code 911 = .ok (.goto 152, 3) := by decide +kernel
theorem dl_914 : decode code 914 = .ok (.aload_n 1, 1) := by decide +kernel
theorem dl_915 : decode code 915 = .ok (.aload_n 0, 1) := by decide +kernel
theorem dl_916 : decode code 916 = .ok (.iload 4, 2) := by decide +kernel
theorem dl_918 : decode code 918 = .ok (.iconst 1, 1) := by decide +kernel
theorem dl_919 : decode code 919 = .ok (.iadd, 1) := by decide +kernel
theorem dl_920 : decode code 920 = .ok (.iaload, 1) := by decide +kernel
theorem dl_921 : decode code 921 = .ok (.aload_n 0, 1) := by decide +kernel
theorem dl_922 : decode code 922 = .ok (.iload 4, 2) := by decide +kernel
theorem dl_924 : decode code 924 = .ok (.iconst 2, 1) := by decide +kernel
theorem dl_925 : decode code 925 = .ok (.iadd, 1) := by decide +kernel
theorem dl_926 : decode code 926 = .ok (.iaload, 1) := by decide +kernel
theorem dl_927 : decode code 927 = .ok (.aload_n 3, 1) := by decide +kernel
theorem dl_928 : decode code 928 = .ok (.invokestatic 120, 3) := by decide +kernel
theorem dl_931 : decode code 931 = .ok (.istore 5, 2) := by decide +kernel
theorem dl_933 : decode code 933 = .ok (.aload_n 2, 1) := by decide +kernel
theorem dl_934 : decode code 934 = .ok (.aload_n 0, 1) := by decide +kernel
theorem dl_935 : decode code 935 = .ok (.iload 4, 2) := by decide +kernel
theorem dl_937 : decode code 937 = .ok (.iconst 1, 1) := by decide +kernel
theorem dl_938 : decode code 938 = .ok (.iadd, 1) := by decide +kernel
theorem dl_939 : decode code 939 = .ok (.iaload, 1) := by decide +kernel
theorem dl_940 : decode code 940 = .ok (.aload_n 0, 1) := by decide +kernel
theorem dl_941 : decode code 941 = .ok (.iload 4, 2) := by decide +kernel
theorem dl_943 : decode code 943 = .ok (.iconst 2, 1) := by decide +kernel
theorem dl_944 : decode code 944 = .ok (.iadd, 1) := by decide +kernel
theorem dl_945 : decode code 945 = .ok (.iaload, 1) := by decide +kernel
theorem dl_946 : decode code 946 = .ok (.invokevirtual 122, 3) := by decide +kernel
theorem dl_949 : decode code 949 = .ok (.istore 6, 2) := by decide +kernel
theorem dl_951 : decode code 951 = .ok (.aload_n 2, 1) := by decide +kernel
theorem dl_952 : decode code 952 = .ok (.invokevirtual 77, 3) := by decide +kernel
theorem dl_955 : decode code 955 = .ok (.iload 5, 2) := by decide +kernel
theorem dl_957 : decode code 957 = .ok (.if_icmp .eq 5, 3) := by decide +kernel
theorem dl_960 : decode code 960 = .ok (.iconst 0, 1) := by decide +kernel
theorem dl_961 : decode code 961 = .ok (.ireturn, 1) := by decide +kernel
theorem dl_962 : decode code 962 = .ok (.iload 5, 2) := by decide +kernel
theorem dl_964 : decode code 964 = .ok (.ifCond .ne 15, 3) := by decide +kernel
theorem dl_967 : decode code 967 = .ok (.aload_n 3, 1) := by decide +kernel
theorem dl_968 : decode code 968 = .ok (.iconst 0, 1) := by decide +kernel
theorem dl_969 : decode code 969 = .ok (.laload, 1) := by decide +kernel
theorem dl_970 : decode code 970 = .ok (.iload 6, 2) := by decide +kernel
theorem dl_972 : decode code 972 = .ok (.i2l, 1) := by decide +kernel
theorem dl_973 : decode code 973 = .ok (.lcmp, 1) := by decide +kernel
theorem dl_974 : decode code 974 = .ok (.ifCond .eq 5, 3) := by decide +kernel
theorem dl_977 : decode code 977 = .ok (.iconst 0, 1) := by decide +kernel
theorem dl_978 : decode code 978 = .ok (.ireturn, 1) := by decide +kernel
theorem dl_979 : decode code 979 = .ok (.goto 84, 3) := by decide +kernel
theorem dl_982 : decode code 982 = .ok (.aload_n 1, 1) := by decide +kernel
theorem dl_983 : decode code 983 = .ok (.aload_n 0, 1) := by decide +kernel
theorem dl_984 : decode code 984 = .ok (.iload 4, 2) := by decide +kernel
theorem dl_986 : decode code 986 = .ok (.iconst 1, 1) := by decide +kernel
theorem dl_987 : decode code 987 = .ok (.iadd, 1) := by decide +kernel
theorem dl_988 : decode code 988 = .ok (.iaload, 1) := by decide +kernel
theorem dl_989 : decode code 989 = .ok (.invokevirtual 123, 3) := by decide +kernel
theorem dl_992 : decode code 992 = .ok (.aload_n 2, 1) := by decide +kernel
theorem dl_993 : decode code 993 = .ok (.aload_n 0, 1) := by decide +kernel
theorem dl_994 : decode code 994 = .ok (.iload 4, 2) := by decide +kernel
theorem dl_996 : decode code 996 = .ok (.iconst 1, 1) := by decide +kernel
theorem dl_997 : decode code 997 = .ok (.iadd, 1) := by decide +kernel
theorem dl_998 : decode code 998 = .ok (.iaload, 1) := by decide +kernel
theorem dl_999 : decode code 999 = .ok (.invokevirtual 126, 3) := by decide +kernel
theorem dl_1002 : decode code 1002 = .ok (.if_icmp .eq 61, 3) := by decide +kernel
theorem dl_1005 : decode code 1005 = .ok (.iconst 0, 1) := by decide +kernel
theorem dl_1006 : decode code 1006 = .ok (.ireturn, 1) := by decide +kernel
theorem dl_1007 : decode code 1007 = .ok (.aload_n 1, 1) := by decide +kernel
theorem dl_1008 : decode code 1008 = .ok (.aload_n 0, 1) := by decide +kernel
theorem dl_1009 : decode code 1009 = .ok (.iload 4, 2) := by decide +kernel
theorem dl_1011 : decode code 1011 = .ok (.iconst 1, 1) := by decide +kernel
theorem dl_1012 : decode code 1012 = .ok (.iadd, 1) := by decide +kernel
theorem dl_1013 : decode code 1013 = .ok (.iaload, 1) := by decide +kernel
theorem dl_1014 : decode code 1014 = .ok (.aload_n 3, 1) := by decide +kernel
theorem dl_1015 : decode code 1015 = .ok (.invokestatic 127, 3) := by decide +kernel
theorem dl_1018 : decode code 1018 = .ok (.istore 5, 2) := by decide +kernel
theorem dl_1020 : decode code 1020 = .ok (.aload_n 2, 1) := by decide +kernel
theorem dl_1021 : decode code 1021 = .ok (.aload_n 0, 1) := by decide +kernel
theorem dl_1022 : decode code 1022 = .ok (.iload 4, 2) := by decide +kernel
theorem dl_1024 : decode code 1024 = .ok (.iconst 1, 1) := by decide +kernel
theorem dl_1025 : decode code 1025 = .ok (.iadd, 1) := by decide +kernel
theorem dl_1026 : decode code 1026 = .ok (.iaload, 1) := by decide +kernel
theorem dl_1027 : decode code 1027 = .ok (.invokevirtual 129, 3) := by decide +kernel
theorem dl_1030 : decode code 1030 = .ok (.istore 6, 2) := by decide +kernel
theorem dl_1032 : decode code 1032 = .ok (.aload_n 2, 1) := by decide +kernel
theorem dl_1033 : decode code 1033 = .ok (.invokevirtual 77, 3) := by decide +kernel
theorem dl_1036 : decode code 1036 = .ok (.iload 5, 2) := by decide +kernel
theorem dl_1038 : decode code 1038 = .ok (.if_icmp .eq 5, 3) := by decide +kernel
theorem dl_1041 : decode code 1041 = .ok (.iconst 0, 1) := by decide +kernel
theorem dl_1042 : decode code 1042 = .ok (.ireturn, 1) := by decide +kernel
theorem dl_1043 : decode code 1043 = .ok (.iload 5, 2) := by decide +kernel
theorem dl_1045 : decode code 1045 = .ok (.ifCond .ne 15, 3) := by decide +kernel
theorem dl_1048 : decode code 1048 = .ok (.aload_n 3, 1) := by decide +kernel
theorem dl_1049 : decode code 1049 = .ok (.iconst 0, 1) := by decide +kernel
theorem dl_1050 : decode code 1050 = .ok (.laload, 1) := by decide +kernel
theorem dl_1051 : decode code 1051 = .ok (.iload 6, 2) := by decide +kernel
theorem dl_1053 : decode code 1053 = .ok (.i2l, 1) := by decide +kernel
theorem dl_1054 : decode code 1054 = .ok (.lcmp, 1) := by decide +kernel
theorem dl_1055 : decode code 1055 = .ok (.ifCond .eq 5, 3) := by decide +kernel
theorem dl_1058 : decode code 1058 = .ok (.iconst 0, 1) := by decide +kernel
theorem dl_1059 : decode code 1059 = .ok (.ireturn, 1) := by decide +kernel
theorem dl_1060 : decode code 1060 = .ok (.goto 3, 3) := by decide +kernel
theorem dl_1063 : decode code 1063 = .ok (.iinc 4 6, 3) := by decide +kernel
theorem dl_1066 : decode code 1066 = .ok (.goto (-1043), 3) := by decide +kernel
theorem dl_1069 : decode code 1069 = .ok (.iconst 1, 1) := by decide +kernel
theorem dl_1070 : decode code 1070 = .ok (.ireturn, 1) := by decide +kernel
