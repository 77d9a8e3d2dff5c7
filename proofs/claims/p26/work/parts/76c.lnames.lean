theorem dL_isSo_94 : decode cL_isSo 94 = .ok (.aload_n 1, 1) := by decide +kernel
theorem dL_isSo_95 : decode cL_isSo 95 = .ok (.iload 10, 2) := by decide +kernel
theorem dL_isSo_97 : decode cL_isSo 97 = .ok (.iload 11, 2) := by decide +kernel
theorem dL_isSo_99 : decode cL_isSo 99 = .ok (.iconst 1, 1) := by decide +kernel
theorem dL_isSo_100 : decode cL_isSo 100 = .ok (.invokestatic 28, 3) := by decide +kernel
theorem dL_isSo_103 : decode cL_isSo 103 = .ok (.ifCond .eq 15, 3) := by decide +kernel
theorem dL_isSo_106 : decode cL_isSo 106 = .ok (.aload_n 1, 1) := by decide +kernel
theorem dL_isSo_107 : decode cL_isSo 107 = .ok (.iload 10, 2) := by decide +kernel
theorem dL_isSo_109 : decode cL_isSo 109 = .ok (.iload 11, 2) := by decide +kernel
theorem dL_isSo_111 : decode cL_isSo 111 = .ok (.iconst 2, 1) := by decide +kernel
theorem dL_isSo_112 : decode cL_isSo 112 = .ok (.invokestatic 28, 3) := by decide +kernel
theorem dL_isSo_115 : decode cL_isSo 115 = .ok (.ifCond .ne 61, 3) := by decide +kernel
theorem dL_isSo_118 : decode cL_isSo 118 = .ok (.aload_n 1, 1) := by decide +kernel
theorem dL_isSo_119 : decode cL_isSo 119 = .ok (.iload 10, 2) := by decide +kernel
theorem dL_isSo_121 : decode cL_isSo 121 = .ok (.iload 11, 2) := by decide +kernel
theorem dL_isSo_123 : decode cL_isSo 123 = .ok (.invokestatic 22, 3) := by decide +kernel
theorem dL_isSo_126 : decode cL_isSo 126 = .ok (.aload_n 1, 1) := by decide +kernel
theorem dL_isSo_127 : decode cL_isSo 127 = .ok (.iload 10, 2) := by decide +kernel
theorem dL_isSo_129 : decode cL_isSo 129 = .ok (.iload 11, 2) := by decide +kernel
theorem dL_isSo_131 : decode cL_isSo 131 = .ok (.invokestatic 46, 3) := by decide +kernel
theorem dL_isSo_134 : decode cL_isSo 134 = .ok (.aload_n 1, 1) := by decide +kernel
theorem dL_isSo_135 : decode cL_isSo 135 = .ok (.iload 11, 2) := by decide +kernel
theorem dL_isSo_137 : decode cL_isSo 137 = .ok (.iload 10, 2) := by decide +kernel
theorem dL_isSo_139 : decode cL_isSo 139 = .ok (.invokestatic 46, 3) := by decide +kernel
theorem dL_isSo_142 : decode cL_isSo 142 = .ok (.iadd, 1) := by decide +kernel
theorem dL_isSo_143 : decode cL_isSo 143 = .ok (.ifCond .le 7, 3) := by decide +kernel
theorem dL_isSo_146 : decode cL_isSo 146 = .ok (.iconst 1, 1) := by decide +kernel
theorem dL_isSo_147 : decode cL_isSo 147 = .ok (.goto 4, 3) := by decide +kernel
theorem dL_isSo_150 : decode cL_isSo 150 = .ok (.iconst 0, 1) := by decide +kernel
theorem dL_isSo_151 : decode cL_isSo 151 = .ok (.if_icmp .ne 25, 3) := by decide +kernel
theorem dL_isSo_154 : decode cL_isSo 154 = .ok (.aload_n 1, 1) := by decide +kernel
theorem dL_isSo_155 : decode cL_isSo 155 = .ok (.iload 10, 2) := by decide +kernel
theorem dL_isSo_157 : decode cL_isSo 157 = .ok (.iload 11, 2) := by decide +kernel
theorem dL_isSo_159 : decode cL_isSo 159 = .ok (.invokestatic 46, 3) := by decide +kernel
theorem dL_isSo_162 : decode cL_isSo 162 = .ok (.ifCond .le 16, 3) := by decide +kernel
theorem dL_isSo_165 : decode cL_isSo 165 = .ok (.aload_n 1, 1) := by decide +kernel
theorem dL_isSo_166 : decode cL_isSo 166 = .ok (.iload 11, 2) := by decide +kernel
theorem dL_isSo_168 : decode cL_isSo 168 = .ok (.iload 10, 2) := by decide +kernel
theorem dL_isSo_170 : decode cL_isSo 170 = .ok (.invokestatic 46, 3) := by decide +kernel
theorem dL_isSo_173 : decode cL_isSo 173 = .ok (.ifCond .le 5, 3) := by decide +kernel
theorem dL_isSo_176 : decode cL_isSo 176 = .ok (.iconst 0, 1) := by decide +kernel
theorem dL_isSo_177 : decode cL_isSo 177 = .ok (.ireturn, 1) := by decide +kernel
theorem dL_isSo_178 : decode cL_isSo 178 = .ok (.iinc 11 1, 3) := by decide +kernel
theorem dL_isSo_181 : decode cL_isSo 181 = .ok (.goto (-138), 3) := by decide +kernel
theorem dL_isSo_184 : decode cL_isSo 184 = .ok (.iinc 10 1, 3) := by decide +kernel
theorem dL_isSo_187 : decode cL_isSo 187 = .ok (.goto (-158), 3) := by decide +kernel
theorem dL_isSo_190 : decode cL_isSo 190 = .ok (.iconst 0, 1) := by decide +kernel
theorem dL_isSo_191 : decode cL_isSo 191 = .ok (.istore 10, 2) := by decide +kernel
theorem dL_isSo_193 : decode cL_isSo 193 = .ok (.iload 10, 2) := by decide +kernel
theorem dL_isSo_195 : decode cL_isSo 195 = .ok (.iload_n 3, 1) := by decide +kernel
theorem dL_isSo_196 : decode cL_isSo 196 = .ok (.if_icmp .ge 254, 3) := by decide +kernel
theorem dL_isSo_199 : decode cL_isSo 199 = .ok (.aload_n 0, 1) := by decide +kernel
theorem dL_isSo_200 : decode cL_isSo 200 = .ok (.aload_n 1, 1) := by decide +kernel
theorem dL_isSo_201 : decode cL_isSo 201 = .ok (.aload_n 2, 1) := by decide +kernel
theorem dL_isSo_202 : decode cL_isSo 202 = .ok (.iload_n 3, 1) := by decide +kernel
theorem dL_isSo_203 : decode cL_isSo 203 = .ok (.iload 10, 2) := by decide +kernel
theorem dL_isSo_205 : decode cL_isSo 205 = .ok (.invokestatic 63, 3) := by decide +kernel
theorem dL_isSo_208 : decode cL_isSo 208 = .ok (.ifCond .ne 5, 3) := by decide +kernel
theorem dL_isSo_211 : decode cL_isSo 211 = .ok (.iconst 0, 1) := by decide +kernel
theorem dL_isSo_212 : decode cL_isSo 212 = .ok (.ireturn, 1) := by decide +kernel
theorem dL_isSo_213 : decode cL_isSo 213 = .ok (.aload_n 2, 1) := by decide +kernel
theorem dL_isSo_214 : decode cL_isSo 214 = .ok (.iload_n 3, 1) := by decide +kernel
theorem dL_isSo_215 : decode cL_isSo 215 = .ok (.iload 10, 2) := by decide +kernel
theorem dL_isSo_217 : decode cL_isSo 217 = .ok (.invokestatic 50, 3) := by decide +kernel
theorem dL_isSo_220 : decode cL_isSo 220 = .ok (.istore 11, 2) := by decide +kernel
theorem dL_isSo_222 : decode cL_isSo 222 = .ok (.aload_n 0, 1) := by decide +kernel
theorem dL_isSo_223 : decode cL_isSo 223 = .ok (.aload_n 0, 1) := by decide +kernel
theorem dL_isSo_224 : decode cL_isSo 224 = .ok (.iload 10, 2) := by decide +kernel
theorem dL_isSo_226 : decode cL_isSo 226 = .ok (.invokevirtual 15, 3) := by decide +kernel
theorem dL_isSo_229 : decode cL_isSo 229 = .ok (.iconst 3, 1) := by decide +kernel
theorem dL_isSo_230 : decode cL_isSo 230 = .ok (.invokevirtual 53, 3) := by decide +kernel
theorem dL_isSo_233 : decode cL_isSo 233 = .ok (.istore 12, 2) := by decide +kernel
theorem dL_isSo_235 : decode cL_isSo 235 = .ok (.iconst (-1), 1) := by decide +kernel
theorem dL_isSo_236 : decode cL_isSo 236 = .ok (.istore 13, 2) := by decide +kernel
theorem dL_isSo_238 : decode cL_isSo 238 = .ok (.iload 11, 2) := by decide +kernel
theorem dL_isSo_240 : decode cL_isSo 240 = .ok (.ifCond .ge 7, 3) := by decide +kernel
theorem dL_isSo_243 : decode cL_isSo 243 = .ok (.iconst 1, 1) := by decide +kernel
theorem dL_isSo_244 : decode cL_isSo 244 = .ok (.goto 4, 3) := by decide +kernel
theorem dL_isSo_247 : decode cL_isSo 247 = .ok (.iconst 0, 1) := by decide +kernel
theorem dL_isSo_248 : decode cL_isSo 248 = .ok (.istore 14, 2) := by decide +kernel
theorem dL_isSo_250 : decode cL_isSo 250 = .ok (.iconst 0, 1) := by decide +kernel
theorem dL_isSo_251 : decode cL_isSo 251 = .ok (.istore 15, 2) := by decide +kernel
theorem dL_isSo_253 : decode cL_isSo 253 = .ok (.iload 15, 2) := by decide +kernel
theorem dL_isSo_255 : decode cL_isSo 255 = .ok (.iload_n 3, 1) := by decide +kernel
theorem dL_isSo_256 : decode cL_isSo 256 = .ok (.if_icmp .ge 70, 3) := by decide +kernel
theorem dL_isSo_259 : decode cL_isSo 259 = .ok (.aload_n 2, 1) := by decide +kernel
theorem dL_isSo_260 : decode cL_isSo 260 = .ok (.iload 10, 2) := by decide +kernel
theorem dL_isSo_262 : decode cL_isSo 262 = .ok (.iaload, 1) := by decide +kernel
theorem dL_isSo_263 : decode cL_isSo 263 = .ok (.iload 15, 2) := by decide +kernel
theorem dL_isSo_265 : decode cL_isSo 265 = .ok (.ishr, 1) := by decide +kernel
theorem dL_isSo_266 : decode cL_isSo 266 = .ok (.iconst 1, 1) := by decide +kernel
theorem dL_isSo_267 : decode cL_isSo 267 = .ok (.iand, 1) := by decide +kernel
theorem dL_isSo_268 : decode cL_isSo 268 = .ok (.ifCond .ne 6, 3) := by decide +kernel
theorem dL_isSo_271 : decode cL_isSo 271 = .ok (.goto 49, 3) := by decide +kernel
theorem dL_isSo_274 : decode cL_isSo 274 = .ok (.aload_n 0, 1) := by decide +kernel
theorem dL_isSo_275 : decode cL_isSo 275 = .ok (.aload_n 0, 1) := by decide +kernel
theorem dL_isSo_276 : decode cL_isSo 276 = .ok (.iload 15, 2) := by decide +kernel
theorem dL_isSo_278 : decode cL_isSo 278 = .ok (.invokevirtual 15, 3) := by decide +kernel
theorem dL_isSo_281 : decode cL_isSo 281 = .ok (.iconst 3, 1) := by decide +kernel
theorem dL_isSo_282 : decode cL_isSo 282 = .ok (.invokevirtual 53, 3) := by decide +kernel
theorem dL_isSo_285 : decode cL_isSo 285 = .ok (.istore 16, 2) := by decide +kernel
theorem dL_isSo_287 : decode cL_isSo 287 = .ok (.iload 14, 2) := by decide +kernel
theorem dL_isSo_289 : decode cL_isSo 289 = .ok (.ifCond .eq 12, 3) := by decide +kernel
theorem dL_isSo_292 : decode cL_isSo 292 = .ok (.iload 16, 2) := by decide +kernel
theorem dL_isSo_294 : decode cL_isSo 294 = .ok (.ifCond .lt 7, 3) := by decide +kernel
theorem dL_isSo_297 : decode cL_isSo 297 = .ok (.iconst 1, 1) := by decide +kernel
theorem dL_isSo_298 : decode cL_isSo 298 = .ok (.goto 4, 3) := by decide +kernel
theorem dL_isSo_301 : decode cL_isSo 301 = .ok (.iconst 0, 1) := by decide +kernel
theorem dL_isSo_302 : decode cL_isSo 302 = .ok (.istore 14, 2) := by decide +kernel
theorem dL_isSo_304 : decode cL_isSo 304 = .ok (.iload 16, 2) := by decide +kernel
theorem dL_isSo_306 : decode cL_isSo 306 = .ok (.iload 13, 2) := by decide +kernel
theorem dL_isSo_308 : decode cL_isSo 308 = .ok (.if_icmp .le 8, 3) := by decide +kernel
theorem dL_isSo_311 : decode cL_isSo 311 = .ok (.iload 16, 2) := by decide +kernel
theorem dL_isSo_313 : decode cL_isSo 313 = .ok (.goto 5, 3) := by decide +kernel
theorem dL_isSo_316 : decode cL_isSo 316 = .ok (.iload 13, 2) := by decide +kernel
theorem dL_isSo_318 : decode cL_isSo 318 = .ok (.istore 13, 2) := by decide +kernel
theorem dL_isSo_320 : decode cL_isSo 320 = .ok (.iinc 15 1, 3) := by decide +kernel
theorem dL_isSo_323 : decode cL_isSo 323 = .ok (.goto (-70), 3) := by decide +kernel
theorem dL_isSo_326 : decode cL_isSo 326 = .ok (.iload 12, 2) := by decide +kernel
theorem dL_isSo_328 : decode cL_isSo 328 = .ok (.iload 14, 2) := by decide +kernel
theorem dL_isSo_330 : decode cL_isSo 330 = .ok (.ifCond .eq 10, 3) := by decide +kernel
theorem dL_isSo_333 : decode cL_isSo 333 = .ok (.iload 13, 2) := by decide +kernel
theorem dL_isSo_335 : decode cL_isSo 335 = .ok (.iconst 1, 1) := by decide +kernel
theorem dL_isSo_336 : decode cL_isSo 336 = .ok (.iadd, 1) := by decide +kernel
theorem dL_isSo_337 : decode cL_isSo 337 = .ok (.goto 5, 3) := by decide +kernel
theorem dL_isSo_340 : decode cL_isSo 340 = .ok (.bipush (-5), 2) := by decide +kernel
theorem dL_isSo_342 : decode cL_isSo 342 = .ok (.if_icmp .eq 5, 3) := by decide +kernel
theorem dL_isSo_345 : decode cL_isSo 345 = .ok (.iconst 0, 1) := by decide +kernel
theorem dL_isSo_346 : decode cL_isSo 346 = .ok (.ireturn, 1) := by decide +kernel
theorem dL_isSo_347 : decode cL_isSo 347 = .ok (.iload 12, 2) := by decide +kernel
theorem dL_isSo_349 : decode cL_isSo 349 = .ok (.iload 9, 2) := by decide +kernel
theorem dL_isSo_351 : decode cL_isSo 351 = .ok (.if_icmp .le 8, 3) := by decide +kernel
theorem dL_isSo_354 : decode cL_isSo 354 = .ok (.iload 12, 2) := by decide +kernel
theorem dL_isSo_356 : decode cL_isSo 356 = .ok (.goto 5, 3) := by decide +kernel
theorem dL_isSo_359 : decode cL_isSo 359 = .ok (.iload 9, 2) := by decide +kernel
theorem dL_isSo_361 : decode cL_isSo 361 = .ok (.istore 9, 2) := by decide +kernel
theorem dL_isSo_363 : decode cL_isSo 363 = .ok (.iload 4, 2) := by decide +kernel
theorem dL_isSo_365 : decode cL_isSo 365 = .ok (.aload_n 2, 1) := by decide +kernel
theorem dL_isSo_366 : decode cL_isSo 366 = .ok (.iload 10, 2) := by decide +kernel
theorem dL_isSo_368 : decode cL_isSo 368 = .ok (.iaload, 1) := by decide +kernel
theorem dL_isSo_369 : decode cL_isSo 369 = .ok (.invokestatic 56, 3) := by decide +kernel
theorem dL_isSo_372 : decode cL_isSo 372 = .ok (.iadd, 1) := by decide +kernel
theorem dL_isSo_373 : decode cL_isSo 373 = .ok (.istore 4, 2) := by decide +kernel
theorem dL_isSo_375 : decode cL_isSo 375 = .ok (.iload 5, 2) := by decide +kernel
theorem dL_isSo_377 : decode cL_isSo 377 = .ok (.iload 11, 2) := by decide +kernel
theorem dL_isSo_379 : decode cL_isSo 379 = .ok (.ifCond .le 7, 3) := by decide +kernel
theorem dL_isSo_382 : decode cL_isSo 382 = .ok (.iconst 1, 1) := by decide +kernel
theorem dL_isSo_383 : decode cL_isSo 383 = .ok (.goto 4, 3) := by decide +kernel
theorem dL_isSo_386 : decode cL_isSo 386 = .ok (.iconst 0, 1) := by decide +kernel
theorem dL_isSo_387 : decode cL_isSo 387 = .ok (.iadd, 1) := by decide +kernel
theorem dL_isSo_388 : decode cL_isSo 388 = .ok (.istore 5, 2) := by decide +kernel
theorem dL_isSo_390 : decode cL_isSo 390 = .ok (.iload 11, 2) := by decide +kernel
theorem dL_isSo_392 : decode cL_isSo 392 = .ok (.ifCond .le 20, 3) := by decide +kernel
theorem dL_isSo_395 : decode cL_isSo 395 = .ok (.iload 6, 2) := by decide +kernel
theorem dL_isSo_397 : decode cL_isSo 397 = .ok (.ifCond .lt 10, 3) := by decide +kernel
theorem dL_isSo_400 : decode cL_isSo 400 = .ok (.iload 11, 2) := by decide +kernel
theorem dL_isSo_402 : decode cL_isSo 402 = .ok (.iload 6, 2) := by decide +kernel
theorem dL_isSo_404 : decode cL_isSo 404 = .ok (.if_icmp .ge 8, 3) := by decide +kernel
theorem dL_isSo_407 : decode cL_isSo 407 = .ok (.iload 11, 2) := by decide +kernel
theorem dL_isSo_409 : decode cL_isSo 409 = .ok (.goto 5, 3) := by decide +kernel
theorem dL_isSo_412 : decode cL_isSo 412 = .ok (.iload 6, 2) := by decide +kernel
theorem dL_isSo_414 : decode cL_isSo 414 = .ok (.istore 6, 2) := by decide +kernel
theorem dL_isSo_416 : decode cL_isSo 416 = .ok (.iload 7, 2) := by decide +kernel
theorem dL_isSo_418 : decode cL_isSo 418 = .ok (.aload_n 1, 1) := by decide +kernel
theorem dL_isSo_419 : decode cL_isSo 419 = .ok (.iload 10, 2) := by decide +kernel
theorem dL_isSo_421 : decode cL_isSo 421 = .ok (.invokestatic 32, 3) := by decide +kernel
theorem dL_isSo_424 : decode cL_isSo 424 = .ok (.iadd, 1) := by decide +kernel
theorem dL_isSo_425 : decode cL_isSo 425 = .ok (.istore 7, 2) := by decide +kernel
theorem dL_isSo_427 : decode cL_isSo 427 = .ok (.iload 8, 2) := by decide +kernel
theorem dL_isSo_429 : decode cL_isSo 429 = .ok (.aload_n 0, 1) := by decide +kernel
theorem dL_isSo_430 : decode cL_isSo 430 = .ok (.aload_n 0, 1) := by decide +kernel
theorem dL_isSo_431 : decode cL_isSo 431 = .ok (.iload 10, 2) := by decide +kernel
theorem dL_isSo_433 : decode cL_isSo 433 = .ok (.invokevirtual 15, 3) := by decide +kernel
theorem dL_isSo_436 : decode cL_isSo 436 = .ok (.bipush 7, 2) := by decide +kernel
theorem dL_isSo_438 : decode cL_isSo 438 = .ok (.invokevirtual 53, 3) := by decide +kernel
theorem dL_isSo_441 : decode cL_isSo 441 = .ok (.iadd, 1) := by decide +kernel
theorem dL_isSo_442 : decode cL_isSo 442 = .ok (.istore 8, 2) := by decide +kernel
theorem dL_isSo_444 : decode cL_isSo 444 = .ok (.iinc 10 1, 3) := by decide +kernel
theorem dL_isSo_447 : decode cL_isSo 447 = .ok (.goto (-254), 3) := by decide +kernel
theorem dL_isSo_450 : decode cL_isSo 450 = .ok (.aload_n 0, 1) := by decide +kernel
theorem dL_isSo_451 : decode cL_isSo 451 = .ok (.aload_n 1, 1) := by decide +kernel
theorem dL_isSo_452 : decode cL_isSo 452 = .ok (.aload_n 2, 1) := by decide +kernel
theorem dL_isSo_453 : decode cL_isSo 453 = .ok (.iload_n 3, 1) := by decide +kernel
theorem dL_isSo_454 : decode cL_isSo 454 = .ok (.iconst 0, 1) := by decide +kernel
theorem dL_isSo_455 : decode cL_isSo 455 = .ok (.iconst 1, 1) := by decide +kernel
theorem dL_isSo_456 : decode cL_isSo 456 = .ok (.invokestatic 67, 3) := by decide +kernel
theorem dL_isSo_459 : decode cL_isSo 459 = .ok (.istore 10, 2) := by decide +kernel
theorem dL_isSo_461 : decode cL_isSo 461 = .ok (.iconst 0, 1) := by decide +kernel
theorem dL_isSo_462 : decode cL_isSo 462 = .ok (.istore 11, 2) := by decide +kernel
theorem dL_isSo_464 : decode cL_isSo 464 = .ok (.iload 11, 2) := by decide +kernel
theorem dL_isSo_466 : decode cL_isSo 466 = .ok (.iload_n 3, 1) := by decide +kernel
theorem dL_isSo_467 : decode cL_isSo 467 = .ok (.if_icmp .ge 119, 3) := by decide +kernel
theorem dL_isSo_470 : decode cL_isSo 470 = .ok (.iload 10, 2) := by decide +kernel
theorem dL_isSo_472 : decode cL_isSo 472 = .ok (.ifCond .lt 114, 3) := by decide +kernel
theorem dL_isSo_475 : decode cL_isSo 475 = .ok (.bipush (-5), 2) := by decide +kernel
theorem dL_isSo_477 : decode cL_isSo 477 = .ok (.istore 12, 2) := by decide +kernel
theorem dL_isSo_479 : decode cL_isSo 479 = .ok (.iload_n 3, 1) := by decide +kernel
theorem dL_isSo_480 : decode cL_isSo 480 = .ok (.iconst 1, 1) := by decide +kernel
theorem dL_isSo_481 : decode cL_isSo 481 = .ok (.isub, 1) := by decide +kernel
theorem dL_isSo_482 : decode cL_isSo 482 = .ok (.istore 13, 2) := by decide +kernel
theorem dL_isSo_484 : decode cL_isSo 484 = .ok (.iload 13, 2) := by decide +kernel
theorem dL_isSo_486 : decode cL_isSo 486 = .ok (.ifCond .lt 49, 3) := by decide +kernel
theorem dL_isSo_489 : decode cL_isSo 489 = .ok (.iload 10, 2) := by decide +kernel
theorem dL_isSo_491 : decode cL_isSo 491 = .ok (.iload 11, 2) := by decide +kernel
theorem dL_isSo_493 : decode cL_isSo 493 = .ok (.ishr, 1) := by decide +kernel
theorem dL_isSo_494 : decode cL_isSo 494 = .ok (.iconst 1, 1) := by decide +kernel
theorem dL_isSo_495 : decode cL_isSo 495 = .ok (.iand, 1) := by decide +kernel
theorem dL_isSo_496 : decode cL_isSo 496 = .ok (.ifCond .ne 29, 3) := by decide +kernel
theorem dL_isSo_499 : decode cL_isSo 499 = .ok (.aload_n 2, 1) := by decide +kernel
theorem dL_isSo_500 : decode cL_isSo 500 = .ok (.iload 11, 2) := by decide +kernel
theorem dL_isSo_502 : decode cL_isSo 502 = .ok (.iaload, 1) := by decide +kernel
theorem dL_isSo_503 : decode cL_isSo 503 = .ok (.iload 10, 2) := by decide +kernel
theorem dL_isSo_505 : decode cL_isSo 505 = .ok (.iconst (-1), 1) := by decide +kernel
theorem dL_isSo_506 : decode cL_isSo 506 = .ok (.ixor, 1) := by decide +kernel
theorem dL_isSo_507 : decode cL_isSo 507 = .ok (.iand, 1) := by decide +kernel
theorem dL_isSo_508 : decode cL_isSo 508 = .ok (.iconst 1, 1) := by decide +kernel
theorem dL_isSo_509 : decode cL_isSo 509 = .ok (.iload 13, 2) := by decide +kernel
theorem dL_isSo_511 : decode cL_isSo 511 = .ok (.ishl, 1) := by decide +kernel
theorem dL_isSo_512 : decode cL_isSo 512 = .ok (.iand, 1) := by decide +kernel
theorem dL_isSo_513 : decode cL_isSo 513 = .ok (.ifCond .eq 12, 3) := by decide +kernel
theorem dL_isSo_516 : decode cL_isSo 516 = .ok (.aload_n 0, 1) := by decide +kernel
theorem dL_isSo_517 : decode cL_isSo 517 = .ok (.iload 13, 2) := by decide +kernel
theorem dL_isSo_519 : decode cL_isSo 519 = .ok (.invokevirtual 15, 3) := by decide +kernel
theorem dL_isSo_522 : decode cL_isSo 522 = .ok (.goto 5, 3) := by decide +kernel
theorem dL_isSo_525 : decode cL_isSo 525 = .ok (.iload 12, 2) := by decide +kernel
theorem dL_isSo_527 : decode cL_isSo 527 = .ok (.istore 12, 2) := by decide +kernel
theorem dL_isSo_529 : decode cL_isSo 529 = .ok (.iinc 13 (-1), 3) := by decide +kernel
theorem dL_isSo_532 : decode cL_isSo 532 = .ok (.goto (-48), 3) := by decide +kernel
theorem dL_isSo_535 : decode cL_isSo 535 = .ok (.aload_n 0, 1) := by decide +kernel
theorem dL_isSo_536 : decode cL_isSo 536 = .ok (.aload_n 0, 1) := by decide +kernel
theorem dL_isSo_537 : decode cL_isSo 537 = .ok (.iload 11, 2) := by decide +kernel
theorem dL_isSo_539 : decode cL_isSo 539 = .ok (.invokevirtual 15, 3) := by decide +kernel
theorem dL_isSo_542 : decode cL_isSo 542 = .ok (.invokevirtual 70, 3) := by decide +kernel
theorem dL_isSo_545 : decode cL_isSo 545 = .ok (.iload 12, 2) := by decide +kernel
theorem dL_isSo_547 : decode cL_isSo 547 = .ok (.if_icmp .ne 31, 3) := by decide +kernel
theorem dL_isSo_550 : decode cL_isSo 550 = .ok (.aload_n 0, 1) := by decide +kernel
theorem dL_isSo_551 : decode cL_isSo 551 = .ok (.aload_n 0, 1) := by decide +kernel
theorem dL_isSo_552 : decode cL_isSo 552 = .ok (.iload 11, 2) := by decide +kernel
theorem dL_isSo_554 : decode cL_isSo 554 = .ok (.invokevirtual 15, 3) := by decide +kernel
theorem dL_isSo_557 : decode cL_isSo 557 = .ok (.invokevirtual 73, 3) := by decide +kernel
theorem dL_isSo_560 : decode cL_isSo 560 = .ok (.aload_n 0, 1) := by decide +kernel
theorem dL_isSo_561 : decode cL_isSo 561 = .ok (.aload_n 1, 1) := by decide +kernel
theorem dL_isSo_562 : decode cL_isSo 562 = .ok (.aload_n 2, 1) := by decide +kernel
theorem dL_isSo_563 : decode cL_isSo 563 = .ok (.iload_n 3, 1) := by decide +kernel
theorem dL_isSo_564 : decode cL_isSo 564 = .ok (.iconst 1, 1) := by decide +kernel
theorem dL_isSo_565 : decode cL_isSo 565 = .ok (.iload 11, 2) := by decide +kernel
theorem dL_isSo_567 : decode cL_isSo 567 = .ok (.ishl, 1) := by decide +kernel
theorem dL_isSo_568 : decode cL_isSo 568 = .ok (.iconst 0, 1) := by decide +kernel
theorem dL_isSo_569 : decode cL_isSo 569 = .ok (.invokestatic 67, 3) := by decide +kernel
theorem dL_isSo_572 : decode cL_isSo 572 = .ok (.invokestatic 56, 3) := by decide +kernel
theorem dL_isSo_575 : decode cL_isSo 575 = .ok (.if_icmp .eq 5, 3) := by decide +kernel
theorem dL_isSo_578 : decode cL_isSo 578 = .ok (.iconst 0, 1) := by decide +kernel
theorem dL_isSo_579 : decode cL_isSo 579 = .ok (.ireturn, 1) := by decide +kernel
theorem dL_isSo_580 : decode cL_isSo 580 = .ok (.iinc 11 1, 3) := by decide +kernel
theorem dL_isSo_583 : decode cL_isSo 583 = .ok (.goto (-119), 3) := by decide +kernel
theorem dL_isSo_586 : decode cL_isSo 586 = .ok (.iload 10, 2) := by decide +kernel
theorem dL_isSo_588 : decode cL_isSo 588 = .ok (.ifCond .lt 128, 3) := by decide +kernel
theorem dL_isSo_591 : decode cL_isSo 591 = .ok (.aload_n 0, 1) := by decide +kernel
theorem dL_isSo_592 : decode cL_isSo 592 = .ok (.iconst 2, 1) := by decide +kernel
theorem dL_isSo_593 : decode cL_isSo 593 = .ok (.invokevirtual 9, 3) := by decide +kernel
theorem dL_isSo_596 : decode cL_isSo 596 = .ok (.iload 4, 2) := by decide +kernel
theorem dL_isSo_598 : decode cL_isSo 598 = .ok (.if_icmp .ne 118, 3) := by decide +kernel
theorem dL_isSo_601 : decode cL_isSo 601 = .ok (.aload_n 0, 1) := by decide +kernel
theorem dL_isSo_602 : decode cL_isSo 602 = .ok (.iconst 3, 1) := by decide +kernel
theorem dL_isSo_603 : decode cL_isSo 603 = .ok (.invokevirtual 9, 3) := by decide +kernel
theorem dL_isSo_606 : decode cL_isSo 606 = .ok (.iload 10, 2) := by decide +kernel
theorem dL_isSo_608 : decode cL_isSo 608 = .ok (.invokestatic 56, 3) := by decide +kernel
theorem dL_isSo_611 : decode cL_isSo 611 = .ok (.if_icmp .ne 105, 3) := by decide +kernel
theorem dL_isSo_614 : decode cL_isSo 614 = .ok (.aload_n 0, 1) := by decide +kernel
theorem dL_isSo_615 : decode cL_isSo 615 = .ok (.iconst 4, 1) := by decide +kernel
theorem dL_isSo_616 : decode cL_isSo 616 = .ok (.invokevirtual 9, 3) := by decide +kernel
theorem dL_isSo_619 : decode cL_isSo 619 = .ok (.iload 5, 2) := by decide +kernel
theorem dL_isSo_621 : decode cL_isSo 621 = .ok (.if_icmp .ne 95, 3) := by decide +kernel
theorem dL_isSo_624 : decode cL_isSo 624 = .ok (.aload_n 0, 1) := by decide +kernel
theorem dL_isSo_625 : decode cL_isSo 625 = .ok (.iconst 5, 1) := by decide +kernel
theorem dL_isSo_626 : decode cL_isSo 626 = .ok (.invokevirtual 9, 3) := by decide +kernel
theorem dL_isSo_629 : decode cL_isSo 629 = .ok (.iload 6, 2) := by decide +kernel
theorem dL_isSo_631 : decode cL_isSo 631 = .ok (.if_icmp .ne 85, 3) := by decide +kernel
theorem dL_isSo_634 : decode cL_isSo 634 = .ok (.aload_n 0, 1) := by decide +kernel
theorem dL_isSo_635 : decode cL_isSo 635 = .ok (.bipush 6, 2) := by decide +kernel
theorem dL_isSo_637 : decode cL_isSo 637 = .ok (.invokevirtual 9, 3) := by decide +kernel
theorem dL_isSo_640 : decode cL_isSo 640 = .ok (.iload 9, 2) := by decide +kernel
theorem dL_isSo_642 : decode cL_isSo 642 = .ok (.if_icmp .ne 74, 3) := by decide +kernel
theorem dL_isSo_645 : decode cL_isSo 645 = .ok (.aload_n 0, 1) := by decide +kernel
theorem dL_isSo_646 : decode cL_isSo 646 = .ok (.bipush 8, 2) := by decide +kernel
theorem dL_isSo_648 : decode cL_isSo 648 = .ok (.invokevirtual 9, 3) := by decide +kernel
theorem dL_isSo_651 : decode cL_isSo 651 = .ok (.iload 7, 2) := by decide +kernel
theorem dL_isSo_653 : decode cL_isSo 653 = .ok (.if_icmp .ne 63, 3) := by decide +kernel
theorem dL_isSo_656 : decode cL_isSo 656 = .ok (.aload_n 0, 1) := by decide +kernel
theorem dL_isSo_657 : decode cL_isSo 657 = .ok (.bipush 9, 2) := by decide +kernel
theorem dL_isSo_659 : decode cL_isSo 659 = .ok (.invokevirtual 9, 3) := by decide +kernel
theorem dL_isSo_662 : decode cL_isSo 662 = .ok (.iload 8, 2) := by decide +kernel
theorem dL_isSo_664 : decode cL_isSo 664 = .ok (.if_icmp .ne 52, 3) := by decide +kernel
theorem dL_isSo_667 : decode cL_isSo 667 = .ok (.aload_n 0, 1) := by decide +kernel
theorem dL_isSo_668 : decode cL_isSo 668 = .ok (.iload_n 3, 1) := by decide +kernel
theorem dL_isSo_669 : decode cL_isSo 669 = .ok (.invokevirtual 15, 3) := by decide +kernel
theorem dL_isSo_672 : decode cL_isSo 672 = .ok (.bipush (-5), 2) := by decide +kernel
theorem dL_isSo_674 : decode cL_isSo 674 = .ok (.if_icmp .ne 42, 3) := by decide +kernel
theorem dL_isSo_677 : decode cL_isSo 677 = .ok (.aload_n 0, 1) := by decide +kernel
theorem dL_isSo_678 : decode cL_isSo 678 = .ok (.iconst (-1), 1) := by decide +kernel
theorem dL_isSo_679 : decode cL_isSo 679 = .ok (.invokevirtual 15, 3) := by decide +kernel
theorem dL_isSo_682 : decode cL_isSo 682 = .ok (.bipush (-2), 2) := by decide +kernel
theorem dL_isSo_684 : decode cL_isSo 684 = .ok (.if_icmp .ne 32, 3) := by decide +kernel
theorem dL_isSo_687 : decode cL_isSo 687 = .ok (.iload 5, 2) := by decide +kernel
theorem dL_isSo_689 : decode cL_isSo 689 = .ok (.ifCond .gt 12, 3) := by decide +kernel
theorem dL_isSo_692 : decode cL_isSo 692 = .ok (.aload_n 0, 1) := by decide +kernel
theorem dL_isSo_693 : decode cL_isSo 693 = .ok (.iconst 3, 1) := by decide +kernel
theorem dL_isSo_694 : decode cL_isSo 694 = .ok (.invokevirtual 9, 3) := by decide +kernel
theorem dL_isSo_697 : decode cL_isSo 697 = .ok (.iload_n 3, 1) := by decide +kernel
theorem dL_isSo_698 : decode cL_isSo 698 = .ok (.if_icmp .ne 18, 3) := by decide +kernel
theorem dL_isSo_701 : decode cL_isSo 701 = .ok (.aload_n 0, 1) := by decide +kernel
theorem dL_isSo_702 : decode cL_isSo 702 = .ok (.bipush 13, 2) := by decide +kernel
theorem dL_isSo_704 : decode cL_isSo 704 = .ok (.invokevirtual 9, 3) := by decide +kernel
theorem dL_isSo_707 : decode cL_isSo 707 = .ok (.bipush (-2), 2) := by decide +kernel
theorem dL_isSo_709 : decode cL_isSo 709 = .ok (.if_icmp .ne 7, 3) := by decide +kernel
theorem dL_isSo_712 : decode cL_isSo 712 = .ok (.iconst 1, 1) := by decide +kernel
theorem dL_isSo_713 : decode cL_isSo 713 = .ok (.goto 4, 3) := by decide +kernel
theorem dL_isSo_716 : decode cL_isSo 716 = .ok (.iconst 0, 1) := by decide +kernel
theorem dL_isSo_717 : decode cL_isSo 717 = .ok (.ireturn, 1) := by decide +kernel
theorem dL_act_0 : decode cL_act 0 = .ok (.aload_n 0, 1) := by decide +kernel
theorem dL_act_1 : decode cL_act 1 = .ok (.iconst 0, 1) := by decide +kernel
theorem dL_act_2 : decode cL_act 2 = .ok (.invokevirtual 9, 3) := by decide +kernel
theorem dL_act_5 : decode cL_act 5 = .ok (.istore_n 3, 1) := by decide +kernel
theorem dL_act_6 : decode cL_act 6 = .ok (.iload_n 3, 1) := by decide +kernel
theorem dL_act_7 : decode cL_act 7 = .ok (.ifCond .ne 7, 3) := by decide +kernel
theorem dL_act_10 : decode cL_act 10 = .ok (.iconst 0, 1) := by decide +kernel
theorem dL_act_11 : decode cL_act 11 = .ok (.goto 12, 3) := by decide +kernel
theorem dL_act_14 : decode cL_act 14 = .ok (.aload_n 0, 1) := by decide +kernel
theorem dL_act_15 : decode cL_act 15 = .ok (.iload_n 2, 1) := by decide +kernel
theorem dL_act_16 : decode cL_act 16 = .ok (.iload_n 3, 1) := by decide +kernel
theorem dL_act_17 : decode cL_act 17 = .ok (.invokestatic 76, 3) := by decide +kernel
theorem dL_act_20 : decode cL_act 20 = .ok (.invokevirtual 15, 3) := by decide +kernel
theorem dL_act_23 : decode cL_act 23 = .ok (.istore 4, 2) := by decide +kernel
theorem dL_act_25 : decode cL_act 25 = .ok (.iload_n 2, 1) := by decide +kernel
theorem dL_act_26 : decode cL_act 26 = .ok (.iconst 4, 1) := by decide +kernel
theorem dL_act_27 : decode cL_act 27 = .ok (.ishr, 1) := by decide +kernel
theorem dL_act_28 : decode cL_act 28 = .ok (.iconst 3, 1) := by decide +kernel
theorem dL_act_29 : decode cL_act 29 = .ok (.invokestatic 76, 3) := by decide +kernel
theorem dL_act_32 : decode cL_act 32 = .ok (.istore 5, 2) := by decide +kernel
theorem dL_act_34 : decode cL_act 34 = .ok (.iload_n 1, 1) := by decide +kernel
theorem dL_act_35 : decode cL_act 35 = .ok (.bipush 12, 2) := by decide +kernel
theorem dL_act_37 : decode cL_act 37 = .ok (.invokestatic 76, 3) := by decide +kernel
theorem dL_act_40 : decode cL_act 40 = .ok (.tableswitch 261 0 10 #[60, 60, 60, 60, 174, 181, 181, 201, 208, 241, 256], 60) := by decide +kernel
theorem dL_act_100 : decode cL_act 100 = .ok (.iload_n 1, 1) := by decide +kernel
theorem dL_act_101 : decode cL_act 101 = .ok (.iconst 4, 1) := by decide +kernel
theorem dL_act_102 : decode cL_act 102 = .ok (.ishr, 1) := by decide +kernel
theorem dL_act_103 : decode cL_act 103 = .ok (.iconst 4, 1) := by decide +kernel
theorem dL_act_104 : decode cL_act 104 = .ok (.invokestatic 76, 3) := by decide +kernel
theorem dL_act_107 : decode cL_act 107 = .ok (.istore 6, 2) := by decide +kernel
theorem dL_act_109 : decode cL_act 109 = .ok (.iload_n 3, 1) := by decide +kernel
theorem dL_act_110 : decode cL_act 110 = .ok (.bipush 10, 2) := by decide +kernel
theorem dL_act_112 : decode cL_act 112 = .ok (.if_icmp .ne 12, 3) := by decide +kernel
theorem dL_act_115 : decode cL_act 115 = .ok (.aload_n 0, 1) := by decide +kernel
theorem dL_act_116 : decode cL_act 116 = .ok (.iload 4, 2) := by decide +kernel
theorem dL_act_118 : decode cL_act 118 = .ok (.invokevirtual 79, 3) := by decide +kernel
theorem dL_act_121 : decode cL_act 121 = .ok (.goto 92, 3) := by decide +kernel
theorem dL_act_124 : decode cL_act 124 = .ok (.aload_n 0, 1) := by decide +kernel
theorem dL_act_125 : decode cL_act 125 = .ok (.iload_n 2, 1) := by decide +kernel
theorem dL_act_126 : decode cL_act 126 = .ok (.bipush 7, 2) := by decide +kernel
theorem dL_act_128 : decode cL_act 128 = .ok (.invokestatic 76, 3) := by decide +kernel
theorem dL_act_131 : decode cL_act 131 = .ok (.iload_n 2, 1) := by decide +kernel
theorem dL_act_132 : decode cL_act 132 = .ok (.iconst 3, 1) := by decide +kernel
theorem dL_act_133 : decode cL_act 133 = .ok (.ishr, 1) := by decide +kernel
theorem dL_act_134 : decode cL_act 134 = .ok (.bipush 7, 2) := by decide +kernel
theorem dL_act_136 : decode cL_act 136 = .ok (.invokestatic 76, 3) := by decide +kernel
theorem dL_act_139 : decode cL_act 139 = .ok (.iload_n 2, 1) := by decide +kernel
theorem dL_act_140 : decode cL_act 140 = .ok (.bipush 6, 2) := by decide +kernel
theorem dL_act_142 : decode cL_act 142 = .ok (.ishr, 1) := by decide +kernel
theorem dL_act_143 : decode cL_act 143 = .ok (.bipush 7, 2) := by decide +kernel
theorem dL_act_145 : decode cL_act 145 = .ok (.invokestatic 76, 3) := by decide +kernel
theorem dL_act_148 : decode cL_act 148 = .ok (.iload 6, 2) := by decide +kernel
theorem dL_act_150 : decode cL_act 150 = .ok (.ifCond .ne 8, 3) := by decide +kernel
theorem dL_act_153 : decode cL_act 153 = .ok (.bipush 8, 2) := by decide +kernel
theorem dL_act_155 : decode cL_act 155 = .ok (.goto 13, 3) := by decide +kernel
theorem dL_act_158 : decode cL_act 158 = .ok (.iconst 1, 1) := by decide +kernel
theorem dL_act_159 : decode cL_act 159 = .ok (.iload_n 2, 1) := by decide +kernel
theorem dL_act_160 : decode cL_act 160 = .ok (.bipush 9, 2) := by decide +kernel
theorem dL_act_162 : decode cL_act 162 = .ok (.ishr, 1) := by decide +kernel
theorem dL_act_163 : decode cL_act 163 = .ok (.iconst 3, 1) := by decide +kernel
theorem dL_act_164 : decode cL_act 164 = .ok (.invokestatic 76, 3) := by decide +kernel
theorem dL_act_167 : decode cL_act 167 = .ok (.iadd, 1) := by decide +kernel
theorem dL_act_168 : decode cL_act 168 = .ok (.iload 6, 2) := by decide +kernel
theorem dL_act_170 : decode cL_act 170 = .ok (.iconst 1, 1) := by decide +kernel
theorem dL_act_171 : decode cL_act 171 = .ok (.if_icmp .ne 8, 3) := by decide +kernel
theorem dL_act_174 : decode cL_act 174 = .ok (.bipush 8, 2) := by decide +kernel
theorem dL_act_176 : decode cL_act 176 = .ok (.goto 13, 3) := by decide +kernel
theorem dL_act_179 : decode cL_act 179 = .ok (.iconst 1, 1) := by decide +kernel
theorem dL_act_180 : decode cL_act 180 = .ok (.iload_n 2, 1) := by decide +kernel
theorem dL_act_181 : decode cL_act 181 = .ok (.bipush 11, 2) := by decide +kernel
theorem dL_act_183 : decode cL_act 183 = .ok (.ishr, 1) := by decide +kernel
theorem dL_act_184 : decode cL_act 184 = .ok (.iconst 3, 1) := by decide +kernel
theorem dL_act_185 : decode cL_act 185 = .ok (.invokestatic 76, 3) := by decide +kernel
theorem dL_act_188 : decode cL_act 188 = .ok (.iadd, 1) := by decide +kernel
theorem dL_act_189 : decode cL_act 189 = .ok (.iload 6, 2) := by decide +kernel
theorem dL_act_191 : decode cL_act 191 = .ok (.iconst 2, 1) := by decide +kernel
theorem dL_act_192 : decode cL_act 192 = .ok (.if_icmp .ne 8, 3) := by decide +kernel
theorem dL_act_195 : decode cL_act 195 = .ok (.bipush 8, 2) := by decide +kernel
theorem dL_act_197 : decode cL_act 197 = .ok (.goto 13, 3) := by decide +kernel
theorem dL_act_200 : decode cL_act 200 = .ok (.iconst 1, 1) := by decide +kernel
theorem dL_act_201 : decode cL_act 201 = .ok (.iload_n 2, 1) := by decide +kernel
theorem dL_act_202 : decode cL_act 202 = .ok (.bipush 13, 2) := by decide +kernel
theorem dL_act_204 : decode cL_act 204 = .ok (.ishr, 1) := by decide +kernel
theorem dL_act_205 : decode cL_act 205 = .ok (.iconst 3, 1) := by decide +kernel
theorem dL_act_206 : decode cL_act 206 = .ok (.invokestatic 76, 3) := by decide +kernel
theorem dL_act_209 : decode cL_act 209 = .ok (.iadd, 1) := by decide +kernel
theorem dL_act_210 : decode cL_act 210 = .ok (.invokevirtual 82, 3) := by decide +kernel
theorem dL_act_213 : decode cL_act 213 = .ok (.ireturn, 1) := by decide +kernel
theorem dL_act_214 : decode cL_act 214 = .ok (.aload_n 0, 1) := by decide +kernel
theorem dL_act_215 : decode cL_act 215 = .ok (.iload 4, 2) := by decide +kernel
theorem dL_act_217 : decode cL_act 217 = .ok (.invokevirtual 79, 3) := by decide +kernel
theorem dL_act_220 : decode cL_act 220 = .ok (.ireturn, 1) := by decide +kernel
theorem dL_act_221 : decode cL_act 221 = .ok (.aload_n 0, 1) := by decide +kernel
theorem dL_act_222 : decode cL_act 222 = .ok (.iload 4, 2) := by decide +kernel
theorem dL_act_224 : decode cL_act 224 = .ok (.iload 5, 2) := by decide +kernel
theorem dL_act_226 : decode cL_act 226 = .ok (.iload_n 2, 1) := by decide +kernel
theorem dL_act_227 : decode cL_act 227 = .ok (.bipush 6, 2) := by decide +kernel
theorem dL_act_229 : decode cL_act 229 = .ok (.ishr, 1) := by decide +kernel
theorem dL_act_230 : decode cL_act 230 = .ok (.bipush 9, 2) := by decide +kernel
theorem dL_act_232 : decode cL_act 232 = .ok (.invokestatic 76, 3) := by decide +kernel
theorem dL_act_235 : decode cL_act 235 = .ok (.iconst 4, 1) := by decide +kernel
theorem dL_act_236 : decode cL_act 236 = .ok (.isub, 1) := by decide +kernel
theorem dL_act_237 : decode cL_act 237 = .ok (.invokevirtual 86, 3) := by decide +kernel
theorem dL_act_240 : decode cL_act 240 = .ok (.ireturn, 1) := by decide +kernel
theorem dL_act_241 : decode cL_act 241 = .ok (.aload_n 0, 1) := by decide +kernel
theorem dL_act_242 : decode cL_act 242 = .ok (.iload 4, 2) := by decide +kernel
theorem dL_act_244 : decode cL_act 244 = .ok (.invokevirtual 90, 3) := by decide +kernel
theorem dL_act_247 : decode cL_act 247 = .ok (.ireturn, 1) := by decide +kernel
theorem dL_act_248 : decode cL_act 248 = .ok (.iload_n 3, 1) := by decide +kernel
theorem dL_act_249 : decode cL_act 249 = .ok (.bipush 10, 2) := by decide +kernel
theorem dL_act_251 : decode cL_act 251 = .ok (.if_icmp .ne 12, 3) := by decide +kernel
theorem dL_act_254 : decode cL_act 254 = .ok (.aload_n 0, 1) := by decide +kernel
theorem dL_act_255 : decode cL_act 255 = .ok (.iload 4, 2) := by decide +kernel
theorem dL_act_257 : decode cL_act 257 = .ok (.invokevirtual 90, 3) := by decide +kernel
theorem dL_act_260 : decode cL_act 260 = .ok (.goto 20, 3) := by decide +kernel
theorem dL_act_263 : decode cL_act 263 = .ok (.aload_n 0, 1) := by decide +kernel
theorem dL_act_264 : decode cL_act 264 = .ok (.iload 4, 2) := by decide +kernel
theorem dL_act_266 : decode cL_act 266 = .ok (.iload 5, 2) := by decide +kernel
theorem dL_act_268 : decode cL_act 268 = .ok (.iload_n 2, 1) := by decide +kernel
theorem dL_act_269 : decode cL_act 269 = .ok (.bipush 6, 2) := by decide +kernel
theorem dL_act_271 : decode cL_act 271 = .ok (.ishr, 1) := by decide +kernel
theorem dL_act_272 : decode cL_act 272 = .ok (.bipush 14, 2) := by decide +kernel
theorem dL_act_274 : decode cL_act 274 = .ok (.invokestatic 76, 3) := by decide +kernel
theorem dL_act_277 : decode cL_act 277 = .ok (.invokevirtual 93, 3) := by decide +kernel
theorem dL_act_280 : decode cL_act 280 = .ok (.ireturn, 1) := by decide +kernel
theorem dL_act_281 : decode cL_act 281 = .ok (.iload_n 3, 1) := by decide +kernel
theorem dL_act_282 : decode cL_act 282 = .ok (.bipush 10, 2) := by decide +kernel
theorem dL_act_284 : decode cL_act 284 = .ok (.if_icmp .ne 7, 3) := by decide +kernel
theorem dL_act_287 : decode cL_act 287 = .ok (.iconst 0, 1) := by decide +kernel
theorem dL_act_288 : decode cL_act 288 = .ok (.goto 7, 3) := by decide +kernel
theorem dL_act_291 : decode cL_act 291 = .ok (.aload_n 0, 1) := by decide +kernel
theorem dL_act_292 : decode cL_act 292 = .ok (.invokevirtual 96, 3) := by decide +kernel
theorem dL_act_295 : decode cL_act 295 = .ok (.ireturn, 1) := by decide +kernel
theorem dL_act_296 : decode cL_act 296 = .ok (.aload_n 0, 1) := by decide +kernel
theorem dL_act_297 : decode cL_act 297 = .ok (.invokevirtual 100, 3) := by decide +kernel
theorem dL_act_300 : decode cL_act 300 = .ok (.ireturn, 1) := by decide +kernel
theorem dL_act_301 : decode cL_act 301 = .ok (.aload_n 0, 1) := by decide +kernel
theorem dL_act_302 : decode cL_act 302 = .ok (.iconst 0, 1) := by decide +kernel
theorem dL_act_303 : decode cL_act 303 = .ok (.iload_n 2, 1) := by decide +kernel
theorem dL_act_304 : decode cL_act 304 = .ok (.iconst 3, 1) := by decide +kernel
theorem dL_act_305 : decode cL_act 305 = .ok (.invokestatic 76, 3) := by decide +kernel
theorem dL_act_308 : decode cL_act 308 = .ok (.invokevirtual 103, 3) := by decide +kernel
theorem dL_act_311 : decode cL_act 311 = .ok (.ireturn, 1) := by decide +kernel
