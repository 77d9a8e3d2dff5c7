theorem dL_isBox_198 : decode cL_isBox 198 = .ok (.iadd, 1) := by decide +kernel
theorem dL_isBox_199 : decode cL_isBox 199 = .ok (.iaload, 1) := by decide +kernel
theorem dL_isBox_200 : decode cL_isBox 200 = .ok (.istore 11, 2) := by decide +kernel
theorem dL_isBox_202 : decode cL_isBox 202 = .ok (.iload 11, 2) := by decide +kernel
theorem dL_isBox_204 : decode cL_isBox 204 = .ok (.aload_n 1, 1) := by decide +kernel
theorem dL_isBox_205 : decode cL_isBox 205 = .ok (.bipush 6, 2) := by decide +kernel
theorem dL_isBox_207 : decode cL_isBox 207 = .ok (.iload 4, 2) := by decide +kernel
theorem dL_isBox_209 : decode cL_isBox 209 = .ok (.imul, 1) := by decide +kernel
theorem dL_isBox_210 : decode cL_isBox 210 = .ok (.iconst 4, 1) := by decide +kernel
theorem dL_isBox_211 : decode cL_isBox 211 = .ok (.iadd, 1) := by decide +kernel
theorem dL_isBox_212 : decode cL_isBox 212 = .ok (.iaload, 1) := by decide +kernel
theorem dL_isBox_213 : decode cL_isBox 213 = .ok (.if_icmp .ge 136, 3) := by decide +kernel
theorem dL_isBox_216 : decode cL_isBox 216 = .ok (.iconst 0, 1) := by decide +kernel
theorem dL_isBox_217 : decode cL_isBox 217 = .ok (.istore 12, 2) := by decide +kernel
theorem dL_isBox_219 : decode cL_isBox 219 = .ok (.iconst 0, 1) := by decide +kernel
theorem dL_isBox_220 : decode cL_isBox 220 = .ok (.istore 13, 2) := by decide +kernel
theorem dL_isBox_222 : decode cL_isBox 222 = .ok (.iload 13, 2) := by decide +kernel
theorem dL_isBox_224 : decode cL_isBox 224 = .ok (.iload_n 3, 1) := by decide +kernel
theorem dL_isBox_225 : decode cL_isBox 225 = .ok (.if_icmp .ge 103, 3) := by decide +kernel
theorem dL_isBox_228 : decode cL_isBox 228 = .ok (.iload 12, 2) := by decide +kernel
theorem dL_isBox_230 : decode cL_isBox 230 = .ok (.ifCond .ne 85, 3) := by decide +kernel
theorem dL_isBox_233 : decode cL_isBox 233 = .ok (.iload 13, 2) := by decide +kernel
theorem dL_isBox_235 : decode cL_isBox 235 = .ok (.iload 4, 2) := by decide +kernel
theorem dL_isBox_237 : decode cL_isBox 237 = .ok (.if_icmp .eq 82, 3) := by decide +kernel
theorem dL_isBox_240 : decode cL_isBox 240 = .ok (.aload_n 1, 1) := by decide +kernel
theorem dL_isBox_241 : decode cL_isBox 241 = .ok (.bipush 6, 2) := by decide +kernel
theorem dL_isBox_243 : decode cL_isBox 243 = .ok (.iload 13, 2) := by decide +kernel
theorem dL_isBox_245 : decode cL_isBox 245 = .ok (.imul, 1) := by decide +kernel
theorem dL_isBox_246 : decode cL_isBox 246 = .ok (.iconst 2, 1) := by decide +kernel
theorem dL_isBox_247 : decode cL_isBox 247 = .ok (.iadd, 1) := by decide +kernel
theorem dL_isBox_248 : decode cL_isBox 248 = .ok (.iaload, 1) := by decide +kernel
theorem dL_isBox_249 : decode cL_isBox 249 = .ok (.aload_n 1, 1) := by decide +kernel
theorem dL_isBox_250 : decode cL_isBox 250 = .ok (.bipush 6, 2) := by decide +kernel
theorem dL_isBox_252 : decode cL_isBox 252 = .ok (.iload 4, 2) := by decide +kernel
theorem dL_isBox_254 : decode cL_isBox 254 = .ok (.imul, 1) := by decide +kernel
theorem dL_isBox_255 : decode cL_isBox 255 = .ok (.iconst 5, 1) := by decide +kernel
theorem dL_isBox_256 : decode cL_isBox 256 = .ok (.iadd, 1) := by decide +kernel
theorem dL_isBox_257 : decode cL_isBox 257 = .ok (.iaload, 1) := by decide +kernel
theorem dL_isBox_258 : decode cL_isBox 258 = .ok (.if_icmp .lt 61, 3) := by decide +kernel
theorem dL_isBox_261 : decode cL_isBox 261 = .ok (.aload_n 1, 1) := by decide +kernel
theorem dL_isBox_262 : decode cL_isBox 262 = .ok (.bipush 6, 2) := by decide +kernel
theorem dL_isBox_264 : decode cL_isBox 264 = .ok (.iload 13, 2) := by decide +kernel
theorem dL_isBox_266 : decode cL_isBox 266 = .ok (.imul, 1) := by decide +kernel
theorem dL_isBox_267 : decode cL_isBox 267 = .ok (.iaload, 1) := by decide +kernel
theorem dL_isBox_268 : decode cL_isBox 268 = .ok (.iload 10, 2) := by decide +kernel
theorem dL_isBox_270 : decode cL_isBox 270 = .ok (.if_icmp .gt 49, 3) := by decide +kernel
theorem dL_isBox_273 : decode cL_isBox 273 = .ok (.iload 10, 2) := by decide +kernel
theorem dL_isBox_275 : decode cL_isBox 275 = .ok (.aload_n 1, 1) := by decide +kernel
theorem dL_isBox_276 : decode cL_isBox 276 = .ok (.bipush 6, 2) := by decide +kernel
theorem dL_isBox_278 : decode cL_isBox 278 = .ok (.iload 13, 2) := by decide +kernel
theorem dL_isBox_280 : decode cL_isBox 280 = .ok (.imul, 1) := by decide +kernel
theorem dL_isBox_281 : decode cL_isBox 281 = .ok (.iconst 3, 1) := by decide +kernel
theorem dL_isBox_282 : decode cL_isBox 282 = .ok (.iadd, 1) := by decide +kernel
theorem dL_isBox_283 : decode cL_isBox 283 = .ok (.iaload, 1) := by decide +kernel
theorem dL_isBox_284 : decode cL_isBox 284 = .ok (.if_icmp .ge 35, 3) := by decide +kernel
theorem dL_isBox_287 : decode cL_isBox 287 = .ok (.aload_n 1, 1) := by decide +kernel
theorem dL_isBox_288 : decode cL_isBox 288 = .ok (.bipush 6, 2) := by decide +kernel
theorem dL_isBox_290 : decode cL_isBox 290 = .ok (.iload 13, 2) := by decide +kernel
theorem dL_isBox_292 : decode cL_isBox 292 = .ok (.imul, 1) := by decide +kernel
theorem dL_isBox_293 : decode cL_isBox 293 = .ok (.iconst 1, 1) := by decide +kernel
theorem dL_isBox_294 : decode cL_isBox 294 = .ok (.iadd, 1) := by decide +kernel
theorem dL_isBox_295 : decode cL_isBox 295 = .ok (.iaload, 1) := by decide +kernel
theorem dL_isBox_296 : decode cL_isBox 296 = .ok (.iload 11, 2) := by decide +kernel
theorem dL_isBox_298 : decode cL_isBox 298 = .ok (.if_icmp .gt 21, 3) := by decide +kernel
theorem dL_isBox_301 : decode cL_isBox 301 = .ok (.iload 11, 2) := by decide +kernel
theorem dL_isBox_303 : decode cL_isBox 303 = .ok (.aload_n 1, 1) := by decide +kernel
theorem dL_isBox_304 : decode cL_isBox 304 = .ok (.bipush 6, 2) := by decide +kernel
theorem dL_isBox_306 : decode cL_isBox 306 = .ok (.iload 13, 2) := by decide +kernel
theorem dL_isBox_308 : decode cL_isBox 308 = .ok (.imul, 1) := by decide +kernel
theorem dL_isBox_309 : decode cL_isBox 309 = .ok (.iconst 4, 1) := by decide +kernel
theorem dL_isBox_310 : decode cL_isBox 310 = .ok (.iadd, 1) := by decide +kernel
theorem dL_isBox_311 : decode cL_isBox 311 = .ok (.iaload, 1) := by decide +kernel
theorem dL_isBox_312 : decode cL_isBox 312 = .ok (.if_icmp .ge 7, 3) := by decide +kernel
theorem dL_isBox_315 : decode cL_isBox 315 = .ok (.iconst 1, 1) := by decide +kernel
theorem dL_isBox_316 : decode cL_isBox 316 = .ok (.goto 4, 3) := by decide +kernel
theorem dL_isBox_319 : decode cL_isBox 319 = .ok (.iconst 0, 1) := by decide +kernel
theorem dL_isBox_320 : decode cL_isBox 320 = .ok (.istore 12, 2) := by decide +kernel
theorem dL_isBox_322 : decode cL_isBox 322 = .ok (.iinc 13 1, 3) := by decide +kernel
theorem dL_isBox_325 : decode cL_isBox 325 = .ok (.goto (-103), 3) := by decide +kernel
theorem dL_isBox_328 : decode cL_isBox 328 = .ok (.iload 9, 2) := by decide +kernel
theorem dL_isBox_330 : decode cL_isBox 330 = .ok (.iload 12, 2) := by decide +kernel
theorem dL_isBox_332 : decode cL_isBox 332 = .ok (.ifCond .eq 7, 3) := by decide +kernel
theorem dL_isBox_335 : decode cL_isBox 335 = .ok (.iconst 1, 1) := by decide +kernel
theorem dL_isBox_336 : decode cL_isBox 336 = .ok (.goto 4, 3) := by decide +kernel
theorem dL_isBox_339 : decode cL_isBox 339 = .ok (.iconst 0, 1) := by decide +kernel
theorem dL_isBox_340 : decode cL_isBox 340 = .ok (.iadd, 1) := by decide +kernel
theorem dL_isBox_341 : decode cL_isBox 341 = .ok (.istore 9, 2) := by decide +kernel
theorem dL_isBox_343 : decode cL_isBox 343 = .ok (.iinc 11 1, 3) := by decide +kernel
theorem dL_isBox_346 : decode cL_isBox 346 = .ok (.goto (-144), 3) := by decide +kernel
theorem dL_isBox_349 : decode cL_isBox 349 = .ok (.iinc 10 1, 3) := by decide +kernel
theorem dL_isBox_352 : decode cL_isBox 352 = .ok (.goto (-175), 3) := by decide +kernel
theorem dL_isBox_355 : decode cL_isBox 355 = .ok (.aload_n 2, 1) := by decide +kernel
theorem dL_isBox_356 : decode cL_isBox 356 = .ok (.iload_n 3, 1) := by decide +kernel
theorem dL_isBox_357 : decode cL_isBox 357 = .ok (.iload 4, 2) := by decide +kernel
theorem dL_isBox_359 : decode cL_isBox 359 = .ok (.invokestatic 50, 3) := by decide +kernel
theorem dL_isBox_362 : decode cL_isBox 362 = .ok (.istore 10, 2) := by decide +kernel
theorem dL_isBox_364 : decode cL_isBox 364 = .ok (.aload_n 0, 1) := by decide +kernel
theorem dL_isBox_365 : decode cL_isBox 365 = .ok (.iload 5, 2) := by decide +kernel
theorem dL_isBox_367 : decode cL_isBox 367 = .ok (.iconst 0, 1) := by decide +kernel
theorem dL_isBox_368 : decode cL_isBox 368 = .ok (.invokevirtual 53, 3) := by decide +kernel
theorem dL_isBox_371 : decode cL_isBox 371 = .ok (.aload_n 1, 1) := by decide +kernel
theorem dL_isBox_372 : decode cL_isBox 372 = .ok (.iload 4, 2) := by decide +kernel
theorem dL_isBox_374 : decode cL_isBox 374 = .ok (.invokestatic 32, 3) := by decide +kernel
theorem dL_isBox_377 : decode cL_isBox 377 = .ok (.if_icmp .ne 129, 3) := by decide +kernel
theorem dL_isBox_380 : decode cL_isBox 380 = .ok (.aload_n 0, 1) := by decide +kernel
theorem dL_isBox_381 : decode cL_isBox 381 = .ok (.iload 5, 2) := by decide +kernel
theorem dL_isBox_383 : decode cL_isBox 383 = .ok (.iconst 1, 1) := by decide +kernel
theorem dL_isBox_384 : decode cL_isBox 384 = .ok (.invokevirtual 53, 3) := by decide +kernel
theorem dL_isBox_387 : decode cL_isBox 387 = .ok (.aload_n 2, 1) := by decide +kernel
theorem dL_isBox_388 : decode cL_isBox 388 = .ok (.iload 4, 2) := by decide +kernel
theorem dL_isBox_390 : decode cL_isBox 390 = .ok (.iaload, 1) := by decide +kernel
theorem dL_isBox_391 : decode cL_isBox 391 = .ok (.invokestatic 56, 3) := by decide +kernel
theorem dL_isBox_394 : decode cL_isBox 394 = .ok (.if_icmp .ne 112, 3) := by decide +kernel
theorem dL_isBox_397 : decode cL_isBox 397 = .ok (.aload_n 0, 1) := by decide +kernel
theorem dL_isBox_398 : decode cL_isBox 398 = .ok (.iload 5, 2) := by decide +kernel
theorem dL_isBox_400 : decode cL_isBox 400 = .ok (.iconst 2, 1) := by decide +kernel
theorem dL_isBox_401 : decode cL_isBox 401 = .ok (.invokevirtual 53, 3) := by decide +kernel
theorem dL_isBox_404 : decode cL_isBox 404 = .ok (.iload 6, 2) := by decide +kernel
theorem dL_isBox_406 : decode cL_isBox 406 = .ok (.if_icmp .ne 100, 3) := by decide +kernel
theorem dL_isBox_409 : decode cL_isBox 409 = .ok (.aload_n 0, 1) := by decide +kernel
theorem dL_isBox_410 : decode cL_isBox 410 = .ok (.iload 5, 2) := by decide +kernel
theorem dL_isBox_412 : decode cL_isBox 412 = .ok (.iconst 4, 1) := by decide +kernel
theorem dL_isBox_413 : decode cL_isBox 413 = .ok (.invokevirtual 53, 3) := by decide +kernel
theorem dL_isBox_416 : decode cL_isBox 416 = .ok (.iload 10, 2) := by decide +kernel
theorem dL_isBox_418 : decode cL_isBox 418 = .ok (.ifCond .ge 8, 3) := by decide +kernel
theorem dL_isBox_421 : decode cL_isBox 421 = .ok (.bipush (-5), 2) := by decide +kernel
theorem dL_isBox_423 : decode cL_isBox 423 = .ok (.goto 5, 3) := by decide +kernel
theorem dL_isBox_426 : decode cL_isBox 426 = .ok (.iload 10, 2) := by decide +kernel
theorem dL_isBox_428 : decode cL_isBox 428 = .ok (.if_icmp .ne 78, 3) := by decide +kernel
theorem dL_isBox_431 : decode cL_isBox 431 = .ok (.aload_n 0, 1) := by decide +kernel
theorem dL_isBox_432 : decode cL_isBox 432 = .ok (.iload 5, 2) := by decide +kernel
theorem dL_isBox_434 : decode cL_isBox 434 = .ok (.iconst 5, 1) := by decide +kernel
theorem dL_isBox_435 : decode cL_isBox 435 = .ok (.invokevirtual 53, 3) := by decide +kernel
theorem dL_isBox_438 : decode cL_isBox 438 = .ok (.iload 8, 2) := by decide +kernel
theorem dL_isBox_440 : decode cL_isBox 440 = .ok (.if_icmp .ne 66, 3) := by decide +kernel
theorem dL_isBox_443 : decode cL_isBox 443 = .ok (.aload_n 0, 1) := by decide +kernel
theorem dL_isBox_444 : decode cL_isBox 444 = .ok (.iload 5, 2) := by decide +kernel
theorem dL_isBox_446 : decode cL_isBox 446 = .ok (.bipush 6, 2) := by decide +kernel
theorem dL_isBox_448 : decode cL_isBox 448 = .ok (.invokevirtual 53, 3) := by decide +kernel
theorem dL_isBox_451 : decode cL_isBox 451 = .ok (.iload 7, 2) := by decide +kernel
theorem dL_isBox_453 : decode cL_isBox 453 = .ok (.if_icmp .ne 53, 3) := by decide +kernel
theorem dL_isBox_456 : decode cL_isBox 456 = .ok (.aload_n 0, 1) := by decide +kernel
theorem dL_isBox_457 : decode cL_isBox 457 = .ok (.iload 5, 2) := by decide +kernel
theorem dL_isBox_459 : decode cL_isBox 459 = .ok (.bipush 7, 2) := by decide +kernel
theorem dL_isBox_461 : decode cL_isBox 461 = .ok (.invokevirtual 53, 3) := by decide +kernel
theorem dL_isBox_464 : decode cL_isBox 464 = .ok (.iload 9, 2) := by decide +kernel
theorem dL_isBox_466 : decode cL_isBox 466 = .ok (.if_icmp .ne 40, 3) := by decide +kernel
theorem dL_isBox_469 : decode cL_isBox 469 = .ok (.aload_n 0, 1) := by decide +kernel
theorem dL_isBox_470 : decode cL_isBox 470 = .ok (.iload 5, 2) := by decide +kernel
theorem dL_isBox_472 : decode cL_isBox 472 = .ok (.bipush 8, 2) := by decide +kernel
theorem dL_isBox_474 : decode cL_isBox 474 = .ok (.invokevirtual 53, 3) := by decide +kernel
theorem dL_isBox_477 : decode cL_isBox 477 = .ok (.aload_n 1, 1) := by decide +kernel
theorem dL_isBox_478 : decode cL_isBox 478 = .ok (.bipush 6, 2) := by decide +kernel
theorem dL_isBox_480 : decode cL_isBox 480 = .ok (.iload 4, 2) := by decide +kernel
theorem dL_isBox_482 : decode cL_isBox 482 = .ok (.imul, 1) := by decide +kernel
theorem dL_isBox_483 : decode cL_isBox 483 = .ok (.iconst 2, 1) := by decide +kernel
theorem dL_isBox_484 : decode cL_isBox 484 = .ok (.iadd, 1) := by decide +kernel
theorem dL_isBox_485 : decode cL_isBox 485 = .ok (.iaload, 1) := by decide +kernel
theorem dL_isBox_486 : decode cL_isBox 486 = .ok (.ifCond .eq 8, 3) := by decide +kernel
theorem dL_isBox_489 : decode cL_isBox 489 = .ok (.iload 8, 2) := by decide +kernel
theorem dL_isBox_491 : decode cL_isBox 491 = .ok (.ifCond .le 7, 3) := by decide +kernel
theorem dL_isBox_494 : decode cL_isBox 494 = .ok (.iconst 1, 1) := by decide +kernel
theorem dL_isBox_495 : decode cL_isBox 495 = .ok (.goto 4, 3) := by decide +kernel
theorem dL_isBox_498 : decode cL_isBox 498 = .ok (.iconst 0, 1) := by decide +kernel
theorem dL_isBox_499 : decode cL_isBox 499 = .ok (.if_icmp .ne 7, 3) := by decide +kernel
theorem dL_isBox_502 : decode cL_isBox 502 = .ok (.iconst 1, 1) := by decide +kernel
theorem dL_isBox_503 : decode cL_isBox 503 = .ok (.goto 4, 3) := by decide +kernel
theorem dL_isBox_506 : decode cL_isBox 506 = .ok (.iconst 0, 1) := by decide +kernel
theorem dL_isBox_507 : decode cL_isBox 507 = .ok (.ireturn, 1) := by decide +kernel
set_option maxRecDepth 20000 in
theorem ggL_isSo_L_read : GoodIn wsL_isSo wsL_read := goodIn_r _ [4, 5, 6, 7, 8, 9, 10, 11, 12, 13, 14, 15, 16, 17, 18, 19, 20, 21, 22, 23, 24, 25, 26, 27, 28, 29, 30, 31, 32, 33, 34, 35, 36, 37, 38, 39, 40, 41, 42, 43, 44, 45, 46, 47, 48, 49, 50, 51, 52, 53, 54, 55, 56, 57, 58, 59, 60, 61, 62, 63, 64, 65, 66, 67, 68, 69, 70, 71, 72, 73, 74, 75, 76, 77, 78, 79, 80, 81, 82, 83, 84, 85, 86, 87, 88, 89, 90, 91, 92, 93, 94, 95, 96, 97, 98, 99, 100, 101, 102, 103, 104, 105, 106, 107, 108, 109, 110, 111, 112, 113, 114, 115, 116, 117, 118, 119, 120, 121, 122, 123, 124, 125, 126, 127, 128, 129, 130, 131, 132, 133, 134, 135, 136, 137, 138, 139, 140, 141, 142, 143, 144, 145, 146, 147, 148, 149, 150, 151, 152, 153, 154, 155, 156, 157, 158, 159, 160, 161, 162, 163, 164, 165, 166, 167, 168, 169, 170, 171, 172, 173, 174, 175, 176, 177, 178, 179, 180, 181, 182, 183, 184, 185, 186, 187, 188, 189, 190, 191, 192, 193, 194, 195, 196, 197, 288, 289, 290, 291, 292, 293, 294, 295, 296, 297, 298, 299, 300, 301, 302, 303, 304, 305, 306, 307, 308, 309, 310, 311, 312, 313, 314, 315, 316, 317] (by decide +kernel) (by decide +kernel)
set_option maxRecDepth 20000 in
theorem gL_isSo_L_read : GoodIn wsL_isSo (va_wsS RL 59 yL_read wsL_read) := goodIn_app (goodIn_of _ (by decide +kernel)) ggL_isSo_L_read
set_option maxRecDepth 20000 in
theorem ggL_isSo_L_by : GoodIn wsL_isSo wsL_by := goodIn_r _ [200, 201, 202, 3, 203] (by decide +kernel) (by decide +kernel)
set_option maxRecDepth 20000 in
theorem gL_isSo_L_by : GoodIn wsL_isSo (va_wsS RL 46 yL_by wsL_by) := goodIn_app (goodIn_of _ (by decide +kernel)) ggL_isSo_L_by
set_option maxRecDepth 20000 in
theorem ggL_isSo_L_isAcross : GoodIn wsL_isSo wsL_isAcross := goodIn_r _ [206] (by decide +kernel) (by decide +kernel)
set_option maxRecDepth 20000 in
theorem gL_isSo_L_isAcross : GoodIn wsL_isSo (va_wsS RL 28 yL_isAcross wsL_isAcross) := goodIn_app (goodIn_of _ (by decide +kernel)) ggL_isSo_L_isAcross
set_option maxRecDepth 20000 in
theorem ggL_isSo_L_overlap : GoodIn wsL_isSo wsL_overlap := goodIn_r _ [203] (by decide +kernel) (by decide +kernel)
set_option maxRecDepth 20000 in
theorem gL_isSo_L_overlap : GoodIn wsL_isSo (va_wsS RL 22 yL_overlap wsL_overlap) := goodIn_app (goodIn_of _ (by decide +kernel)) ggL_isSo_L_overlap
set_option maxRecDepth 20000 in
theorem ggL_isSo_L_isBox : GoodIn wsL_isSo wsL_isBox := goodIn_r _ [209, 178, 179, 180, 8, 181, 10, 11, 182, 183, 210, 211, 3, 212, 204, 205, 206, 213, 214, 215, 216, 190, 191, 192, 83, 193, 150, 86, 194, 217, 38, 39, 40, 41, 42, 43, 44, 45, 46, 47, 48, 49, 50, 51, 198, 199, 200, 201, 202, 203, 218, 219, 220, 221, 222, 223, 224, 225, 189, 226, 92, 93, 94, 95, 96, 97, 98, 20, 21, 22, 23, 24, 25, 26, 27, 28, 29, 30, 31, 32, 33, 34, 35, 36, 37, 52, 53, 54, 55, 56, 57, 58, 59, 60, 61, 62, 63, 64, 65, 66, 67, 68, 69, 70, 71, 72, 73, 74, 75, 76, 77, 78, 79, 80, 81, 82, 84, 85, 87, 88, 89, 90, 91, 99, 100, 101, 102, 103, 104, 105, 106, 227, 112, 113, 114, 115, 116, 117, 118, 119, 120, 121, 228, 229, 230, 231, 232, 135, 136, 137, 138, 139, 140, 141, 233, 234, 235, 236, 160, 159, 161, 162, 163, 164, 165, 166, 167, 168, 237, 238, 239, 240, 241, 156, 157, 158, 169, 170, 171, 172, 173, 174, 175, 176, 177, 242, 243, 244, 245, 246, 247, 288, 289, 290, 291, 292, 293, 294, 295, 296, 297, 298, 299, 300, 301, 315, 316, 317, 302, 303, 304, 305, 306, 307, 308] (by decide +kernel) (by decide +kernel)
set_option maxRecDepth 20000 in
theorem gL_isSo_L_isBox : GoodIn wsL_isSo (va_wsS RL 63 yL_isBox wsL_isBox) := goodIn_app (goodIn_of _ (by decide +kernel)) ggL_isSo_L_isBox
set_option maxRecDepth 20000 in
theorem ggL_isSo_L_ring : GoodIn wsL_isSo wsL_ring := goodIn_r _ [220] (by decide +kernel) (by decide +kernel)
set_option maxRecDepth 20000 in
theorem gL_isSo_L_ring : GoodIn wsL_isSo (va_wsS RL 50 yL_ring wsL_ring) := goodIn_app (goodIn_of _ (by decide +kernel)) ggL_isSo_L_ring
set_option maxRecDepth 20000 in
theorem ggL_isSo_X5_box : GoodIn wsL_isSo wsX5_box := goodIn_r _ [181, 10, 11, 182, 183, 288, 289, 290, 291, 292, 293, 294, 295, 296, 297, 298, 299, 300, 301, 315, 316, 317] (by decide +kernel) (by decide +kernel)
set_option maxRecDepth 20000 in
theorem gL_isSo_X5_box : GoodIn wsL_isSo (wsV RL 15 RX5 yX5_box wsX5_box) := goodIn_app (goodIn_of _ (by decide +kernel)) ggL_isSo_X5_box
set_option maxRecDepth 20000 in
theorem ggL_isSo_X5_ofBox : GoodIn wsL_isSo wsX5_ofBox := goodIn_r _ [224, 10, 182, 225, 189, 190, 191, 192, 83, 193, 150, 86, 194, 226, 92, 93, 40, 94, 95, 96, 97, 98, 43, 42, 20, 21, 22, 8, 23, 24, 25, 26, 27, 28, 29, 30, 31, 32, 33, 34, 35, 36, 37, 38, 39, 41, 44, 45, 46, 47, 48, 49, 50, 51, 52, 53, 54, 55, 56, 57, 58, 59, 60, 61, 62, 63, 64, 65, 66, 67, 68, 69, 70, 71, 72, 73, 74, 75, 76, 77, 78, 79, 80, 81, 82, 84, 85, 87, 88, 89, 90, 91, 99, 100, 101, 102, 103, 104, 105, 106, 227, 112, 113, 114, 115, 116, 117, 118, 119, 120, 121, 228, 229, 230, 231, 232, 135, 136, 137, 138, 139, 140, 141, 233, 234, 235, 236, 160, 159, 161, 162, 163, 164, 165, 166, 167, 168, 237, 238, 239, 240, 241, 156, 157, 158, 169, 170, 171, 172, 173, 174, 175, 176, 177, 288, 289, 290, 291, 292, 293, 294, 295, 296, 297, 298, 299, 300, 301, 302, 303, 304, 305, 306, 307, 308, 315, 316, 317] (by decide +kernel) (by decide +kernel)
set_option maxRecDepth 20000 in
theorem gL_isSo_X5_ofBox : GoodIn wsL_isSo (wsV RL 53 RX5 yX5_ofBox wsX5_ofBox) := goodIn_app (goodIn_of _ (by decide +kernel)) ggL_isSo_X5_ofBox
set_option maxRecDepth 20000 in
theorem ggL_isSo_L_ones : GoodIn wsL_isSo wsL_ones := goodIn_r _ [247] (by decide +kernel) (by decide +kernel)
set_option maxRecDepth 20000 in
theorem gL_isSo_L_ones : GoodIn wsL_isSo (va_wsS RL 56 yL_ones wsL_ones) := goodIn_app (goodIn_of _ (by decide +kernel)) ggL_isSo_L_ones
set_option maxRecDepth 20000 in
theorem ggL_isSo_L_volume : GoodIn wsL_isSo wsL_volume := goodIn_r _ [244] (by decide +kernel) (by decide +kernel)
set_option maxRecDepth 20000 in
theorem gL_isSo_L_volume : GoodIn wsL_isSo (va_wsS RL 32 yL_volume wsL_volume) := goodIn_app (goodIn_of _ (by decide +kernel)) ggL_isSo_L_volume
set_option maxRecDepth 20000 in
theorem ggL_isSo_L_drawn : GoodIn wsL_isSo wsL_drawn := goodIn_r _ [250, 5, 6, 7, 8, 9, 10, 11, 12, 13, 14, 15, 16, 17, 18, 19, 20, 21, 22, 23, 24, 25, 26, 27, 28, 29, 30, 31, 32, 33, 34, 35, 36, 37, 38, 39, 40, 41, 42, 43, 44, 45, 46, 47, 48, 49, 50, 51, 52, 53, 54, 55, 56, 57, 58, 59, 60, 61, 62, 63, 64, 65, 66, 67, 68, 69, 70, 71, 72, 73, 74, 75, 76, 77, 78, 79, 80, 81, 82, 83, 84, 85, 86, 87, 88, 89, 90, 91, 92, 93, 94, 95, 96, 97, 98, 99, 100, 101, 102, 103, 104, 105, 106, 107, 108, 109, 110, 111, 112, 113, 114, 115, 116, 117, 118, 119, 120, 121, 122, 123, 124, 125, 126, 127, 128, 129, 130, 131, 132, 133, 134, 135, 136, 137, 138, 139, 140, 141, 142, 143, 144, 145, 146, 147, 148, 149, 150, 151, 152, 153, 154, 155, 156, 157, 158, 159, 160, 161, 162, 163, 164, 165, 166, 167, 168, 169, 170, 171, 172, 173, 174, 175, 176, 177, 242, 243, 3, 244, 251, 252, 253, 254, 182, 183, 255, 256, 257, 258, 178, 179, 180, 181, 288, 289, 290, 291, 292, 293, 294, 295, 296, 297, 298, 299, 300, 301, 302, 303, 304, 305, 306, 307, 308, 309, 310, 311, 312, 313, 314, 315, 316, 317] (by decide +kernel) (by decide +kernel)
set_option maxRecDepth 20000 in
theorem gL_isSo_L_drawn : GoodIn wsL_isSo (va_wsS RL 67 yL_drawn wsL_drawn) := goodIn_app (goodIn_of _ (by decide +kernel)) ggL_isSo_L_drawn
set_option maxRecDepth 20000 in
theorem ggL_isSo_X5_waitsFor : GoodIn wsL_isSo wsX5_waitsFor := goodIn_r _ [262, 10, 182, 183, 190, 191, 192, 83, 193, 150, 86, 194, 20, 21, 22, 8, 23, 24, 25, 26, 27, 28, 29, 30, 31, 32, 33, 34, 35, 36, 37, 38, 39, 40, 41, 42, 43, 44, 45, 46, 47, 48, 49, 50, 51, 52, 53, 54, 55, 56, 57, 58, 59, 60, 61, 62, 63, 64, 65, 66, 67, 68, 69, 70, 71, 72, 73, 74, 75, 76, 77, 78, 79, 80, 81, 82, 84, 85, 87, 88, 89, 90, 91, 92, 93, 94, 95, 96, 97, 98, 99, 100, 101, 102, 103, 104, 105, 106, 263, 264, 265, 266, 288, 289, 290, 291, 292, 293, 294, 295, 296, 297, 298, 299, 300, 301, 315, 316, 317, 302, 303, 304, 305, 306, 307, 308] (by decide +kernel) (by decide +kernel)
set_option maxRecDepth 20000 in
theorem gL_isSo_X5_waitsFor : GoodIn wsL_isSo (wsV RL 70 RX5 yX5_waitsFor wsX5_waitsFor) := goodIn_app (goodIn_of _ (by decide +kernel)) ggL_isSo_X5_waitsFor
set_option maxRecDepth 20000 in
theorem ggL_isSo_X5_drawnWithout : GoodIn wsL_isSo wsX5_drawnWithout := goodIn_r _ [270, 10, 271, 24, 13, 190, 191, 192, 83, 193, 150, 86, 194, 272, 273, 274, 275, 276, 277, 85, 278, 279, 280, 40, 281, 282, 42, 283, 58, 59, 60, 43, 284, 285, 286, 287, 25, 26, 27, 28, 29, 30, 31, 32, 33, 34, 35, 36, 37, 38, 39, 41, 44, 45, 46, 47, 48, 49, 50, 51, 52, 53, 54, 55, 56, 57, 61, 62, 63, 64, 65, 66, 67, 68, 69, 70, 71, 72, 73, 74, 75, 76, 77, 78, 79, 80, 81, 82, 84, 87, 88, 89, 90, 91, 92, 93, 94, 95, 96, 97, 98, 99, 100, 101, 102, 103, 104, 105, 106, 288, 289, 290, 291, 292, 293, 294, 295, 296, 302, 303, 304, 305, 306, 307, 308, 297, 298, 299, 300, 301, 315, 316, 317] (by decide +kernel) (by decide +kernel)
set_option maxRecDepth 20000 in
theorem gL_isSo_X5_drawnWithout : GoodIn wsL_isSo (wsV RL 73 RX5 yX5_drawnWithout wsX5_drawnWithout) := goodIn_app (goodIn_of _ (by decide +kernel)) ggL_isSo_X5_drawnWithout
set_option maxRecDepth 20000 in
theorem ggL_isSo_X5_total : GoodIn wsL_isSo wsX5_total := goodIn_r _ [9, 10, 11, 12, 13, 14, 15, 16, 17, 18, 19, 20, 21, 22, 8, 23, 24, 25, 26, 27, 28, 29, 30, 31, 32, 33, 34, 35, 36, 37, 38, 39, 40, 41, 42, 43, 44, 45, 46, 47, 48, 49, 50, 51, 52, 53, 54, 55, 56, 57, 58, 59, 60, 61, 62, 63, 64, 65, 66, 67, 68, 69, 70, 71, 72, 73, 74, 75, 76, 77, 78, 79, 80, 81, 82, 83, 84, 85, 86, 87, 88, 89, 90, 91, 92, 93, 94, 95, 96, 97, 98, 99, 100, 101, 102, 103, 104, 105, 106, 107, 108, 109, 110, 111, 112, 113, 114, 115, 116, 117, 118, 119, 120, 121, 122, 123, 124, 125, 126, 127, 128, 129, 130, 131, 132, 133, 134, 135, 136, 137, 138, 139, 140, 141, 142, 143, 144, 145, 146, 147, 148, 149, 150, 151, 152, 153, 154, 155, 156, 157, 158, 159, 160, 161, 162, 163, 164, 165, 166, 167, 168, 169, 170, 171, 172, 173, 174, 175, 176, 177, 288, 289, 290, 291, 292, 293, 294, 295, 296, 297, 298, 299, 300, 301, 302, 303, 304, 305, 306, 307, 308, 309, 310, 311, 312, 313, 314, 315, 316, 317] (by decide +kernel) (by decide +kernel)
set_option maxRecDepth 20000 in
theorem gL_isSo_X5_total : GoodIn wsL_isSo (wsV RL 9 RX5 yX5_total wsX5_total) := goodIn_app (goodIn_of _ (by decide +kernel)) ggL_isSo_X5_total
theorem dL_isSo_0 : decode cL_isSo 0 = .ok (.aload_n 0, 1) := by decide +kernel
theorem dL_isSo_1 : decode cL_isSo 1 = .ok (.aload_n 1, 1) := by decide +kernel
theorem dL_isSo_2 : decode cL_isSo 2 = .ok (.invokestatic 59, 3) := by decide +kernel
theorem dL_isSo_5 : decode cL_isSo 5 = .ok (.istore_n 3, 1) := by decide +kernel
theorem dL_isSo_6 : decode cL_isSo 6 = .ok (.iconst 0, 1) := by decide +kernel
theorem dL_isSo_7 : decode cL_isSo 7 = .ok (.istore 4, 2) := by decide +kernel
theorem dL_isSo_9 : decode cL_isSo 9 = .ok (.iconst 0, 1) := by decide +kernel
theorem dL_isSo_10 : decode cL_isSo 10 = .ok (.istore 5, 2) := by decide +kernel
theorem dL_isSo_12 : decode cL_isSo 12 = .ok (.bipush (-5), 2) := by decide +kernel
theorem dL_isSo_14 : decode cL_isSo 14 = .ok (.istore 6, 2) := by decide +kernel
theorem dL_isSo_16 : decode cL_isSo 16 = .ok (.iconst 0, 1) := by decide +kernel
theorem dL_isSo_17 : decode cL_isSo 17 = .ok (.istore 7, 2) := by decide +kernel
theorem dL_isSo_19 : decode cL_isSo 19 = .ok (.iconst 0, 1) := by decide +kernel
theorem dL_isSo_20 : decode cL_isSo 20 = .ok (.istore 8, 2) := by decide +kernel
theorem dL_isSo_22 : decode cL_isSo 22 = .ok (.bipush (-5), 2) := by decide +kernel
theorem dL_isSo_24 : decode cL_isSo 24 = .ok (.istore 9, 2) := by decide +kernel
theorem dL_isSo_26 : decode cL_isSo 26 = .ok (.iconst 0, 1) := by decide +kernel
theorem dL_isSo_27 : decode cL_isSo 27 = .ok (.istore 10, 2) := by decide +kernel
theorem dL_isSo_29 : decode cL_isSo 29 = .ok (.iload 10, 2) := by decide +kernel
theorem dL_isSo_31 : decode cL_isSo 31 = .ok (.iload_n 3, 1) := by decide +kernel
theorem dL_isSo_32 : decode cL_isSo 32 = .ok (.if_icmp .ge 158, 3) := by decide +kernel
theorem dL_isSo_35 : decode cL_isSo 35 = .ok (.aload_n 2, 1) := by decide +kernel
theorem dL_isSo_36 : decode cL_isSo 36 = .ok (.iload 10, 2) := by decide +kernel
theorem dL_isSo_38 : decode cL_isSo 38 = .ok (.iconst 0, 1) := by decide +kernel
theorem dL_isSo_39 : decode cL_isSo 39 = .ok (.iastore, 1) := by decide +kernel
theorem dL_isSo_40 : decode cL_isSo 40 = .ok (.iconst 0, 1) := by decide +kernel
theorem dL_isSo_41 : decode cL_isSo 41 = .ok (.istore 11, 2) := by decide +kernel
theorem dL_isSo_43 : decode cL_isSo 43 = .ok (.iload 11, 2) := by decide +kernel
theorem dL_isSo_45 : decode cL_isSo 45 = .ok (.iload_n 3, 1) := by decide +kernel
theorem dL_isSo_46 : decode cL_isSo 46 = .ok (.if_icmp .ge 138, 3) := by decide +kernel
theorem dL_isSo_49 : decode cL_isSo 49 = .ok (.aload_n 2, 1) := by decide +kernel
theorem dL_isSo_50 : decode cL_isSo 50 = .ok (.iload 10, 2) := by decide +kernel
theorem dL_isSo_52 : decode cL_isSo 52 = .ok (.dup2, 1) := by decide +kernel
theorem dL_isSo_53 : decode cL_isSo 53 = .ok (.iaload, 1) := by decide +kernel
theorem dL_isSo_54 : decode cL_isSo 54 = .ok (.aload_n 1, 1) := by decide +kernel
theorem dL_isSo_55 : decode cL_isSo 55 = .ok (.iload 10, 2) := by decide +kernel
theorem dL_isSo_57 : decode cL_isSo 57 = .ok (.iload 11, 2) := by decide +kernel
theorem dL_isSo_59 : decode cL_isSo 59 = .ok (.invokestatic 46, 3) := by decide +kernel
theorem dL_isSo_62 : decode cL_isSo 62 = .ok (.ifCond .le 10, 3) := by decide +kernel
theorem dL_isSo_65 : decode cL_isSo 65 = .ok (.iconst 1, 1) := by decide +kernel
theorem dL_isSo_66 : decode cL_isSo 66 = .ok (.iload 11, 2) := by decide +kernel
theorem dL_isSo_68 : decode cL_isSo 68 = .ok (.ishl, 1) := by decide +kernel
theorem dL_isSo_69 : decode cL_isSo 69 = .ok (.goto 4, 3) := by decide +kernel
theorem dL_isSo_72 : decode cL_isSo 72 = .ok (.iconst 0, 1) := by decide +kernel
theorem dL_isSo_73 : decode cL_isSo 73 = .ok (.ior, 1) := by decide +kernel
theorem dL_isSo_74 : decode cL_isSo 74 = .ok (.iastore, 1) := by decide +kernel
theorem dL_isSo_75 : decode cL_isSo 75 = .ok (.iload 11, 2) := by decide +kernel
theorem dL_isSo_77 : decode cL_isSo 77 = .ok (.iload 10, 2) := by decide +kernel
theorem dL_isSo_79 : decode cL_isSo 79 = .ok (.if_icmp .eq 99, 3) := by decide +kernel
theorem dL_isSo_82 : decode cL_isSo 82 = .ok (.aload_n 1, 1) := by decide +kernel
theorem dL_isSo_83 : decode cL_isSo 83 = .ok (.iload 10, 2) := by decide +kernel
theorem dL_isSo_85 : decode cL_isSo 85 = .ok (.iload 11, 2) := by decide +kernel
theorem dL_isSo_87 : decode cL_isSo 87 = .ok (.iconst 0, 1) := by decide +kernel
theorem dL_isSo_88 : decode cL_isSo 88 = .ok (.invokestatic 28, 3) := by decide +kernel
theorem dL_isSo_91 : decode cL_isSo 91 = .ok (.ifCond .eq 27, 3) := by decide +kernel
theorem dL_isSo_94 : decode cL_isSo 94 = .ok (.aload_n 1, 1) := by decide +kernel
theorem dL_isSo_95 : decode cL_isSo 95 = .ok (.iload 10, 2) := by decide +kernel
theorem dL_isSo_97 : decode cL_isSo 97 = .ok (.iload 11, 2) := by decide +kernel
theorem dL_isSo_99 : decode cL_isSo 99 = .ok (.iconst 1, 1) := by decide +kernel
theorem dL_isSo_100 : decode cL_isSo 100 = .ok (.invokestatic 28, 3) := by decide +kernel
theorem dL_isSo_103 : decode cL_isSo 103 = .ok (.ifCond .eq 15, 3) := by decide +kernel
theorem dL_isSo_106 : decode cL_isSo 106 = .ok (.aload_n 1, 1) := by decide +kernel
theorem dL_isSo_107 : decode cL_isSo 107 = .ok (.iload 10, 2) := by decide +kernel
theorem dL_isSo_109 : decode cL_isSo 109 = .ok (.iload 11, 2) := by decide +kernel
theorem dL_isSo_111 : decode cL_isSo 111 = .ok (.iconst 2, 1) := by decide +kernel
theorem dL_isSo_112 : decode cL_isSo 112 = .ok (.invokestatic 28, 3) := by decide +kernel
theorem dL_isSo_115 : decode cL_isSo 115 = .ok (.ifCond .ne 61, 3) := by decide +kernel
theorem dL_isSo_118 : decode cL_isSo 118 = .ok (.aload_n 1, 1) := by decide +kernel
theorem dL_isSo_119 : decode cL_isSo 119 = .ok (.iload 10, 2) := by decide +kernel
theorem dL_isSo_121 : decode cL_isSo 121 = .ok (.iload 11, 2) := by decide +kernel
theorem dL_isSo_123 : decode cL_isSo 123 = .ok (.invokestatic 22, 3) := by decide +kernel
theorem dL_isSo_126 : decode cL_isSo 126 = .ok (.aload_n 1, 1) := by decide +kernel
theorem dL_isSo_127 : decode cL_isSo 127 = .ok (.iload 10, 2) := by decide +kernel
theorem dL_isSo_129 : decode cL_isSo 129 = .ok (.iload 11, 2) := by decide +kernel
theorem dL_isSo_131 : decode cL_isSo 131 = .ok (.invokestatic 46, 3) := by decide +kernel
theorem dL_isSo_134 : decode cL_isSo 134 = .ok (.aload_n 1, 1) := by decide +kernel
theorem dL_isSo_135 : decode cL_isSo 135 = .ok (.iload 11, 2) := by decide +kernel
theorem dL_isSo_137 : decode cL_isSo 137 = .ok (.iload 10, 2) := by decide +kernel
theorem dL_isSo_139 : decode cL_isSo 139 = .ok (.invokestatic 46, 3) := by decide +kernel
theorem dL_isSo_142 : decode cL_isSo 142 = .ok (.iadd, 1) := by decide +kernel
theorem dL_isSo_143 : decode cL_isSo 143 = .ok (.ifCond .le 7, 3) := by decide +kernel
theorem dL_isSo_146 : decode cL_isSo 146 = .ok (.iconst 1, 1) := by decide +kernel
theorem dL_isSo_147 : decode cL_isSo 147 = .ok (.goto 4, 3) := by decide +kernel
theorem dL_isSo_150 : decode cL_isSo 150 = .ok (.iconst 0, 1) := by decide +kernel
theorem dL_isSo_151 : decode cL_isSo 151 = .ok (.if_icmp .ne 25, 3) := by decide +kernel
theorem dL_isSo_154 : decode cL_isSo 154 = .ok (.aload_n 1, 1) := by decide +kernel
theorem dL_isSo_155 : decode cL_isSo 155 = .ok (.iload 10, 2) := by decide +kernel
theorem dL_isSo_157 : decode cL_isSo 157 = .ok (.iload 11, 2) := by decide +kernel
theorem dL_isSo_159 : decode cL_isSo 159 = .ok (.invokestatic 46, 3) := by decide +kernel
theorem dL_isSo_162 : decode cL_isSo 162 = .ok (.ifCond .le 16, 3) := by decide +kernel
theorem dL_isSo_165 : decode cL_isSo 165 = .ok (.aload_n 1, 1) := by decide +kernel
theorem dL_isSo_166 : decode cL_isSo 166 = .ok (.iload 11, 2) := by decide +kernel
theorem dL_isSo_168 : decode cL_isSo 168 = .ok (.iload 10, 2) := by decide +kernel
theorem dL_isSo_170 : decode cL_isSo 170 = .ok (.invokestatic 46, 3) := by decide +kernel
theorem dL_isSo_173 : decode cL_isSo 173 = .ok (.ifCond .le 5, 3) := by decide +kernel
theorem dL_isSo_176 : decode cL_isSo 176 = .ok (.iconst 0, 1) := by decide +kernel
theorem dL_isSo_177 : decode cL_isSo 177 = .ok (.ireturn, 1) := by decide +kernel
theorem dL_isSo_178 : decode cL_isSo 178 = .ok (.iinc 11 1, 3) := by decide +kernel
theorem dL_isSo_181 : decode cL_isSo 181 = .ok (.goto (-138), 3) := by decide +kernel
theorem dL_isSo_184 : decode cL_isSo 184 = .ok (.iinc 10 1, 3) := by decide +kernel
theorem dL_isSo_187 : decode cL_isSo 187 = .ok (.goto (-158), 3) := by decide +kernel
theorem dL_isSo_190 : decode cL_isSo 190 = .ok (.iconst 0, 1) := by decide +kernel
theorem dL_isSo_191 : decode cL_isSo 191 = .ok (.istore 10, 2) := by decide +kernel
theorem dL_isSo_193 : decode cL_isSo 193 = .ok (.iload 10, 2) := by decide +kernel
theorem dL_isSo_195 : decode cL_isSo 195 = .ok (.iload_n 3, 1) := by decide +kernel
theorem dL_isSo_196 : decode cL_isSo 196 = .ok (.if_icmp .ge 254, 3) := by decide +kernel
theorem dL_isSo_199 : decode cL_isSo 199 = .ok (.aload_n 0, 1) := by decide +kernel
theorem dL_isSo_200 : decode cL_isSo 200 = .ok (.aload_n 1, 1) := by decide +kernel
theorem dL_isSo_201 : decode cL_isSo 201 = .ok (.aload_n 2, 1) := by decide +kernel
theorem dL_isSo_202 : decode cL_isSo 202 = .ok (.iload_n 3, 1) := by decide +kernel
theorem dL_isSo_203 : decode cL_isSo 203 = .ok (.iload 10, 2) := by decide +kernel
theorem dL_isSo_205 : decode cL_isSo 205 = .ok (.invokestatic 63, 3) := by decide +kernel
theorem dL_isSo_208 : decode cL_isSo 208 = .ok (.ifCond .ne 5, 3) := by decide +kernel
theorem dL_isSo_211 : decode cL_isSo 211 = .ok (.iconst 0, 1) := by decide +kernel
theorem dL_isSo_212 : decode cL_isSo 212 = .ok (.ireturn, 1) := by decide +kernel
theorem dL_isSo_213 : decode cL_isSo 213 = .ok (.aload_n 2, 1) := by decide +kernel
theorem dL_isSo_214 : decode cL_isSo 214 = .ok (.iload_n 3, 1) := by decide +kernel
theorem dL_isSo_215 : decode cL_isSo 215 = .ok (.iload 10, 2) := by decide +kernel
theorem dL_isSo_217 : decode cL_isSo 217 = .ok (.invokestatic 50, 3) := by decide +kernel
theorem dL_isSo_220 : decode cL_isSo 220 = .ok (.istore 11, 2) := by decide +kernel
theorem dL_isSo_222 : decode cL_isSo 222 = .ok (.aload_n 0, 1) := by decide +kernel
theorem dL_isSo_223 : decode cL_isSo 223 = .ok (.aload_n 0, 1) := by decide +kernel
theorem dL_isSo_224 : decode cL_isSo 224 = .ok (.iload 10, 2) := by decide +kernel
theorem dL_isSo_226 : decode cL_isSo 226 = .ok (.invokevirtual 15, 3) := by decide +kernel
theorem dL_isSo_229 : decode cL_isSo 229 = .ok (.iconst 3, 1) := by decide +kernel
theorem dL_isSo_230 : decode cL_isSo 230 = .ok (.invokevirtual 53, 3) := by decide +kernel
theorem dL_isSo_233 : decode cL_isSo 233 = .ok (.istore 12, 2) := by decide +kernel
theorem dL_isSo_235 : decode cL_isSo 235 = .ok (.iconst (-1), 1) := by decide +kernel
theorem dL_isSo_236 : decode cL_isSo 236 = .ok (.istore 13, 2) := by decide +kernel
theorem dL_isSo_238 : decode cL_isSo 238 = .ok (.iload 11, 2) := by decide +kernel
theorem dL_isSo_240 : decode cL_isSo 240 = .ok (.ifCond .ge 7, 3) := by decide +kernel
theorem dL_isSo_243 : decode cL_isSo 243 = .ok (.iconst 1, 1) := by decide +kernel
theorem dL_isSo_244 : decode cL_isSo 244 = .ok (.goto 4, 3) := by decide +kernel
theorem dL_isSo_247 : decode cL_isSo 247 = .ok (.iconst 0, 1) := by decide +kernel
theorem dL_isSo_248 : decode cL_isSo 248 = .ok (.istore 14, 2) := by decide +kernel
theorem dL_isSo_250 : decode cL_isSo 250 = .ok (.iconst 0, 1) := by decide +kernel
theorem dL_isSo_251 : decode cL_isSo 251 = .ok (.istore 15, 2) := by decide +kernel
theorem dL_isSo_253 : decode cL_isSo 253 = .ok (.iload 15, 2) := by decide +kernel
theorem dL_isSo_255 : decode cL_isSo 255 = .ok (.iload_n 3, 1) := by decide +kernel
theorem dL_isSo_256 : decode cL_isSo 256 = .ok (.if_icmp .ge 70, 3) := by decide +kernel
theorem dL_isSo_259 : decode cL_isSo 259 = .ok (.aload_n 2, 1) := by decide +kernel
theorem dL_isSo_260 : decode cL_isSo 260 = .ok (.iload 10, 2) := by decide +kernel
theorem dL_isSo_262 : decode cL_isSo 262 = .ok (.iaload, 1) := by decide +kernel
theorem dL_isSo_263 : decode cL_isSo 263 = .ok (.iload 15, 2) := by decide +kernel
theorem dL_isSo_265 : decode cL_isSo 265 = .ok (.ishr, 1) := by decide +kernel
theorem dL_isSo_266 : decode cL_isSo 266 = .ok (.iconst 1, 1) := by decide +kernel
theorem dL_isSo_267 : decode cL_isSo 267 = .ok (.iand, 1) := by decide +kernel
theorem dL_isSo_268 : decode cL_isSo 268 = .ok (.ifCond .ne 6, 3) := by decide +kernel
theorem dL_isSo_271 : decode cL_isSo 271 = .ok (.goto 49, 3) := by decide +kernel
theorem dL_isSo_274 : decode cL_isSo 274 = .ok (.aload_n 0, 1) := by decide +kernel
theorem dL_isSo_275 : decode cL_isSo 275 = .ok (.aload_n 0, 1) := by decide +kernel
theorem dL_isSo_276 : decode cL_isSo 276 = .ok (.iload 15, 2) := by decide +kernel
theorem dL_isSo_278 : decode cL_isSo 278 = .ok (.invokevirtual 15, 3) := by decide +kernel
theorem dL_isSo_281 : decode cL_isSo 281 = .ok (.iconst 3, 1) := by decide +kernel
theorem dL_isSo_282 : decode cL_isSo 282 = .ok (.invokevirtual 53, 3) := by decide +kernel
theorem dL_isSo_285 : decode cL_isSo 285 = .ok (.istore 16, 2) := by decide +kernel
theorem dL_isSo_287 : decode cL_isSo 287 = .ok (.iload 14, 2) := by decide +kernel
theorem dL_isSo_289 : decode cL_isSo 289 = .ok (.ifCond .eq 12, 3) := by decide +kernel
theorem dL_isSo_292 : decode cL_isSo 292 = .ok (.iload 16, 2) := by decide +kernel
theorem dL_isSo_294 : decode cL_isSo 294 = .ok (.ifCond .lt 7, 3) := by decide +kernel
theorem dL_isSo_297 : decode cL_isSo 297 = .ok (.iconst 1, 1) := by decide +kernel
theorem dL_isSo_298 : decode cL_isSo 298 = .ok (.goto 4, 3) := by decide +kernel
theorem dL_isSo_301 : decode cL_isSo 301 = .ok (.iconst 0, 1) := by decide +kernel
theorem dL_isSo_302 : decode cL_isSo 302 = .ok (.istore 14, 2) := by decide +kernel
theorem dL_isSo_304 : decode cL_isSo 304 = .ok (.iload 16, 2) := by decide +kernel
theorem dL_isSo_306 : decode cL_isSo 306 = .ok (.iload 13, 2) := by decide +kernel
theorem dL_isSo_308 : decode cL_isSo 308 = .ok (.if_icmp .le 8, 3) := by decide +kernel
theorem dL_isSo_311 : decode cL_isSo 311 = .ok (.iload 16, 2) := by decide +kernel
theorem dL_isSo_313 : decode cL_isSo 313 = .ok (.goto 5, 3) := by decide +kernel
theorem dL_isSo_316 : decode cL_isSo 316 = .ok (.iload 13, 2) := by decide +kernel
theorem dL_isSo_318 : decode cL_isSo 318 = .ok (.istore 13, 2) := by decide +kernel
