set_option maxRecDepth 100000 in
theorem dL_law_0 : decode code 0 = .ok (.new 8, 3) := by decide +kernel
set_option maxRecDepth 100000 in
theorem dL_law_3 : decode code 3 = .ok (.dup, 1) := by decide +kernel
set_option maxRecDepth 100000 in
theorem dL_law_4 : decode code 4 = .ok (.invokespecial 187, 3) := by decide +kernel
set_option maxRecDepth 100000 in
theorem dL_law_7 : decode code 7 = .ok (.astore_n 1, 1) := by decide +kernel
set_option maxRecDepth 100000 in
theorem dL_law_8 : decode code 8 = .ok (.new 188, 3) := by decide +kernel
set_option maxRecDepth 100000 in
theorem dL_law_11 : decode code 11 = .ok (.dup, 1) := by decide +kernel
set_option maxRecDepth 100000 in
theorem dL_law_12 : decode code 12 = .ok (.invokespecial 190, 3) := by decide +kernel
set_option maxRecDepth 100000 in
theorem dL_law_15 : decode code 15 = .ok (.astore_n 2, 1) := by decide +kernel
set_option maxRecDepth 100000 in
theorem dL_law_16 : decode code 16 = .ok (.iconst 1, 1) := by decide +kernel
set_option maxRecDepth 100000 in
theorem dL_law_17 : decode code 17 = .ok (.newarray .long, 2) := by decide +kernel
set_option maxRecDepth 100000 in
theorem dL_law_19 : decode code 19 = .ok (.astore_n 3, 1) := by decide +kernel
set_option maxRecDepth 100000 in
theorem dL_law_20 : decode code 20 = .ok (.iconst 0, 1) := by decide +kernel
set_option maxRecDepth 100000 in
theorem dL_law_21 : decode code 21 = .ok (.istore 4, 2) := by decide +kernel
set_option maxRecDepth 100000 in
theorem dL_law_23 : decode code 23 = .ok (.iload 4, 2) := by decide +kernel
set_option maxRecDepth 100000 in
theorem dL_law_25 : decode code 25 = .ok (.aload_n 0, 1) := by decide +kernel
set_option maxRecDepth 100000 in
theorem dL_law_26 : decode code 26 = .ok (.arraylength, 1) := by decide +kernel
set_option maxRecDepth 100000 in
theorem dL_law_27 : decode code 27 = .ok (.bipush 7, 2) := by decide +kernel
set_option maxRecDepth 100000 in
theorem dL_law_29 : decode code 29 = .ok (.isub, 1) := by decide +kernel
set_option maxRecDepth 100000 in
theorem dL_law_30 : decode code 30 = .ok (.if_icmp .gt 4075, 3) := by decide +kernel
set_option maxRecDepth 100000 in
theorem dL_law_33 : decode code 33 = .ok (.aload_n 0, 1) := by decide +kernel
set_option maxRecDepth 100000 in
theorem dL_law_34 : decode code 34 = .ok (.iload 4, 2) := by decide +kernel
set_option maxRecDepth 100000 in
theorem dL_law_36 : decode code 36 = .ok (.iaload, 1) := by decide +kernel
set_option maxRecDepth 100000 in
theorem dL_law_37 : decode code 37 = .ok (.bipush 63, 2) := by decide +kernel
set_option maxRecDepth 100000 in
theorem dL_law_39 : decode code 39 = .ok (.iand, 1) := by decide +kernel
set_option maxRecDepth 100000 in
theorem dL_law_40 : decode code 40 = .ok (.tableswitch 4059 0 53 #[232, 336, 372, 416, 460, 473, 521, 596, 664, 744, 812, 908, 988, 1056, 1112, 1168, 1236, 1304, 1360, 1428, 1496, 1576, 1672, 1752, 1820, 1876, 1944, 2012, 2092, 2191, 2259, 2327, 2395, 2463, 2543, 2599, 2679, 2797, 2865, 2921, 3001, 3069, 3165, 3252, 3332, 3436, 3528, 3596, 3683, 3739, 3807, 3910, 3978, 4046], 232) := by decide +kernel
set_option maxRecDepth 100000 in
theorem dL_law_272 : decode code 272 = .ok (.aload_n 1, 1) := by decide +kernel
set_option maxRecDepth 100000 in
theorem dL_law_273 : decode code 273 = .ok (.aload_n 0, 1) := by decide +kernel
set_option maxRecDepth 100000 in
theorem dL_law_274 : decode code 274 = .ok (.iload 4, 2) := by decide +kernel
set_option maxRecDepth 100000 in
theorem dL_law_276 : decode code 276 = .ok (.iconst 1, 1) := by decide +kernel
set_option maxRecDepth 100000 in
theorem dL_law_277 : decode code 277 = .ok (.iadd, 1) := by decide +kernel
set_option maxRecDepth 100000 in
theorem dL_law_278 : decode code 278 = .ok (.iaload, 1) := by decide +kernel
set_option maxRecDepth 100000 in
theorem dL_law_279 : decode code 279 = .ok (.aload_n 0, 1) := by decide +kernel
set_option maxRecDepth 100000 in
theorem dL_law_280 : decode code 280 = .ok (.iload 4, 2) := by decide +kernel
set_option maxRecDepth 100000 in
theorem dL_law_282 : decode code 282 = .ok (.iconst 2, 1) := by decide +kernel
set_option maxRecDepth 100000 in
theorem dL_law_283 : decode code 283 = .ok (.iadd, 1) := by decide +kernel
set_option maxRecDepth 100000 in
theorem dL_law_284 : decode code 284 = .ok (.iaload, 1) := by decide +kernel
set_option maxRecDepth 100000 in
theorem dL_law_285 : decode code 285 = .ok (.aload_n 0, 1) := by decide +kernel
set_option maxRecDepth 100000 in
theorem dL_law_286 : decode code 286 = .ok (.iload 4, 2) := by decide +kernel
set_option maxRecDepth 100000 in
theorem dL_law_288 : decode code 288 = .ok (.iconst 3, 1) := by decide +kernel
set_option maxRecDepth 100000 in
theorem dL_law_289 : decode code 289 = .ok (.iadd, 1) := by decide +kernel
set_option maxRecDepth 100000 in
theorem dL_law_290 : decode code 290 = .ok (.iaload, 1) := by decide +kernel
set_option maxRecDepth 100000 in
theorem dL_law_291 : decode code 291 = .ok (.aload_n 0, 1) := by decide +kernel
set_option maxRecDepth 100000 in
theorem dL_law_292 : decode code 292 = .ok (.iload 4, 2) := by decide +kernel
set_option maxRecDepth 100000 in
theorem dL_law_294 : decode code 294 = .ok (.iconst 4, 1) := by decide +kernel
set_option maxRecDepth 100000 in
theorem dL_law_295 : decode code 295 = .ok (.iadd, 1) := by decide +kernel
set_option maxRecDepth 100000 in
theorem dL_law_296 : decode code 296 = .ok (.iaload, 1) := by decide +kernel
set_option maxRecDepth 100000 in
theorem dL_law_297 : decode code 297 = .ok (.aload_n 0, 1) := by decide +kernel
set_option maxRecDepth 100000 in
theorem dL_law_298 : decode code 298 = .ok (.iload 4, 2) := by decide +kernel
set_option maxRecDepth 100000 in
theorem dL_law_300 : decode code 300 = .ok (.iconst 5, 1) := by decide +kernel
set_option maxRecDepth 100000 in
theorem dL_law_301 : decode code 301 = .ok (.iadd, 1) := by decide +kernel
set_option maxRecDepth 100000 in
theorem dL_law_302 : decode code 302 = .ok (.iaload, 1) := by decide +kernel
set_option maxRecDepth 100000 in
theorem dL_law_303 : decode code 303 = .ok (.aload_n 3, 1) := by decide +kernel
set_option maxRecDepth 100000 in
theorem dL_law_304 : decode code 304 = .ok (.invokestatic 191, 3) := by decide +kernel
set_option maxRecDepth 100000 in
theorem dL_law_307 : decode code 307 = .ok (.istore 5, 2) := by decide +kernel
set_option maxRecDepth 100000 in
theorem dL_law_309 : decode code 309 = .ok (.aload_n 2, 1) := by decide +kernel
set_option maxRecDepth 100000 in
theorem dL_law_310 : decode code 310 = .ok (.aload_n 0, 1) := by decide +kernel
set_option maxRecDepth 100000 in
theorem dL_law_311 : decode code 311 = .ok (.iload 4, 2) := by decide +kernel
set_option maxRecDepth 100000 in
theorem dL_law_313 : decode code 313 = .ok (.iconst 1, 1) := by decide +kernel
set_option maxRecDepth 100000 in
theorem dL_law_314 : decode code 314 = .ok (.iadd, 1) := by decide +kernel
set_option maxRecDepth 100000 in
theorem dL_law_315 : decode code 315 = .ok (.iaload, 1) := by decide +kernel
set_option maxRecDepth 100000 in
theorem dL_law_316 : decode code 316 = .ok (.aload_n 0, 1) := by decide +kernel
set_option maxRecDepth 100000 in
theorem dL_law_317 : decode code 317 = .ok (.iload 4, 2) := by decide +kernel
set_option maxRecDepth 100000 in
theorem dL_law_319 : decode code 319 = .ok (.iconst 2, 1) := by decide +kernel
set_option maxRecDepth 100000 in
theorem dL_law_320 : decode code 320 = .ok (.iadd, 1) := by decide +kernel
set_option maxRecDepth 100000 in
theorem dL_law_321 : decode code 321 = .ok (.iaload, 1) := by decide +kernel
set_option maxRecDepth 100000 in
theorem dL_law_322 : decode code 322 = .ok (.aload_n 0, 1) := by decide +kernel
set_option maxRecDepth 100000 in
theorem dL_law_323 : decode code 323 = .ok (.iload 4, 2) := by decide +kernel
set_option maxRecDepth 100000 in
theorem dL_law_325 : decode code 325 = .ok (.iconst 3, 1) := by decide +kernel
set_option maxRecDepth 100000 in
theorem dL_law_326 : decode code 326 = .ok (.iadd, 1) := by decide +kernel
set_option maxRecDepth 100000 in
theorem dL_law_327 : decode code 327 = .ok (.iaload, 1) := by decide +kernel
set_option maxRecDepth 100000 in
theorem dL_law_328 : decode code 328 = .ok (.aload_n 0, 1) := by decide +kernel
set_option maxRecDepth 100000 in
theorem dL_law_329 : decode code 329 = .ok (.iload 4, 2) := by decide +kernel
set_option maxRecDepth 100000 in
theorem dL_law_331 : decode code 331 = .ok (.iconst 4, 1) := by decide +kernel
set_option maxRecDepth 100000 in
theorem dL_law_332 : decode code 332 = .ok (.iadd, 1) := by decide +kernel
set_option maxRecDepth 100000 in
theorem dL_law_333 : decode code 333 = .ok (.iaload, 1) := by decide +kernel
set_option maxRecDepth 100000 in
theorem dL_law_334 : decode code 334 = .ok (.aload_n 0, 1) := by decide +kernel
set_option maxRecDepth 100000 in
theorem dL_law_335 : decode code 335 = .ok (.iload 4, 2) := by decide +kernel
set_option maxRecDepth 100000 in
theorem dL_law_337 : decode code 337 = .ok (.iconst 5, 1) := by decide +kernel
set_option maxRecDepth 100000 in
theorem dL_law_338 : decode code 338 = .ok (.iadd, 1) := by decide +kernel
set_option maxRecDepth 100000 in
theorem dL_law_339 : decode code 339 = .ok (.iaload, 1) := by decide +kernel
set_option maxRecDepth 100000 in
theorem dL_law_340 : decode code 340 = .ok (.invokevirtual 196, 3) := by decide +kernel
set_option maxRecDepth 100000 in
theorem dL_law_343 : decode code 343 = .ok (.istore 6, 2) := by decide +kernel
set_option maxRecDepth 100000 in
theorem dL_law_345 : decode code 345 = .ok (.aload_n 2, 1) := by decide +kernel
set_option maxRecDepth 100000 in
theorem dL_law_346 : decode code 346 = .ok (.invokevirtual 197, 3) := by decide +kernel
set_option maxRecDepth 100000 in
theorem dL_law_349 : decode code 349 = .ok (.iload 5, 2) := by decide +kernel
set_option maxRecDepth 100000 in
theorem dL_law_351 : decode code 351 = .ok (.if_icmp .eq 5, 3) := by decide +kernel
set_option maxRecDepth 100000 in
theorem dL_law_356 : decode code 356 = .ok (.iload 5, 2) := by decide +kernel
set_option maxRecDepth 100000 in
theorem dL_law_358 : decode code 358 = .ok (.ifCond .ne 15, 3) := by decide +kernel
set_option maxRecDepth 100000 in
theorem dL_law_361 : decode code 361 = .ok (.aload_n 3, 1) := by decide +kernel
set_option maxRecDepth 100000 in
theorem dL_law_362 : decode code 362 = .ok (.iconst 0, 1) := by decide +kernel
set_option maxRecDepth 100000 in
theorem dL_law_363 : decode code 363 = .ok (.laload, 1) := by decide +kernel
set_option maxRecDepth 100000 in
theorem dL_law_364 : decode code 364 = .ok (.iload 6, 2) := by decide +kernel
set_option maxRecDepth 100000 in
theorem dL_law_366 : decode code 366 = .ok (.i2l, 1) := by decide +kernel
set_option maxRecDepth 100000 in
theorem dL_law_367 : decode code 367 = .ok (.lcmp, 1) := by decide +kernel
set_option maxRecDepth 100000 in
theorem dL_law_368 : decode code 368 = .ok (.ifCond .eq 5, 3) := by decide +kernel
set_option maxRecDepth 100000 in
theorem dL_law_373 : decode code 373 = .ok (.goto 3726, 3) := by decide +kernel
set_option maxRecDepth 100000 in
theorem dL_law_376 : decode code 376 = .ok (.aload_n 1, 1) := by decide +kernel
set_option maxRecDepth 100000 in
theorem dL_law_377 : decode code 377 = .ok (.aload_n 0, 1) := by decide +kernel
set_option maxRecDepth 100000 in
theorem dL_law_378 : decode code 378 = .ok (.iload 4, 2) := by decide +kernel
set_option maxRecDepth 100000 in
theorem dL_law_380 : decode code 380 = .ok (.iconst 1, 1) := by decide +kernel
set_option maxRecDepth 100000 in
theorem dL_law_381 : decode code 381 = .ok (.iadd, 1) := by decide +kernel
set_option maxRecDepth 100000 in
theorem dL_law_382 : decode code 382 = .ok (.iaload, 1) := by decide +kernel
set_option maxRecDepth 100000 in
theorem dL_law_383 : decode code 383 = .ok (.invokestatic 200, 3) := by decide +kernel
set_option maxRecDepth 100000 in
theorem dL_law_386 : decode code 386 = .ok (.istore 5, 2) := by decide +kernel
set_option maxRecDepth 100000 in
theorem dL_law_388 : decode code 388 = .ok (.aload_n 2, 1) := by decide +kernel
set_option maxRecDepth 100000 in
theorem dL_law_389 : decode code 389 = .ok (.aload_n 0, 1) := by decide +kernel
set_option maxRecDepth 100000 in
theorem dL_law_390 : decode code 390 = .ok (.iload 4, 2) := by decide +kernel
set_option maxRecDepth 100000 in
theorem dL_law_392 : decode code 392 = .ok (.iconst 1, 1) := by decide +kernel
set_option maxRecDepth 100000 in
theorem dL_law_393 : decode code 393 = .ok (.iadd, 1) := by decide +kernel
set_option maxRecDepth 100000 in
theorem dL_law_394 : decode code 394 = .ok (.iaload, 1) := by decide +kernel
set_option maxRecDepth 100000 in
theorem dL_law_395 : decode code 395 = .ok (.invokevirtual 203, 3) := by decide +kernel
set_option maxRecDepth 100000 in
theorem dL_law_398 : decode code 398 = .ok (.aload_n 2, 1) := by decide +kernel
set_option maxRecDepth 100000 in
theorem dL_law_399 : decode code 399 = .ok (.invokevirtual 197, 3) := by decide +kernel
set_option maxRecDepth 100000 in
theorem dL_law_402 : decode code 402 = .ok (.iload 5, 2) := by decide +kernel
set_option maxRecDepth 100000 in
theorem dL_law_404 : decode code 404 = .ok (.if_icmp .eq 5, 3) := by decide +kernel
set_option maxRecDepth 100000 in
theorem dL_law_409 : decode code 409 = .ok (.goto 3690, 3) := by decide +kernel
set_option maxRecDepth 100000 in
theorem dL_law_412 : decode code 412 = .ok (.aload_n 1, 1) := by decide +kernel
set_option maxRecDepth 100000 in
theorem dL_law_413 : decode code 413 = .ok (.aload_n 3, 1) := by decide +kernel
set_option maxRecDepth 100000 in
theorem dL_law_414 : decode code 414 = .ok (.invokestatic 204, 3) := by decide +kernel
set_option maxRecDepth 100000 in
theorem dL_law_417 : decode code 417 = .ok (.istore 5, 2) := by decide +kernel
set_option maxRecDepth 100000 in
theorem dL_law_419 : decode code 419 = .ok (.aload_n 2, 1) := by decide +kernel
set_option maxRecDepth 100000 in
theorem dL_law_420 : decode code 420 = .ok (.invokevirtual 207, 3) := by decide +kernel
set_option maxRecDepth 100000 in
theorem dL_law_423 : decode code 423 = .ok (.istore 6, 2) := by decide +kernel
set_option maxRecDepth 100000 in
theorem dL_law_425 : decode code 425 = .ok (.aload_n 2, 1) := by decide +kernel
set_option maxRecDepth 100000 in
theorem dL_law_426 : decode code 426 = .ok (.invokevirtual 197, 3) := by decide +kernel
set_option maxRecDepth 100000 in
theorem dL_law_429 : decode code 429 = .ok (.iload 5, 2) := by decide +kernel
set_option maxRecDepth 100000 in
theorem dL_law_431 : decode code 431 = .ok (.if_icmp .eq 5, 3) := by decide +kernel
set_option maxRecDepth 100000 in
theorem dL_law_436 : decode code 436 = .ok (.iload 5, 2) := by decide +kernel
set_option maxRecDepth 100000 in
theorem dL_law_438 : decode code 438 = .ok (.ifCond .ne 15, 3) := by decide +kernel
set_option maxRecDepth 100000 in
theorem dL_law_441 : decode code 441 = .ok (.aload_n 3, 1) := by decide +kernel
set_option maxRecDepth 100000 in
theorem dL_law_442 : decode code 442 = .ok (.iconst 0, 1) := by decide +kernel
set_option maxRecDepth 100000 in
theorem dL_law_443 : decode code 443 = .ok (.laload, 1) := by decide +kernel
set_option maxRecDepth 100000 in
theorem dL_law_444 : decode code 444 = .ok (.iload 6, 2) := by decide +kernel
set_option maxRecDepth 100000 in
theorem dL_law_446 : decode code 446 = .ok (.i2l, 1) := by decide +kernel
set_option maxRecDepth 100000 in
theorem dL_law_447 : decode code 447 = .ok (.lcmp, 1) := by decide +kernel
set_option maxRecDepth 100000 in
theorem dL_law_448 : decode code 448 = .ok (.ifCond .eq 5, 3) := by decide +kernel
set_option maxRecDepth 100000 in
theorem dL_law_453 : decode code 453 = .ok (.goto 3646, 3) := by decide +kernel
set_option maxRecDepth 100000 in
theorem dL_law_456 : decode code 456 = .ok (.aload_n 1, 1) := by decide +kernel
set_option maxRecDepth 100000 in
theorem dL_law_457 : decode code 457 = .ok (.aload_n 3, 1) := by decide +kernel
set_option maxRecDepth 100000 in
theorem dL_law_458 : decode code 458 = .ok (.invokestatic 208, 3) := by decide +kernel
set_option maxRecDepth 100000 in
theorem dL_law_461 : decode code 461 = .ok (.istore 5, 2) := by decide +kernel
set_option maxRecDepth 100000 in
theorem dL_law_463 : decode code 463 = .ok (.aload_n 2, 1) := by decide +kernel
set_option maxRecDepth 100000 in
theorem dL_law_464 : decode code 464 = .ok (.invokevirtual 210, 3) := by decide +kernel
set_option maxRecDepth 100000 in
theorem dL_law_467 : decode code 467 = .ok (.istore 6, 2) := by decide +kernel
set_option maxRecDepth 100000 in
theorem dL_law_469 : decode code 469 = .ok (.aload_n 2, 1) := by decide +kernel
set_option maxRecDepth 100000 in
theorem dL_law_470 : decode code 470 = .ok (.invokevirtual 197, 3) := by decide +kernel
set_option maxRecDepth 100000 in
theorem dL_law_473 : decode code 473 = .ok (.iload 5, 2) := by decide +kernel
set_option maxRecDepth 100000 in
theorem dL_law_475 : decode code 475 = .ok (.if_icmp .eq 5, 3) := by decide +kernel
set_option maxRecDepth 100000 in
theorem dL_law_480 : decode code 480 = .ok (.iload 5, 2) := by decide +kernel
set_option maxRecDepth 100000 in
theorem dL_law_482 : decode code 482 = .ok (.ifCond .ne 15, 3) := by decide +kernel
set_option maxRecDepth 100000 in
theorem dL_law_485 : decode code 485 = .ok (.aload_n 3, 1) := by decide +kernel
set_option maxRecDepth 100000 in
theorem dL_law_486 : decode code 486 = .ok (.iconst 0, 1) := by decide +kernel
set_option maxRecDepth 100000 in
theorem dL_law_487 : decode code 487 = .ok (.laload, 1) := by decide +kernel
set_option maxRecDepth 100000 in
theorem dL_law_488 : decode code 488 = .ok (.iload 6, 2) := by decide +kernel
set_option maxRecDepth 100000 in
theorem dL_law_490 : decode code 490 = .ok (.i2l, 1) := by decide +kernel
set_option maxRecDepth 100000 in
theorem dL_law_491 : decode code 491 = .ok (.lcmp, 1) := by decide +kernel
set_option maxRecDepth 100000 in
theorem dL_law_492 : decode code 492 = .ok (.ifCond .eq 5, 3) := by decide +kernel
set_option maxRecDepth 100000 in
theorem dL_law_497 : decode code 497 = .ok (.goto 3602, 3) := by decide +kernel
set_option maxRecDepth 100000 in
theorem dL_law_500 : decode code 500 = .ok (.aload_n 1, 1) := by decide +kernel
set_option maxRecDepth 100000 in
theorem dL_law_501 : decode code 501 = .ok (.invokevirtual 211, 3) := by decide +kernel
set_option maxRecDepth 100000 in
theorem dL_law_504 : decode code 504 = .ok (.aload_n 2, 1) := by decide +kernel
set_option maxRecDepth 100000 in
theorem dL_law_505 : decode code 505 = .ok (.invokevirtual 214, 3) := by decide +kernel
set_option maxRecDepth 100000 in
theorem dL_law_508 : decode code 508 = .ok (.if_icmp .eq 3591, 3) := by decide +kernel
set_option maxRecDepth 100000 in
theorem dL_law_513 : decode code 513 = .ok (.aload_n 1, 1) := by decide +kernel
set_option maxRecDepth 100000 in
theorem dL_law_514 : decode code 514 = .ok (.aload_n 0, 1) := by decide +kernel
set_option maxRecDepth 100000 in
theorem dL_law_515 : decode code 515 = .ok (.iload 4, 2) := by decide +kernel
set_option maxRecDepth 100000 in
theorem dL_law_517 : decode code 517 = .ok (.iconst 1, 1) := by decide +kernel
set_option maxRecDepth 100000 in
theorem dL_law_518 : decode code 518 = .ok (.iadd, 1) := by decide +kernel
set_option maxRecDepth 100000 in
theorem dL_law_519 : decode code 519 = .ok (.iaload, 1) := by decide +kernel
set_option maxRecDepth 100000 in
theorem dL_law_520 : decode code 520 = .ok (.aload_n 0, 1) := by decide +kernel
set_option maxRecDepth 100000 in
theorem dL_law_521 : decode code 521 = .ok (.iload 4, 2) := by decide +kernel
set_option maxRecDepth 100000 in
theorem dL_law_523 : decode code 523 = .ok (.iconst 2, 1) := by decide +kernel
set_option maxRecDepth 100000 in
theorem dL_law_524 : decode code 524 = .ok (.iadd, 1) := by decide +kernel
set_option maxRecDepth 100000 in
theorem dL_law_525 : decode code 525 = .ok (.iaload, 1) := by decide +kernel
set_option maxRecDepth 100000 in
theorem dL_law_526 : decode code 526 = .ok (.invokestatic 215, 3) := by decide +kernel
set_option maxRecDepth 100000 in
theorem dL_law_529 : decode code 529 = .ok (.istore 5, 2) := by decide +kernel
set_option maxRecDepth 100000 in
theorem dL_law_531 : decode code 531 = .ok (.aload_n 2, 1) := by decide +kernel
set_option maxRecDepth 100000 in
theorem dL_law_532 : decode code 532 = .ok (.aload_n 0, 1) := by decide +kernel
set_option maxRecDepth 100000 in
theorem dL_law_533 : decode code 533 = .ok (.iload 4, 2) := by decide +kernel
set_option maxRecDepth 100000 in
theorem dL_law_535 : decode code 535 = .ok (.iconst 1, 1) := by decide +kernel
set_option maxRecDepth 100000 in
theorem dL_law_536 : decode code 536 = .ok (.iadd, 1) := by decide +kernel
set_option maxRecDepth 100000 in
theorem dL_law_537 : decode code 537 = .ok (.iaload, 1) := by decide +kernel
set_option maxRecDepth 100000 in
theorem dL_law_538 : decode code 538 = .ok (.aload_n 0, 1) := by decide +kernel
set_option maxRecDepth 100000 in
theorem dL_law_539 : decode code 539 = .ok (.iload 4, 2) := by decide +kernel
set_option maxRecDepth 100000 in
theorem dL_law_541 : decode code 541 = .ok (.iconst 2, 1) := by decide +kernel
set_option maxRecDepth 100000 in
theorem dL_law_542 : decode code 542 = .ok (.iadd, 1) := by decide +kernel
set_option maxRecDepth 100000 in
theorem dL_law_543 : decode code 543 = .ok (.iaload, 1) := by decide +kernel
set_option maxRecDepth 100000 in
theorem dL_law_544 : decode code 544 = .ok (.invokevirtual 218, 3) := by decide +kernel
set_option maxRecDepth 100000 in
theorem dL_law_547 : decode code 547 = .ok (.aload_n 2, 1) := by decide +kernel
set_option maxRecDepth 100000 in
theorem dL_law_548 : decode code 548 = .ok (.invokevirtual 197, 3) := by decide +kernel
set_option maxRecDepth 100000 in
theorem dL_law_551 : decode code 551 = .ok (.iload 5, 2) := by decide +kernel
set_option maxRecDepth 100000 in
theorem dL_law_553 : decode code 553 = .ok (.if_icmp .eq 5, 3) := by decide +kernel
set_option maxRecDepth 100000 in
theorem dL_law_558 : decode code 558 = .ok (.goto 3541, 3) := by decide +kernel
set_option maxRecDepth 100000 in
theorem dL_law_561 : decode code 561 = .ok (.aload_n 1, 1) := by decide +kernel
set_option maxRecDepth 100000 in
theorem dL_law_562 : decode code 562 = .ok (.aload_n 0, 1) := by decide +kernel
set_option maxRecDepth 100000 in
theorem dL_law_563 : decode code 563 = .ok (.iload 4, 2) := by decide +kernel
set_option maxRecDepth 100000 in
theorem dL_law_565 : decode code 565 = .ok (.iconst 1, 1) := by decide +kernel
set_option maxRecDepth 100000 in
theorem dL_law_566 : decode code 566 = .ok (.iadd, 1) := by decide +kernel
set_option maxRecDepth 100000 in
theorem dL_law_567 : decode code 567 = .ok (.iaload, 1) := by decide +kernel
set_option maxRecDepth 100000 in
theorem dL_law_568 : decode code 568 = .ok (.aload_n 0, 1) := by decide +kernel
set_option maxRecDepth 100000 in
theorem dL_law_569 : decode code 569 = .ok (.iload 4, 2) := by decide +kernel
set_option maxRecDepth 100000 in
theorem dL_law_571 : decode code 571 = .ok (.iconst 2, 1) := by decide +kernel
set_option maxRecDepth 100000 in
theorem dL_law_572 : decode code 572 = .ok (.iadd, 1) := by decide +kernel
set_option maxRecDepth 100000 in
theorem dL_law_573 : decode code 573 = .ok (.iaload, 1) := by decide +kernel
set_option maxRecDepth 100000 in
theorem dL_law_574 : decode code 574 = .ok (.aload_n 3, 1) := by decide +kernel
set_option maxRecDepth 100000 in
theorem dL_law_575 : decode code 575 = .ok (.invokestatic 219, 3) := by decide +kernel
set_option maxRecDepth 100000 in
theorem dL_law_578 : decode code 578 = .ok (.istore 5, 2) := by decide +kernel
set_option maxRecDepth 100000 in
theorem dL_law_580 : decode code 580 = .ok (.aload_n 2, 1) := by decide +kernel
set_option maxRecDepth 100000 in
theorem dL_law_581 : decode code 581 = .ok (.aload_n 0, 1) := by decide +kernel
set_option maxRecDepth 100000 in
theorem dL_law_582 : decode code 582 = .ok (.iload 4, 2) := by decide +kernel
set_option maxRecDepth 100000 in
theorem dL_law_584 : decode code 584 = .ok (.iconst 1, 1) := by decide +kernel
set_option maxRecDepth 100000 in
theorem dL_law_585 : decode code 585 = .ok (.iadd, 1) := by decide +kernel
set_option maxRecDepth 100000 in
theorem dL_law_586 : decode code 586 = .ok (.iaload, 1) := by decide +kernel
set_option maxRecDepth 100000 in
theorem dL_law_587 : decode code 587 = .ok (.aload_n 0, 1) := by decide +kernel
set_option maxRecDepth 100000 in
theorem dL_law_588 : decode code 588 = .ok (.iload 4, 2) := by decide +kernel
set_option maxRecDepth 100000 in
theorem dL_law_590 : decode code 590 = .ok (.iconst 2, 1) := by decide +kernel
set_option maxRecDepth 100000 in
theorem dL_law_591 : decode code 591 = .ok (.iadd, 1) := by decide +kernel
set_option maxRecDepth 100000 in
theorem dL_law_592 : decode code 592 = .ok (.iaload, 1) := by decide +kernel
set_option maxRecDepth 100000 in
theorem dL_law_593 : decode code 593 = .ok (.invokevirtual 222, 3) := by decide +kernel
set_option maxRecDepth 100000 in
theorem dL_law_596 : decode code 596 = .ok (.istore 6, 2) := by decide +kernel
set_option maxRecDepth 100000 in
theorem dL_law_598 : decode code 598 = .ok (.aload_n 2, 1) := by decide +kernel
set_option maxRecDepth 100000 in
theorem dL_law_599 : decode code 599 = .ok (.invokevirtual 197, 3) := by decide +kernel
set_option maxRecDepth 100000 in
theorem dL_law_602 : decode code 602 = .ok (.iload 5, 2) := by decide +kernel
set_option maxRecDepth 100000 in
theorem dL_law_604 : decode code 604 = .ok (.if_icmp .eq 5, 3) := by decide +kernel
set_option maxRecDepth 100000 in
theorem dL_law_609 : decode code 609 = .ok (.iload 5, 2) := by decide +kernel
set_option maxRecDepth 100000 in
theorem dL_law_611 : decode code 611 = .ok (.ifCond .ne 22, 3) := by decide +kernel
set_option maxRecDepth 100000 in
theorem dL_law_614 : decode code 614 = .ok (.aload_n 3, 1) := by decide +kernel
set_option maxRecDepth 100000 in
theorem dL_law_615 : decode code 615 = .ok (.iconst 0, 1) := by decide +kernel
set_option maxRecDepth 100000 in
theorem dL_law_616 : decode code 616 = .ok (.laload, 1) := by decide +kernel
set_option maxRecDepth 100000 in
theorem dL_law_617 : decode code 617 = .ok (.iload 6, 2) := by decide +kernel
set_option maxRecDepth 100000 in
theorem dL_law_619 : decode code 619 = .ok (.ifCond .eq 7, 3) := by decide +kernel
set_option maxRecDepth 100000 in
theorem dL_law_626 : decode code 626 = .ok (.lconst 0, 1) := by decide +kernel
set_option maxRecDepth 100000 in
theorem dL_law_627 : decode code 627 = .ok (.lcmp, 1) := by decide +kernel
set_option maxRecDepth 100000 in
theorem dL_law_628 : decode code 628 = .ok (.ifCond .eq 5, 3) := by decide +kernel
set_option maxRecDepth 100000 in
theorem dL_law_633 : decode code 633 = .ok (.goto 3466, 3) := by decide +kernel
set_option maxRecDepth 100000 in
theorem dL_law_636 : decode code 636 = .ok (.aload_n 1, 1) := by decide +kernel
set_option maxRecDepth 100000 in
theorem dL_law_637 : decode code 637 = .ok (.aload_n 0, 1) := by decide +kernel
set_option maxRecDepth 100000 in
theorem dL_law_638 : decode code 638 = .ok (.iload 4, 2) := by decide +kernel
set_option maxRecDepth 100000 in
theorem dL_law_640 : decode code 640 = .ok (.iconst 1, 1) := by decide +kernel
set_option maxRecDepth 100000 in
theorem dL_law_641 : decode code 641 = .ok (.iadd, 1) := by decide +kernel
set_option maxRecDepth 100000 in
theorem dL_law_642 : decode code 642 = .ok (.iaload, 1) := by decide +kernel
set_option maxRecDepth 100000 in
theorem dL_law_643 : decode code 643 = .ok (.aload_n 0, 1) := by decide +kernel
set_option maxRecDepth 100000 in
theorem dL_law_644 : decode code 644 = .ok (.iload 4, 2) := by decide +kernel
set_option maxRecDepth 100000 in
theorem dL_law_646 : decode code 646 = .ok (.iconst 2, 1) := by decide +kernel
set_option maxRecDepth 100000 in
theorem dL_law_647 : decode code 647 = .ok (.iadd, 1) := by decide +kernel
set_option maxRecDepth 100000 in
theorem dL_law_648 : decode code 648 = .ok (.iaload, 1) := by decide +kernel
set_option maxRecDepth 100000 in
theorem dL_law_649 : decode code 649 = .ok (.aload_n 3, 1) := by decide +kernel
set_option maxRecDepth 100000 in
theorem dL_law_650 : decode code 650 = .ok (.invokestatic 223, 3) := by decide +kernel
set_option maxRecDepth 100000 in
theorem dL_law_653 : decode code 653 = .ok (.istore 5, 2) := by decide +kernel
set_option maxRecDepth 100000 in
theorem dL_law_655 : decode code 655 = .ok (.aload_n 2, 1) := by decide +kernel
set_option maxRecDepth 100000 in
theorem dL_law_656 : decode code 656 = .ok (.aload_n 0, 1) := by decide +kernel
set_option maxRecDepth 100000 in
theorem dL_law_657 : decode code 657 = .ok (.iload 4, 2) := by decide +kernel
set_option maxRecDepth 100000 in
theorem dL_law_659 : decode code 659 = .ok (.iconst 1, 1) := by decide +kernel
set_option maxRecDepth 100000 in
theorem dL_law_660 : decode code 660 = .ok (.iadd, 1) := by decide +kernel
set_option maxRecDepth 100000 in
theorem dL_law_661 : decode code 661 = .ok (.iaload, 1) := by decide +kernel
set_option maxRecDepth 100000 in
theorem dL_law_662 : decode code 662 = .ok (.aload_n 0, 1) := by decide +kernel
set_option maxRecDepth 100000 in
theorem dL_law_663 : decode code 663 = .ok (.iload 4, 2) := by decide +kernel
set_option maxRecDepth 100000 in
theorem dL_law_665 : decode code 665 = .ok (.iconst 2, 1) := by decide +kernel
set_option maxRecDepth 100000 in
theorem dL_law_666 : decode code 666 = .ok (.iadd, 1) := by decide +kernel
set_option maxRecDepth 100000 in
theorem dL_law_667 : decode code 667 = .ok (.iaload, 1) := by decide +kernel
set_option maxRecDepth 100000 in
theorem dL_law_668 : decode code 668 = .ok (.invokevirtual 225, 3) := by decide +kernel
set_option maxRecDepth 100000 in
theorem dL_law_671 : decode code 671 = .ok (.istore 6, 2) := by decide +kernel
set_option maxRecDepth 100000 in
theorem dL_law_673 : decode code 673 = .ok (.aload_n 2, 1) := by decide +kernel
set_option maxRecDepth 100000 in
theorem dL_law_674 : decode code 674 = .ok (.invokevirtual 197, 3) := by decide +kernel
set_option maxRecDepth 100000 in
theorem dL_law_677 : decode code 677 = .ok (.iload 5, 2) := by decide +kernel
set_option maxRecDepth 100000 in
theorem dL_law_679 : decode code 679 = .ok (.if_icmp .eq 5, 3) := by decide +kernel
set_option maxRecDepth 100000 in
theorem dL_law_684 : decode code 684 = .ok (.iload 5, 2) := by decide +kernel
set_option maxRecDepth 100000 in
theorem dL_law_686 : decode code 686 = .ok (.ifCond .ne 15, 3) := by decide +kernel
set_option maxRecDepth 100000 in
theorem dL_law_701 : decode code 701 = .ok (.goto 3398, 3) := by decide +kernel
set_option maxRecDepth 100000 in
theorem dL_law_704 : decode code 704 = .ok (.aload_n 1, 1) := by decide +kernel
set_option maxRecDepth 100000 in
theorem dL_law_705 : decode code 705 = .ok (.aload_n 0, 1) := by decide +kernel
set_option maxRecDepth 100000 in
theorem dL_law_706 : decode code 706 = .ok (.iload 4, 2) := by decide +kernel
set_option maxRecDepth 100000 in
theorem dL_law_708 : decode code 708 = .ok (.iconst 1, 1) := by decide +kernel
set_option maxRecDepth 100000 in
theorem dL_law_709 : decode code 709 = .ok (.iadd, 1) := by decide +kernel
set_option maxRecDepth 100000 in
theorem dL_law_710 : decode code 710 = .ok (.iaload, 1) := by decide +kernel
set_option maxRecDepth 100000 in
theorem dL_law_711 : decode code 711 = .ok (.aload_n 0, 1) := by decide +kernel
set_option maxRecDepth 100000 in
theorem dL_law_712 : decode code 712 = .ok (.iload 4, 2) := by decide +kernel
set_option maxRecDepth 100000 in
theorem dL_law_714 : decode code 714 = .ok (.iconst 2, 1) := by decide +kernel
set_option maxRecDepth 100000 in
theorem dL_law_715 : decode code 715 = .ok (.iadd, 1) := by decide +kernel
set_option maxRecDepth 100000 in
theorem dL_law_716 : decode code 716 = .ok (.iaload, 1) := by decide +kernel
set_option maxRecDepth 100000 in
theorem dL_law_717 : decode code 717 = .ok (.aload_n 0, 1) := by decide +kernel
set_option maxRecDepth 100000 in
theorem dL_law_718 : decode code 718 = .ok (.iload 4, 2) := by decide +kernel
set_option maxRecDepth 100000 in
theorem dL_law_720 : decode code 720 = .ok (.iconst 3, 1) := by decide +kernel
set_option maxRecDepth 100000 in
theorem dL_law_721 : decode code 721 = .ok (.iadd, 1) := by decide +kernel
set_option maxRecDepth 100000 in
theorem dL_law_722 : decode code 722 = .ok (.iaload, 1) := by decide +kernel
set_option maxRecDepth 100000 in
theorem dL_law_723 : decode code 723 = .ok (.aload_n 3, 1) := by decide +kernel
set_option maxRecDepth 100000 in
theorem dL_law_724 : decode code 724 = .ok (.invokestatic 226, 3) := by decide +kernel
set_option maxRecDepth 100000 in
theorem dL_law_727 : decode code 727 = .ok (.istore 5, 2) := by decide +kernel
set_option maxRecDepth 100000 in
theorem dL_law_729 : decode code 729 = .ok (.aload_n 2, 1) := by decide +kernel
set_option maxRecDepth 100000 in
theorem dL_law_730 : decode code 730 = .ok (.aload_n 0, 1) := by decide +kernel
set_option maxRecDepth 100000 in
theorem dL_law_731 : decode code 731 = .ok (.iload 4, 2) := by decide +kernel
set_option maxRecDepth 100000 in
theorem dL_law_733 : decode code 733 = .ok (.iconst 1, 1) := by decide +kernel
set_option maxRecDepth 100000 in
theorem dL_law_734 : decode code 734 = .ok (.iadd, 1) := by decide +kernel
set_option maxRecDepth 100000 in
theorem dL_law_735 : decode code 735 = .ok (.iaload, 1) := by decide +kernel
set_option maxRecDepth 100000 in
theorem dL_law_736 : decode code 736 = .ok (.aload_n 0, 1) := by decide +kernel
set_option maxRecDepth 100000 in
theorem dL_law_737 : decode code 737 = .ok (.iload 4, 2) := by decide +kernel
set_option maxRecDepth 100000 in
theorem dL_law_739 : decode code 739 = .ok (.iconst 2, 1) := by decide +kernel
set_option maxRecDepth 100000 in
theorem dL_law_740 : decode code 740 = .ok (.iadd, 1) := by decide +kernel
set_option maxRecDepth 100000 in
theorem dL_law_741 : decode code 741 = .ok (.iaload, 1) := by decide +kernel
set_option maxRecDepth 100000 in
theorem dL_law_742 : decode code 742 = .ok (.aload_n 0, 1) := by decide +kernel
set_option maxRecDepth 100000 in
theorem dL_law_743 : decode code 743 = .ok (.iload 4, 2) := by decide +kernel
set_option maxRecDepth 100000 in
theorem dL_law_745 : decode code 745 = .ok (.iconst 3, 1) := by decide +kernel
set_option maxRecDepth 100000 in
theorem dL_law_746 : decode code 746 = .ok (.iadd, 1) := by decide +kernel
set_option maxRecDepth 100000 in
theorem dL_law_747 : decode code 747 = .ok (.iaload, 1) := by decide +kernel
set_option maxRecDepth 100000 in
theorem dL_law_748 : decode code 748 = .ok (.invokevirtual 229, 3) := by decide +kernel
set_option maxRecDepth 100000 in
theorem dL_law_751 : decode code 751 = .ok (.istore 6, 2) := by decide +kernel
set_option maxRecDepth 100000 in
theorem dL_law_753 : decode code 753 = .ok (.aload_n 2, 1) := by decide +kernel
set_option maxRecDepth 100000 in
theorem dL_law_754 : decode code 754 = .ok (.invokevirtual 197, 3) := by decide +kernel
set_option maxRecDepth 100000 in
theorem dL_law_757 : decode code 757 = .ok (.iload 5, 2) := by decide +kernel
set_option maxRecDepth 100000 in
theorem dL_law_759 : decode code 759 = .ok (.if_icmp .eq 5, 3) := by decide +kernel
set_option maxRecDepth 100000 in
theorem dL_law_764 : decode code 764 = .ok (.iload 5, 2) := by decide +kernel
set_option maxRecDepth 100000 in
theorem dL_law_766 : decode code 766 = .ok (.ifCond .ne 15, 3) := by decide +kernel
set_option maxRecDepth 100000 in
theorem dL_law_781 : decode code 781 = .ok (.goto 3318, 3) := by decide +kernel
set_option maxRecDepth 100000 in
theorem dL_law_784 : decode code 784 = .ok (.aload_n 1, 1) := by decide +kernel
set_option maxRecDepth 100000 in
theorem dL_law_785 : decode code 785 = .ok (.aload_n 0, 1) := by decide +kernel
set_option maxRecDepth 100000 in
theorem dL_law_786 : decode code 786 = .ok (.iload 4, 2) := by decide +kernel
set_option maxRecDepth 100000 in
theorem dL_law_788 : decode code 788 = .ok (.iconst 1, 1) := by decide +kernel
set_option maxRecDepth 100000 in
theorem dL_law_789 : decode code 789 = .ok (.iadd, 1) := by decide +kernel
set_option maxRecDepth 100000 in
theorem dL_law_790 : decode code 790 = .ok (.iaload, 1) := by decide +kernel
set_option maxRecDepth 100000 in
theorem dL_law_791 : decode code 791 = .ok (.aload_n 0, 1) := by decide +kernel
set_option maxRecDepth 100000 in
theorem dL_law_792 : decode code 792 = .ok (.iload 4, 2) := by decide +kernel
set_option maxRecDepth 100000 in
theorem dL_law_794 : decode code 794 = .ok (.iconst 2, 1) := by decide +kernel
set_option maxRecDepth 100000 in
theorem dL_law_795 : decode code 795 = .ok (.iadd, 1) := by decide +kernel
set_option maxRecDepth 100000 in
theorem dL_law_796 : decode code 796 = .ok (.iaload, 1) := by decide +kernel
set_option maxRecDepth 100000 in
theorem dL_law_797 : decode code 797 = .ok (.aload_n 3, 1) := by decide +kernel
set_option maxRecDepth 100000 in
theorem dL_law_798 : decode code 798 = .ok (.invokestatic 230, 3) := by decide +kernel
set_option maxRecDepth 100000 in
theorem dL_law_801 : decode code 801 = .ok (.istore 5, 2) := by decide +kernel
set_option maxRecDepth 100000 in
theorem dL_law_803 : decode code 803 = .ok (.aload_n 2, 1) := by decide +kernel
set_option maxRecDepth 100000 in
theorem dL_law_804 : decode code 804 = .ok (.aload_n 0, 1) := by decide +kernel
set_option maxRecDepth 100000 in
theorem dL_law_805 : decode code 805 = .ok (.iload 4, 2) := by decide +kernel
set_option maxRecDepth 100000 in
theorem dL_law_807 : decode code 807 = .ok (.iconst 1, 1) := by decide +kernel
set_option maxRecDepth 100000 in
theorem dL_law_808 : decode code 808 = .ok (.iadd, 1) := by decide +kernel
set_option maxRecDepth 100000 in
theorem dL_law_809 : decode code 809 = .ok (.iaload, 1) := by decide +kernel
set_option maxRecDepth 100000 in
theorem dL_law_810 : decode code 810 = .ok (.aload_n 0, 1) := by decide +kernel
set_option maxRecDepth 100000 in
theorem dL_law_811 : decode code 811 = .ok (.iload 4, 2) := by decide +kernel
set_option maxRecDepth 100000 in
theorem dL_law_813 : decode code 813 = .ok (.iconst 2, 1) := by decide +kernel
set_option maxRecDepth 100000 in
theorem dL_law_814 : decode code 814 = .ok (.iadd, 1) := by decide +kernel
set_option maxRecDepth 100000 in
theorem dL_law_815 : decode code 815 = .ok (.iaload, 1) := by decide +kernel
set_option maxRecDepth 100000 in
theorem dL_law_816 : decode code 816 = .ok (.invokevirtual 232, 3) := by decide +kernel
set_option maxRecDepth 100000 in
theorem dL_law_819 : decode code 819 = .ok (.istore 6, 2) := by decide +kernel
