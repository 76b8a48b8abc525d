-- ===== printed names: the law, its instructions =====
abbrev cL_law : ByteArray := code
theorem dL_law_0 : decode cL_law 0 = .ok (.new 8, 3) := by decide +kernel
theorem dL_law_3 : decode cL_law 3 = .ok (.dup, 1) := by decide +kernel
theorem dL_law_4 : decode cL_law 4 = .ok (.invokespecial 173, 3) := by decide +kernel
theorem dL_law_7 : decode cL_law 7 = .ok (.astore_n 1, 1) := by decide +kernel
theorem dL_law_8 : decode cL_law 8 = .ok (.new 174, 3) := by decide +kernel
theorem dL_law_11 : decode cL_law 11 = .ok (.dup, 1) := by decide +kernel
theorem dL_law_12 : decode cL_law 12 = .ok (.invokespecial 176, 3) := by decide +kernel
theorem dL_law_15 : decode cL_law 15 = .ok (.astore_n 2, 1) := by decide +kernel
theorem dL_law_16 : decode cL_law 16 = .ok (.iconst 1, 1) := by decide +kernel
theorem dL_law_17 : decode cL_law 17 = .ok (.newarray .long, 2) := by decide +kernel
theorem dL_law_19 : decode cL_law 19 = .ok (.astore_n 3, 1) := by decide +kernel
theorem dL_law_20 : decode cL_law 20 = .ok (.iconst 1, 1) := by decide +kernel
theorem dL_law_21 : decode cL_law 21 = .ok (.newarray .double, 2) := by decide +kernel
theorem dL_law_23 : decode cL_law 23 = .ok (.astore 4, 2) := by decide +kernel
theorem dL_law_25 : decode cL_law 25 = .ok (.iconst 0, 1) := by decide +kernel
theorem dL_law_26 : decode cL_law 26 = .ok (.istore 5, 2) := by decide +kernel
theorem dL_law_28 : decode cL_law 28 = .ok (.iload 5, 2) := by decide +kernel
theorem dL_law_30 : decode cL_law 30 = .ok (.aload_n 0, 1) := by decide +kernel
theorem dL_law_31 : decode cL_law 31 = .ok (.arraylength, 1) := by decide +kernel
theorem dL_law_32 : decode cL_law 32 = .ok (.bipush 9, 2) := by decide +kernel
theorem dL_law_34 : decode cL_law 34 = .ok (.isub, 1) := by decide +kernel
theorem dL_law_35 : decode cL_law 35 = .ok (.if_icmp .gt 3582, 3) := by decide +kernel
theorem dL_law_38 : decode cL_law 38 = .ok (.aload_n 0, 1) := by decide +kernel
theorem dL_law_39 : decode cL_law 39 = .ok (.iload 5, 2) := by decide +kernel
theorem dL_law_41 : decode cL_law 41 = .ok (.iaload, 1) := by decide +kernel
theorem dL_law_42 : decode cL_law 42 = .ok (.bipush 63, 2) := by decide +kernel
theorem dL_law_44 : decode cL_law 44 = .ok (.iand, 1) := by decide +kernel
theorem dL_law_45 : decode cL_law 45 = .ok (.tableswitch 3566 0 45 #[199, 269, 353, 421, 489, 569, 637, 705, 797, 865, 945, 1039, 1173, 1265, 1373, 1429, 1492, 1572, 1664, 1744, 1906, 1986, 2042, 2098, 2201, 2292, 2360, 2416, 2508, 2564, 2608, 2676, 2732, 2788, 2891, 2947, 3034, 3104, 3160, 3204, 3248, 3328, 3408, 3422, 3488, 3553], 199) := by decide +kernel
theorem dL_law_244 : decode cL_law 244 = .ok (.aload_n 1, 1) := by decide +kernel
theorem dL_law_245 : decode cL_law 245 = .ok (.aload_n 0, 1) := by decide +kernel
theorem dL_law_246 : decode cL_law 246 = .ok (.iload 5, 2) := by decide +kernel
theorem dL_law_248 : decode cL_law 248 = .ok (.iconst 1, 1) := by decide +kernel
theorem dL_law_249 : decode cL_law 249 = .ok (.iadd, 1) := by decide +kernel
theorem dL_law_250 : decode cL_law 250 = .ok (.iaload, 1) := by decide +kernel
theorem dL_law_251 : decode cL_law 251 = .ok (.i2c, 1) := by decide +kernel
theorem dL_law_252 : decode cL_law 252 = .ok (.aload_n 0, 1) := by decide +kernel
theorem dL_law_253 : decode cL_law 253 = .ok (.iload 5, 2) := by decide +kernel
theorem dL_law_255 : decode cL_law 255 = .ok (.iconst 2, 1) := by decide +kernel
theorem dL_law_256 : decode cL_law 256 = .ok (.iadd, 1) := by decide +kernel
theorem dL_law_257 : decode cL_law 257 = .ok (.iaload, 1) := by decide +kernel
theorem dL_law_258 : decode cL_law 258 = .ok (.aload_n 3, 1) := by decide +kernel
theorem dL_law_259 : decode cL_law 259 = .ok (.invokestatic 177, 3) := by decide +kernel
theorem dL_law_262 : decode cL_law 262 = .ok (.istore 6, 2) := by decide +kernel
theorem dL_law_264 : decode cL_law 264 = .ok (.aload_n 2, 1) := by decide +kernel
theorem dL_law_265 : decode cL_law 265 = .ok (.aload_n 0, 1) := by decide +kernel
theorem dL_law_266 : decode cL_law 266 = .ok (.iload 5, 2) := by decide +kernel
theorem dL_law_268 : decode cL_law 268 = .ok (.iconst 1, 1) := by decide +kernel
theorem dL_law_269 : decode cL_law 269 = .ok (.iadd, 1) := by decide +kernel
theorem dL_law_270 : decode cL_law 270 = .ok (.iaload, 1) := by decide +kernel
theorem dL_law_271 : decode cL_law 271 = .ok (.i2c, 1) := by decide +kernel
theorem dL_law_272 : decode cL_law 272 = .ok (.aload_n 0, 1) := by decide +kernel
theorem dL_law_273 : decode cL_law 273 = .ok (.iload 5, 2) := by decide +kernel
theorem dL_law_275 : decode cL_law 275 = .ok (.iconst 2, 1) := by decide +kernel
theorem dL_law_276 : decode cL_law 276 = .ok (.iadd, 1) := by decide +kernel
theorem dL_law_277 : decode cL_law 277 = .ok (.iaload, 1) := by decide +kernel
theorem dL_law_278 : decode cL_law 278 = .ok (.invokevirtual 182, 3) := by decide +kernel
theorem dL_law_281 : decode cL_law 281 = .ok (.istore 7, 2) := by decide +kernel
theorem dL_law_283 : decode cL_law 283 = .ok (.aload_n 2, 1) := by decide +kernel
theorem dL_law_284 : decode cL_law 284 = .ok (.invokevirtual 183, 3) := by decide +kernel
theorem dL_law_287 : decode cL_law 287 = .ok (.iload 6, 2) := by decide +kernel
theorem dL_law_289 : decode cL_law 289 = .ok (.if_icmp .eq 5, 3) := by decide +kernel
theorem dL_law_294 : decode cL_law 294 = .ok (.iload 6, 2) := by decide +kernel
theorem dL_law_296 : decode cL_law 296 = .ok (.ifCond .ne 15, 3) := by decide +kernel
theorem dL_law_299 : decode cL_law 299 = .ok (.aload_n 3, 1) := by decide +kernel
theorem dL_law_300 : decode cL_law 300 = .ok (.iconst 0, 1) := by decide +kernel
theorem dL_law_301 : decode cL_law 301 = .ok (.laload, 1) := by decide +kernel
theorem dL_law_302 : decode cL_law 302 = .ok (.iload 7, 2) := by decide +kernel
theorem dL_law_304 : decode cL_law 304 = .ok (.i2l, 1) := by decide +kernel
theorem dL_law_305 : decode cL_law 305 = .ok (.lcmp, 1) := by decide +kernel
theorem dL_law_306 : decode cL_law 306 = .ok (.ifCond .eq 5, 3) := by decide +kernel
theorem dL_law_311 : decode cL_law 311 = .ok (.goto 3300, 3) := by decide +kernel
theorem dL_law_314 : decode cL_law 314 = .ok (.aload_n 1, 1) := by decide +kernel
theorem dL_law_315 : decode cL_law 315 = .ok (.aload_n 0, 1) := by decide +kernel
theorem dL_law_316 : decode cL_law 316 = .ok (.iload 5, 2) := by decide +kernel
theorem dL_law_318 : decode cL_law 318 = .ok (.iconst 1, 1) := by decide +kernel
theorem dL_law_319 : decode cL_law 319 = .ok (.iadd, 1) := by decide +kernel
theorem dL_law_320 : decode cL_law 320 = .ok (.iaload, 1) := by decide +kernel
theorem dL_law_321 : decode cL_law 321 = .ok (.i2c, 1) := by decide +kernel
theorem dL_law_322 : decode cL_law 322 = .ok (.aload_n 0, 1) := by decide +kernel
theorem dL_law_323 : decode cL_law 323 = .ok (.iload 5, 2) := by decide +kernel
theorem dL_law_325 : decode cL_law 325 = .ok (.iconst 2, 1) := by decide +kernel
theorem dL_law_326 : decode cL_law 326 = .ok (.iadd, 1) := by decide +kernel
theorem dL_law_327 : decode cL_law 327 = .ok (.iaload, 1) := by decide +kernel
theorem dL_law_328 : decode cL_law 328 = .ok (.aload_n 0, 1) := by decide +kernel
theorem dL_law_329 : decode cL_law 329 = .ok (.iload 5, 2) := by decide +kernel
theorem dL_law_331 : decode cL_law 331 = .ok (.iconst 3, 1) := by decide +kernel
theorem dL_law_332 : decode cL_law 332 = .ok (.iadd, 1) := by decide +kernel
theorem dL_law_333 : decode cL_law 333 = .ok (.iaload, 1) := by decide +kernel
theorem dL_law_334 : decode cL_law 334 = .ok (.i2c, 1) := by decide +kernel
theorem dL_law_335 : decode cL_law 335 = .ok (.aload_n 3, 1) := by decide +kernel
theorem dL_law_336 : decode cL_law 336 = .ok (.invokestatic 186, 3) := by decide +kernel
theorem dL_law_339 : decode cL_law 339 = .ok (.istore 6, 2) := by decide +kernel
theorem dL_law_341 : decode cL_law 341 = .ok (.aload_n 2, 1) := by decide +kernel
theorem dL_law_342 : decode cL_law 342 = .ok (.aload_n 0, 1) := by decide +kernel
theorem dL_law_343 : decode cL_law 343 = .ok (.iload 5, 2) := by decide +kernel
theorem dL_law_345 : decode cL_law 345 = .ok (.iconst 1, 1) := by decide +kernel
theorem dL_law_346 : decode cL_law 346 = .ok (.iadd, 1) := by decide +kernel
theorem dL_law_347 : decode cL_law 347 = .ok (.iaload, 1) := by decide +kernel
theorem dL_law_348 : decode cL_law 348 = .ok (.i2c, 1) := by decide +kernel
theorem dL_law_349 : decode cL_law 349 = .ok (.aload_n 0, 1) := by decide +kernel
theorem dL_law_350 : decode cL_law 350 = .ok (.iload 5, 2) := by decide +kernel
theorem dL_law_352 : decode cL_law 352 = .ok (.iconst 2, 1) := by decide +kernel
theorem dL_law_353 : decode cL_law 353 = .ok (.iadd, 1) := by decide +kernel
theorem dL_law_354 : decode cL_law 354 = .ok (.iaload, 1) := by decide +kernel
theorem dL_law_355 : decode cL_law 355 = .ok (.aload_n 0, 1) := by decide +kernel
theorem dL_law_356 : decode cL_law 356 = .ok (.iload 5, 2) := by decide +kernel
theorem dL_law_358 : decode cL_law 358 = .ok (.iconst 3, 1) := by decide +kernel
theorem dL_law_359 : decode cL_law 359 = .ok (.iadd, 1) := by decide +kernel
theorem dL_law_360 : decode cL_law 360 = .ok (.iaload, 1) := by decide +kernel
theorem dL_law_361 : decode cL_law 361 = .ok (.i2c, 1) := by decide +kernel
theorem dL_law_362 : decode cL_law 362 = .ok (.invokevirtual 189, 3) := by decide +kernel
theorem dL_law_365 : decode cL_law 365 = .ok (.istore 7, 2) := by decide +kernel
theorem dL_law_367 : decode cL_law 367 = .ok (.aload_n 2, 1) := by decide +kernel
theorem dL_law_368 : decode cL_law 368 = .ok (.invokevirtual 183, 3) := by decide +kernel
theorem dL_law_371 : decode cL_law 371 = .ok (.iload 6, 2) := by decide +kernel
theorem dL_law_373 : decode cL_law 373 = .ok (.if_icmp .eq 5, 3) := by decide +kernel
theorem dL_law_378 : decode cL_law 378 = .ok (.iload 6, 2) := by decide +kernel
theorem dL_law_380 : decode cL_law 380 = .ok (.ifCond .ne 15, 3) := by decide +kernel
theorem dL_law_383 : decode cL_law 383 = .ok (.aload_n 3, 1) := by decide +kernel
theorem dL_law_384 : decode cL_law 384 = .ok (.iconst 0, 1) := by decide +kernel
theorem dL_law_385 : decode cL_law 385 = .ok (.laload, 1) := by decide +kernel
theorem dL_law_386 : decode cL_law 386 = .ok (.iload 7, 2) := by decide +kernel
theorem dL_law_388 : decode cL_law 388 = .ok (.i2l, 1) := by decide +kernel
theorem dL_law_389 : decode cL_law 389 = .ok (.lcmp, 1) := by decide +kernel
theorem dL_law_390 : decode cL_law 390 = .ok (.ifCond .eq 5, 3) := by decide +kernel
theorem dL_law_395 : decode cL_law 395 = .ok (.goto 3216, 3) := by decide +kernel
theorem dL_law_398 : decode cL_law 398 = .ok (.aload_n 1, 1) := by decide +kernel
theorem dL_law_399 : decode cL_law 399 = .ok (.aload_n 0, 1) := by decide +kernel
theorem dL_law_400 : decode cL_law 400 = .ok (.iload 5, 2) := by decide +kernel
theorem dL_law_402 : decode cL_law 402 = .ok (.iconst 1, 1) := by decide +kernel
theorem dL_law_403 : decode cL_law 403 = .ok (.iadd, 1) := by decide +kernel
theorem dL_law_404 : decode cL_law 404 = .ok (.iaload, 1) := by decide +kernel
theorem dL_law_405 : decode cL_law 405 = .ok (.aload_n 0, 1) := by decide +kernel
theorem dL_law_406 : decode cL_law 406 = .ok (.iload 5, 2) := by decide +kernel
theorem dL_law_408 : decode cL_law 408 = .ok (.iconst 2, 1) := by decide +kernel
theorem dL_law_409 : decode cL_law 409 = .ok (.iadd, 1) := by decide +kernel
theorem dL_law_410 : decode cL_law 410 = .ok (.iaload, 1) := by decide +kernel
theorem dL_law_411 : decode cL_law 411 = .ok (.aload_n 3, 1) := by decide +kernel
theorem dL_law_412 : decode cL_law 412 = .ok (.invokestatic 190, 3) := by decide +kernel
theorem dL_law_415 : decode cL_law 415 = .ok (.istore 6, 2) := by decide +kernel
theorem dL_law_417 : decode cL_law 417 = .ok (.aload_n 2, 1) := by decide +kernel
theorem dL_law_418 : decode cL_law 418 = .ok (.aload_n 0, 1) := by decide +kernel
theorem dL_law_419 : decode cL_law 419 = .ok (.iload 5, 2) := by decide +kernel
theorem dL_law_421 : decode cL_law 421 = .ok (.iconst 1, 1) := by decide +kernel
theorem dL_law_422 : decode cL_law 422 = .ok (.iadd, 1) := by decide +kernel
theorem dL_law_423 : decode cL_law 423 = .ok (.iaload, 1) := by decide +kernel
theorem dL_law_424 : decode cL_law 424 = .ok (.aload_n 0, 1) := by decide +kernel
theorem dL_law_425 : decode cL_law 425 = .ok (.iload 5, 2) := by decide +kernel
theorem dL_law_427 : decode cL_law 427 = .ok (.iconst 2, 1) := by decide +kernel
theorem dL_law_428 : decode cL_law 428 = .ok (.iadd, 1) := by decide +kernel
theorem dL_law_429 : decode cL_law 429 = .ok (.iaload, 1) := by decide +kernel
theorem dL_law_430 : decode cL_law 430 = .ok (.invokevirtual 193, 3) := by decide +kernel
theorem dL_law_433 : decode cL_law 433 = .ok (.istore 7, 2) := by decide +kernel
theorem dL_law_435 : decode cL_law 435 = .ok (.aload_n 2, 1) := by decide +kernel
theorem dL_law_436 : decode cL_law 436 = .ok (.invokevirtual 183, 3) := by decide +kernel
theorem dL_law_439 : decode cL_law 439 = .ok (.iload 6, 2) := by decide +kernel
theorem dL_law_441 : decode cL_law 441 = .ok (.if_icmp .eq 5, 3) := by decide +kernel
theorem dL_law_446 : decode cL_law 446 = .ok (.iload 6, 2) := by decide +kernel
theorem dL_law_448 : decode cL_law 448 = .ok (.ifCond .ne 15, 3) := by decide +kernel
theorem dL_law_451 : decode cL_law 451 = .ok (.aload_n 3, 1) := by decide +kernel
theorem dL_law_452 : decode cL_law 452 = .ok (.iconst 0, 1) := by decide +kernel
theorem dL_law_453 : decode cL_law 453 = .ok (.laload, 1) := by decide +kernel
theorem dL_law_454 : decode cL_law 454 = .ok (.iload 7, 2) := by decide +kernel
theorem dL_law_456 : decode cL_law 456 = .ok (.i2l, 1) := by decide +kernel
theorem dL_law_457 : decode cL_law 457 = .ok (.lcmp, 1) := by decide +kernel
theorem dL_law_458 : decode cL_law 458 = .ok (.ifCond .eq 5, 3) := by decide +kernel
theorem dL_law_463 : decode cL_law 463 = .ok (.goto 3148, 3) := by decide +kernel
theorem dL_law_466 : decode cL_law 466 = .ok (.aload_n 1, 1) := by decide +kernel
theorem dL_law_467 : decode cL_law 467 = .ok (.aload_n 0, 1) := by decide +kernel
theorem dL_law_468 : decode cL_law 468 = .ok (.iload 5, 2) := by decide +kernel
theorem dL_law_470 : decode cL_law 470 = .ok (.iconst 1, 1) := by decide +kernel
theorem dL_law_471 : decode cL_law 471 = .ok (.iadd, 1) := by decide +kernel
theorem dL_law_472 : decode cL_law 472 = .ok (.iaload, 1) := by decide +kernel
theorem dL_law_473 : decode cL_law 473 = .ok (.aload_n 0, 1) := by decide +kernel
theorem dL_law_474 : decode cL_law 474 = .ok (.iload 5, 2) := by decide +kernel
theorem dL_law_476 : decode cL_law 476 = .ok (.iconst 2, 1) := by decide +kernel
theorem dL_law_477 : decode cL_law 477 = .ok (.iadd, 1) := by decide +kernel
theorem dL_law_478 : decode cL_law 478 = .ok (.iaload, 1) := by decide +kernel
theorem dL_law_479 : decode cL_law 479 = .ok (.aload_n 3, 1) := by decide +kernel
theorem dL_law_480 : decode cL_law 480 = .ok (.invokestatic 194, 3) := by decide +kernel
theorem dL_law_483 : decode cL_law 483 = .ok (.istore 6, 2) := by decide +kernel
theorem dL_law_485 : decode cL_law 485 = .ok (.aload_n 2, 1) := by decide +kernel
theorem dL_law_486 : decode cL_law 486 = .ok (.aload_n 0, 1) := by decide +kernel
theorem dL_law_487 : decode cL_law 487 = .ok (.iload 5, 2) := by decide +kernel
theorem dL_law_489 : decode cL_law 489 = .ok (.iconst 1, 1) := by decide +kernel
theorem dL_law_490 : decode cL_law 490 = .ok (.iadd, 1) := by decide +kernel
theorem dL_law_491 : decode cL_law 491 = .ok (.iaload, 1) := by decide +kernel
theorem dL_law_492 : decode cL_law 492 = .ok (.aload_n 0, 1) := by decide +kernel
theorem dL_law_493 : decode cL_law 493 = .ok (.iload 5, 2) := by decide +kernel
theorem dL_law_495 : decode cL_law 495 = .ok (.iconst 2, 1) := by decide +kernel
theorem dL_law_496 : decode cL_law 496 = .ok (.iadd, 1) := by decide +kernel
theorem dL_law_497 : decode cL_law 497 = .ok (.iaload, 1) := by decide +kernel
theorem dL_law_498 : decode cL_law 498 = .ok (.invokevirtual 196, 3) := by decide +kernel
theorem dL_law_501 : decode cL_law 501 = .ok (.istore 7, 2) := by decide +kernel
theorem dL_law_503 : decode cL_law 503 = .ok (.aload_n 2, 1) := by decide +kernel
theorem dL_law_504 : decode cL_law 504 = .ok (.invokevirtual 183, 3) := by decide +kernel
theorem dL_law_507 : decode cL_law 507 = .ok (.iload 6, 2) := by decide +kernel
theorem dL_law_509 : decode cL_law 509 = .ok (.if_icmp .eq 5, 3) := by decide +kernel
theorem dL_law_514 : decode cL_law 514 = .ok (.iload 6, 2) := by decide +kernel
theorem dL_law_516 : decode cL_law 516 = .ok (.ifCond .ne 15, 3) := by decide +kernel
theorem dL_law_531 : decode cL_law 531 = .ok (.goto 3080, 3) := by decide +kernel
theorem dL_law_534 : decode cL_law 534 = .ok (.aload_n 1, 1) := by decide +kernel
theorem dL_law_535 : decode cL_law 535 = .ok (.aload_n 0, 1) := by decide +kernel
theorem dL_law_536 : decode cL_law 536 = .ok (.iload 5, 2) := by decide +kernel
theorem dL_law_538 : decode cL_law 538 = .ok (.iconst 1, 1) := by decide +kernel
theorem dL_law_539 : decode cL_law 539 = .ok (.iadd, 1) := by decide +kernel
theorem dL_law_540 : decode cL_law 540 = .ok (.iaload, 1) := by decide +kernel
theorem dL_law_541 : decode cL_law 541 = .ok (.aload_n 0, 1) := by decide +kernel
theorem dL_law_542 : decode cL_law 542 = .ok (.iload 5, 2) := by decide +kernel
theorem dL_law_544 : decode cL_law 544 = .ok (.iconst 2, 1) := by decide +kernel
theorem dL_law_545 : decode cL_law 545 = .ok (.iadd, 1) := by decide +kernel
theorem dL_law_546 : decode cL_law 546 = .ok (.iaload, 1) := by decide +kernel
theorem dL_law_547 : decode cL_law 547 = .ok (.aload_n 0, 1) := by decide +kernel
theorem dL_law_548 : decode cL_law 548 = .ok (.iload 5, 2) := by decide +kernel
theorem dL_law_550 : decode cL_law 550 = .ok (.iconst 3, 1) := by decide +kernel
theorem dL_law_551 : decode cL_law 551 = .ok (.iadd, 1) := by decide +kernel
theorem dL_law_552 : decode cL_law 552 = .ok (.iaload, 1) := by decide +kernel
theorem dL_law_553 : decode cL_law 553 = .ok (.aload_n 3, 1) := by decide +kernel
theorem dL_law_554 : decode cL_law 554 = .ok (.invokestatic 197, 3) := by decide +kernel
theorem dL_law_557 : decode cL_law 557 = .ok (.istore 6, 2) := by decide +kernel
theorem dL_law_559 : decode cL_law 559 = .ok (.aload_n 2, 1) := by decide +kernel
theorem dL_law_560 : decode cL_law 560 = .ok (.aload_n 0, 1) := by decide +kernel
theorem dL_law_561 : decode cL_law 561 = .ok (.iload 5, 2) := by decide +kernel
theorem dL_law_563 : decode cL_law 563 = .ok (.iconst 1, 1) := by decide +kernel
theorem dL_law_564 : decode cL_law 564 = .ok (.iadd, 1) := by decide +kernel
theorem dL_law_565 : decode cL_law 565 = .ok (.iaload, 1) := by decide +kernel
theorem dL_law_566 : decode cL_law 566 = .ok (.aload_n 0, 1) := by decide +kernel
theorem dL_law_567 : decode cL_law 567 = .ok (.iload 5, 2) := by decide +kernel
theorem dL_law_569 : decode cL_law 569 = .ok (.iconst 2, 1) := by decide +kernel
theorem dL_law_570 : decode cL_law 570 = .ok (.iadd, 1) := by decide +kernel
theorem dL_law_571 : decode cL_law 571 = .ok (.iaload, 1) := by decide +kernel
theorem dL_law_572 : decode cL_law 572 = .ok (.aload_n 0, 1) := by decide +kernel
theorem dL_law_573 : decode cL_law 573 = .ok (.iload 5, 2) := by decide +kernel
theorem dL_law_575 : decode cL_law 575 = .ok (.iconst 3, 1) := by decide +kernel
theorem dL_law_576 : decode cL_law 576 = .ok (.iadd, 1) := by decide +kernel
theorem dL_law_577 : decode cL_law 577 = .ok (.iaload, 1) := by decide +kernel
theorem dL_law_578 : decode cL_law 578 = .ok (.invokevirtual 200, 3) := by decide +kernel
theorem dL_law_581 : decode cL_law 581 = .ok (.istore 7, 2) := by decide +kernel
theorem dL_law_583 : decode cL_law 583 = .ok (.aload_n 2, 1) := by decide +kernel
theorem dL_law_584 : decode cL_law 584 = .ok (.invokevirtual 183, 3) := by decide +kernel
theorem dL_law_587 : decode cL_law 587 = .ok (.iload 6, 2) := by decide +kernel
theorem dL_law_589 : decode cL_law 589 = .ok (.if_icmp .eq 5, 3) := by decide +kernel
theorem dL_law_594 : decode cL_law 594 = .ok (.iload 6, 2) := by decide +kernel
theorem dL_law_596 : decode cL_law 596 = .ok (.ifCond .ne 15, 3) := by decide +kernel
theorem dL_law_611 : decode cL_law 611 = .ok (.goto 3000, 3) := by decide +kernel
theorem dL_law_614 : decode cL_law 614 = .ok (.aload_n 1, 1) := by decide +kernel
theorem dL_law_615 : decode cL_law 615 = .ok (.aload_n 0, 1) := by decide +kernel
theorem dL_law_616 : decode cL_law 616 = .ok (.iload 5, 2) := by decide +kernel
theorem dL_law_618 : decode cL_law 618 = .ok (.iconst 1, 1) := by decide +kernel
theorem dL_law_619 : decode cL_law 619 = .ok (.iadd, 1) := by decide +kernel
theorem dL_law_620 : decode cL_law 620 = .ok (.iaload, 1) := by decide +kernel
theorem dL_law_621 : decode cL_law 621 = .ok (.aload_n 0, 1) := by decide +kernel
theorem dL_law_622 : decode cL_law 622 = .ok (.iload 5, 2) := by decide +kernel
theorem dL_law_624 : decode cL_law 624 = .ok (.iconst 2, 1) := by decide +kernel
theorem dL_law_625 : decode cL_law 625 = .ok (.iadd, 1) := by decide +kernel
theorem dL_law_626 : decode cL_law 626 = .ok (.iaload, 1) := by decide +kernel
theorem dL_law_627 : decode cL_law 627 = .ok (.aload_n 3, 1) := by decide +kernel
theorem dL_law_628 : decode cL_law 628 = .ok (.invokestatic 201, 3) := by decide +kernel
theorem dL_law_631 : decode cL_law 631 = .ok (.istore 6, 2) := by decide +kernel
theorem dL_law_633 : decode cL_law 633 = .ok (.aload_n 2, 1) := by decide +kernel
theorem dL_law_634 : decode cL_law 634 = .ok (.aload_n 0, 1) := by decide +kernel
theorem dL_law_635 : decode cL_law 635 = .ok (.iload 5, 2) := by decide +kernel
theorem dL_law_637 : decode cL_law 637 = .ok (.iconst 1, 1) := by decide +kernel
theorem dL_law_638 : decode cL_law 638 = .ok (.iadd, 1) := by decide +kernel
theorem dL_law_639 : decode cL_law 639 = .ok (.iaload, 1) := by decide +kernel
theorem dL_law_640 : decode cL_law 640 = .ok (.aload_n 0, 1) := by decide +kernel
theorem dL_law_641 : decode cL_law 641 = .ok (.iload 5, 2) := by decide +kernel
theorem dL_law_643 : decode cL_law 643 = .ok (.iconst 2, 1) := by decide +kernel
theorem dL_law_644 : decode cL_law 644 = .ok (.iadd, 1) := by decide +kernel
theorem dL_law_645 : decode cL_law 645 = .ok (.iaload, 1) := by decide +kernel
theorem dL_law_646 : decode cL_law 646 = .ok (.invokevirtual 203, 3) := by decide +kernel
theorem dL_law_649 : decode cL_law 649 = .ok (.istore 7, 2) := by decide +kernel
theorem dL_law_651 : decode cL_law 651 = .ok (.aload_n 2, 1) := by decide +kernel
theorem dL_law_652 : decode cL_law 652 = .ok (.invokevirtual 183, 3) := by decide +kernel
theorem dL_law_655 : decode cL_law 655 = .ok (.iload 6, 2) := by decide +kernel
theorem dL_law_657 : decode cL_law 657 = .ok (.if_icmp .eq 5, 3) := by decide +kernel
theorem dL_law_662 : decode cL_law 662 = .ok (.iload 6, 2) := by decide +kernel
theorem dL_law_664 : decode cL_law 664 = .ok (.ifCond .ne 15, 3) := by decide +kernel
theorem dL_law_679 : decode cL_law 679 = .ok (.goto 2932, 3) := by decide +kernel
theorem dL_law_682 : decode cL_law 682 = .ok (.aload_n 1, 1) := by decide +kernel
theorem dL_law_683 : decode cL_law 683 = .ok (.aload_n 0, 1) := by decide +kernel
theorem dL_law_684 : decode cL_law 684 = .ok (.iload 5, 2) := by decide +kernel
theorem dL_law_686 : decode cL_law 686 = .ok (.iconst 1, 1) := by decide +kernel
theorem dL_law_687 : decode cL_law 687 = .ok (.iadd, 1) := by decide +kernel
theorem dL_law_688 : decode cL_law 688 = .ok (.iaload, 1) := by decide +kernel
theorem dL_law_689 : decode cL_law 689 = .ok (.aload_n 0, 1) := by decide +kernel
theorem dL_law_690 : decode cL_law 690 = .ok (.iload 5, 2) := by decide +kernel
theorem dL_law_692 : decode cL_law 692 = .ok (.iconst 2, 1) := by decide +kernel
theorem dL_law_693 : decode cL_law 693 = .ok (.iadd, 1) := by decide +kernel
theorem dL_law_694 : decode cL_law 694 = .ok (.iaload, 1) := by decide +kernel
theorem dL_law_695 : decode cL_law 695 = .ok (.aload_n 3, 1) := by decide +kernel
theorem dL_law_696 : decode cL_law 696 = .ok (.invokestatic 204, 3) := by decide +kernel
theorem dL_law_699 : decode cL_law 699 = .ok (.istore 6, 2) := by decide +kernel
theorem dL_law_701 : decode cL_law 701 = .ok (.aload_n 2, 1) := by decide +kernel
theorem dL_law_702 : decode cL_law 702 = .ok (.aload_n 0, 1) := by decide +kernel
theorem dL_law_703 : decode cL_law 703 = .ok (.iload 5, 2) := by decide +kernel
theorem dL_law_705 : decode cL_law 705 = .ok (.iconst 1, 1) := by decide +kernel
theorem dL_law_706 : decode cL_law 706 = .ok (.iadd, 1) := by decide +kernel
theorem dL_law_707 : decode cL_law 707 = .ok (.iaload, 1) := by decide +kernel
theorem dL_law_708 : decode cL_law 708 = .ok (.aload_n 0, 1) := by decide +kernel
theorem dL_law_709 : decode cL_law 709 = .ok (.iload 5, 2) := by decide +kernel
theorem dL_law_711 : decode cL_law 711 = .ok (.iconst 2, 1) := by decide +kernel
theorem dL_law_712 : decode cL_law 712 = .ok (.iadd, 1) := by decide +kernel
theorem dL_law_713 : decode cL_law 713 = .ok (.iaload, 1) := by decide +kernel
theorem dL_law_714 : decode cL_law 714 = .ok (.invokevirtual 206, 3) := by decide +kernel
theorem dL_law_717 : decode cL_law 717 = .ok (.istore 7, 2) := by decide +kernel
theorem dL_law_719 : decode cL_law 719 = .ok (.aload_n 2, 1) := by decide +kernel
theorem dL_law_720 : decode cL_law 720 = .ok (.invokevirtual 183, 3) := by decide +kernel
theorem dL_law_723 : decode cL_law 723 = .ok (.iload 6, 2) := by decide +kernel
theorem dL_law_725 : decode cL_law 725 = .ok (.if_icmp .eq 5, 3) := by decide +kernel
theorem dL_law_730 : decode cL_law 730 = .ok (.iload 6, 2) := by decide +kernel
theorem dL_law_732 : decode cL_law 732 = .ok (.ifCond .ne 15, 3) := by decide +kernel
theorem dL_law_747 : decode cL_law 747 = .ok (.goto 2864, 3) := by decide +kernel
theorem dL_law_750 : decode cL_law 750 = .ok (.aload_n 1, 1) := by decide +kernel
theorem dL_law_751 : decode cL_law 751 = .ok (.aload_n 0, 1) := by decide +kernel
theorem dL_law_752 : decode cL_law 752 = .ok (.iload 5, 2) := by decide +kernel
theorem dL_law_754 : decode cL_law 754 = .ok (.iconst 1, 1) := by decide +kernel
theorem dL_law_755 : decode cL_law 755 = .ok (.iadd, 1) := by decide +kernel
theorem dL_law_756 : decode cL_law 756 = .ok (.iaload, 1) := by decide +kernel
theorem dL_law_757 : decode cL_law 757 = .ok (.aload_n 0, 1) := by decide +kernel
theorem dL_law_758 : decode cL_law 758 = .ok (.iload 5, 2) := by decide +kernel
theorem dL_law_760 : decode cL_law 760 = .ok (.iconst 2, 1) := by decide +kernel
theorem dL_law_761 : decode cL_law 761 = .ok (.iadd, 1) := by decide +kernel
theorem dL_law_762 : decode cL_law 762 = .ok (.iaload, 1) := by decide +kernel
theorem dL_law_763 : decode cL_law 763 = .ok (.aload_n 0, 1) := by decide +kernel
theorem dL_law_764 : decode cL_law 764 = .ok (.iload 5, 2) := by decide +kernel
theorem dL_law_766 : decode cL_law 766 = .ok (.iconst 3, 1) := by decide +kernel
theorem dL_law_767 : decode cL_law 767 = .ok (.iadd, 1) := by decide +kernel
theorem dL_law_768 : decode cL_law 768 = .ok (.iaload, 1) := by decide +kernel
theorem dL_law_769 : decode cL_law 769 = .ok (.aload_n 0, 1) := by decide +kernel
theorem dL_law_770 : decode cL_law 770 = .ok (.iload 5, 2) := by decide +kernel
theorem dL_law_772 : decode cL_law 772 = .ok (.iconst 4, 1) := by decide +kernel
theorem dL_law_773 : decode cL_law 773 = .ok (.iadd, 1) := by decide +kernel
theorem dL_law_774 : decode cL_law 774 = .ok (.iaload, 1) := by decide +kernel
theorem dL_law_775 : decode cL_law 775 = .ok (.aload_n 3, 1) := by decide +kernel
theorem dL_law_776 : decode cL_law 776 = .ok (.invokestatic 207, 3) := by decide +kernel
theorem dL_law_779 : decode cL_law 779 = .ok (.istore 6, 2) := by decide +kernel
theorem dL_law_781 : decode cL_law 781 = .ok (.aload_n 2, 1) := by decide +kernel
theorem dL_law_782 : decode cL_law 782 = .ok (.aload_n 0, 1) := by decide +kernel
theorem dL_law_783 : decode cL_law 783 = .ok (.iload 5, 2) := by decide +kernel
theorem dL_law_785 : decode cL_law 785 = .ok (.iconst 1, 1) := by decide +kernel
theorem dL_law_786 : decode cL_law 786 = .ok (.iadd, 1) := by decide +kernel
theorem dL_law_787 : decode cL_law 787 = .ok (.iaload, 1) := by decide +kernel
theorem dL_law_788 : decode cL_law 788 = .ok (.aload_n 0, 1) := by decide +kernel
theorem dL_law_789 : decode cL_law 789 = .ok (.iload 5, 2) := by decide +kernel
theorem dL_law_791 : decode cL_law 791 = .ok (.iconst 2, 1) := by decide +kernel
theorem dL_law_792 : decode cL_law 792 = .ok (.iadd, 1) := by decide +kernel
theorem dL_law_793 : decode cL_law 793 = .ok (.iaload, 1) := by decide +kernel
theorem dL_law_794 : decode cL_law 794 = .ok (.aload_n 0, 1) := by decide +kernel
theorem dL_law_795 : decode cL_law 795 = .ok (.iload 5, 2) := by decide +kernel
theorem dL_law_797 : decode cL_law 797 = .ok (.iconst 3, 1) := by decide +kernel
theorem dL_law_798 : decode cL_law 798 = .ok (.iadd, 1) := by decide +kernel
theorem dL_law_799 : decode cL_law 799 = .ok (.iaload, 1) := by decide +kernel
theorem dL_law_800 : decode cL_law 800 = .ok (.aload_n 0, 1) := by decide +kernel
theorem dL_law_801 : decode cL_law 801 = .ok (.iload 5, 2) := by decide +kernel
theorem dL_law_803 : decode cL_law 803 = .ok (.iconst 4, 1) := by decide +kernel
theorem dL_law_804 : decode cL_law 804 = .ok (.iadd, 1) := by decide +kernel
theorem dL_law_805 : decode cL_law 805 = .ok (.iaload, 1) := by decide +kernel
theorem dL_law_806 : decode cL_law 806 = .ok (.invokevirtual 210, 3) := by decide +kernel
theorem dL_law_809 : decode cL_law 809 = .ok (.istore 7, 2) := by decide +kernel
theorem dL_law_811 : decode cL_law 811 = .ok (.aload_n 2, 1) := by decide +kernel
theorem dL_law_812 : decode cL_law 812 = .ok (.invokevirtual 183, 3) := by decide +kernel
theorem dL_law_815 : decode cL_law 815 = .ok (.iload 6, 2) := by decide +kernel
theorem dL_law_817 : decode cL_law 817 = .ok (.if_icmp .eq 5, 3) := by decide +kernel
theorem dL_law_822 : decode cL_law 822 = .ok (.iload 6, 2) := by decide +kernel
theorem dL_law_824 : decode cL_law 824 = .ok (.ifCond .ne 15, 3) := by decide +kernel
theorem dL_law_839 : decode cL_law 839 = .ok (.goto 2772, 3) := by decide +kernel
theorem dL_law_842 : decode cL_law 842 = .ok (.aload_n 1, 1) := by decide +kernel
theorem dL_law_843 : decode cL_law 843 = .ok (.aload_n 0, 1) := by decide +kernel
theorem dL_law_844 : decode cL_law 844 = .ok (.iload 5, 2) := by decide +kernel
theorem dL_law_846 : decode cL_law 846 = .ok (.iconst 1, 1) := by decide +kernel
theorem dL_law_847 : decode cL_law 847 = .ok (.iadd, 1) := by decide +kernel
theorem dL_law_848 : decode cL_law 848 = .ok (.iaload, 1) := by decide +kernel
theorem dL_law_849 : decode cL_law 849 = .ok (.aload_n 0, 1) := by decide +kernel
theorem dL_law_850 : decode cL_law 850 = .ok (.iload 5, 2) := by decide +kernel
theorem dL_law_852 : decode cL_law 852 = .ok (.iconst 2, 1) := by decide +kernel
theorem dL_law_853 : decode cL_law 853 = .ok (.iadd, 1) := by decide +kernel
theorem dL_law_854 : decode cL_law 854 = .ok (.iaload, 1) := by decide +kernel
theorem dL_law_855 : decode cL_law 855 = .ok (.aload_n 3, 1) := by decide +kernel
theorem dL_law_856 : decode cL_law 856 = .ok (.invokestatic 211, 3) := by decide +kernel
theorem dL_law_859 : decode cL_law 859 = .ok (.istore 6, 2) := by decide +kernel
theorem dL_law_861 : decode cL_law 861 = .ok (.aload_n 2, 1) := by decide +kernel
theorem dL_law_862 : decode cL_law 862 = .ok (.aload_n 0, 1) := by decide +kernel
theorem dL_law_863 : decode cL_law 863 = .ok (.iload 5, 2) := by decide +kernel
theorem dL_law_865 : decode cL_law 865 = .ok (.iconst 1, 1) := by decide +kernel
theorem dL_law_866 : decode cL_law 866 = .ok (.iadd, 1) := by decide +kernel
theorem dL_law_867 : decode cL_law 867 = .ok (.iaload, 1) := by decide +kernel
theorem dL_law_868 : decode cL_law 868 = .ok (.aload_n 0, 1) := by decide +kernel
theorem dL_law_869 : decode cL_law 869 = .ok (.iload 5, 2) := by decide +kernel
theorem dL_law_871 : decode cL_law 871 = .ok (.iconst 2, 1) := by decide +kernel
theorem dL_law_872 : decode cL_law 872 = .ok (.iadd, 1) := by decide +kernel
theorem dL_law_873 : decode cL_law 873 = .ok (.iaload, 1) := by decide +kernel
theorem dL_law_874 : decode cL_law 874 = .ok (.invokevirtual 213, 3) := by decide +kernel
theorem dL_law_877 : decode cL_law 877 = .ok (.istore 7, 2) := by decide +kernel
theorem dL_law_879 : decode cL_law 879 = .ok (.aload_n 2, 1) := by decide +kernel
theorem dL_law_880 : decode cL_law 880 = .ok (.invokevirtual 183, 3) := by decide +kernel
theorem dL_law_883 : decode cL_law 883 = .ok (.iload 6, 2) := by decide +kernel
theorem dL_law_885 : decode cL_law 885 = .ok (.if_icmp .eq 5, 3) := by decide +kernel
theorem dL_law_890 : decode cL_law 890 = .ok (.iload 6, 2) := by decide +kernel
theorem dL_law_892 : decode cL_law 892 = .ok (.ifCond .ne 15, 3) := by decide +kernel
theorem dL_law_907 : decode cL_law 907 = .ok (.goto 2704, 3) := by decide +kernel
theorem dL_law_910 : decode cL_law 910 = .ok (.aload_n 1, 1) := by decide +kernel
theorem dL_law_911 : decode cL_law 911 = .ok (.aload_n 0, 1) := by decide +kernel
theorem dL_law_912 : decode cL_law 912 = .ok (.iload 5, 2) := by decide +kernel
theorem dL_law_914 : decode cL_law 914 = .ok (.iconst 1, 1) := by decide +kernel
theorem dL_law_915 : decode cL_law 915 = .ok (.iadd, 1) := by decide +kernel
theorem dL_law_916 : decode cL_law 916 = .ok (.iaload, 1) := by decide +kernel
theorem dL_law_917 : decode cL_law 917 = .ok (.aload_n 0, 1) := by decide +kernel
theorem dL_law_918 : decode cL_law 918 = .ok (.iload 5, 2) := by decide +kernel
theorem dL_law_920 : decode cL_law 920 = .ok (.iconst 2, 1) := by decide +kernel
theorem dL_law_921 : decode cL_law 921 = .ok (.iadd, 1) := by decide +kernel
theorem dL_law_922 : decode cL_law 922 = .ok (.iaload, 1) := by decide +kernel
theorem dL_law_923 : decode cL_law 923 = .ok (.aload_n 0, 1) := by decide +kernel
theorem dL_law_924 : decode cL_law 924 = .ok (.iload 5, 2) := by decide +kernel
theorem dL_law_926 : decode cL_law 926 = .ok (.iconst 3, 1) := by decide +kernel
theorem dL_law_927 : decode cL_law 927 = .ok (.iadd, 1) := by decide +kernel
theorem dL_law_928 : decode cL_law 928 = .ok (.iaload, 1) := by decide +kernel
theorem dL_law_929 : decode cL_law 929 = .ok (.aload_n 3, 1) := by decide +kernel
theorem dL_law_930 : decode cL_law 930 = .ok (.invokestatic 214, 3) := by decide +kernel
theorem dL_law_933 : decode cL_law 933 = .ok (.istore 6, 2) := by decide +kernel
theorem dL_law_935 : decode cL_law 935 = .ok (.aload_n 2, 1) := by decide +kernel
theorem dL_law_936 : decode cL_law 936 = .ok (.aload_n 0, 1) := by decide +kernel
theorem dL_law_937 : decode cL_law 937 = .ok (.iload 5, 2) := by decide +kernel
theorem dL_law_939 : decode cL_law 939 = .ok (.iconst 1, 1) := by decide +kernel
theorem dL_law_940 : decode cL_law 940 = .ok (.iadd, 1) := by decide +kernel
theorem dL_law_941 : decode cL_law 941 = .ok (.iaload, 1) := by decide +kernel
theorem dL_law_942 : decode cL_law 942 = .ok (.aload_n 0, 1) := by decide +kernel
theorem dL_law_943 : decode cL_law 943 = .ok (.iload 5, 2) := by decide +kernel
theorem dL_law_945 : decode cL_law 945 = .ok (.iconst 2, 1) := by decide +kernel
theorem dL_law_946 : decode cL_law 946 = .ok (.iadd, 1) := by decide +kernel
theorem dL_law_947 : decode cL_law 947 = .ok (.iaload, 1) := by decide +kernel
theorem dL_law_948 : decode cL_law 948 = .ok (.aload_n 0, 1) := by decide +kernel
theorem dL_law_949 : decode cL_law 949 = .ok (.iload 5, 2) := by decide +kernel
theorem dL_law_951 : decode cL_law 951 = .ok (.iconst 3, 1) := by decide +kernel
theorem dL_law_952 : decode cL_law 952 = .ok (.iadd, 1) := by decide +kernel
theorem dL_law_953 : decode cL_law 953 = .ok (.iaload, 1) := by decide +kernel
theorem dL_law_954 : decode cL_law 954 = .ok (.invokevirtual 216, 3) := by decide +kernel
theorem dL_law_957 : decode cL_law 957 = .ok (.istore 7, 2) := by decide +kernel
theorem dL_law_959 : decode cL_law 959 = .ok (.aload_n 2, 1) := by decide +kernel
theorem dL_law_960 : decode cL_law 960 = .ok (.invokevirtual 183, 3) := by decide +kernel
theorem dL_law_963 : decode cL_law 963 = .ok (.iload 6, 2) := by decide +kernel
theorem dL_law_965 : decode cL_law 965 = .ok (.if_icmp .eq 5, 3) := by decide +kernel
theorem dL_law_970 : decode cL_law 970 = .ok (.iload 6, 2) := by decide +kernel
theorem dL_law_972 : decode cL_law 972 = .ok (.ifCond .ne 15, 3) := by decide +kernel
theorem dL_law_987 : decode cL_law 987 = .ok (.goto 2624, 3) := by decide +kernel
theorem dL_law_990 : decode cL_law 990 = .ok (.aload_n 1, 1) := by decide +kernel
theorem dL_law_991 : decode cL_law 991 = .ok (.aload_n 0, 1) := by decide +kernel
theorem dL_law_992 : decode cL_law 992 = .ok (.iload 5, 2) := by decide +kernel
theorem dL_law_994 : decode cL_law 994 = .ok (.iconst 1, 1) := by decide +kernel
theorem dL_law_995 : decode cL_law 995 = .ok (.iadd, 1) := by decide +kernel
theorem dL_law_996 : decode cL_law 996 = .ok (.iaload, 1) := by decide +kernel
theorem dL_law_997 : decode cL_law 997 = .ok (.aload_n 0, 1) := by decide +kernel
theorem dL_law_998 : decode cL_law 998 = .ok (.iload 5, 2) := by decide +kernel
theorem dL_law_1000 : decode cL_law 1000 = .ok (.iconst 2, 1) := by decide +kernel
theorem dL_law_1001 : decode cL_law 1001 = .ok (.iadd, 1) := by decide +kernel
theorem dL_law_1002 : decode cL_law 1002 = .ok (.iaload, 1) := by decide +kernel
theorem dL_law_1003 : decode cL_law 1003 = .ok (.i2c, 1) := by decide +kernel
theorem dL_law_1004 : decode cL_law 1004 = .ok (.aload_n 0, 1) := by decide +kernel
theorem dL_law_1005 : decode cL_law 1005 = .ok (.iload 5, 2) := by decide +kernel
theorem dL_law_1007 : decode cL_law 1007 = .ok (.iconst 3, 1) := by decide +kernel
theorem dL_law_1008 : decode cL_law 1008 = .ok (.iadd, 1) := by decide +kernel
theorem dL_law_1009 : decode cL_law 1009 = .ok (.iaload, 1) := by decide +kernel
theorem dL_law_1010 : decode cL_law 1010 = .ok (.aload_n 0, 1) := by decide +kernel
theorem dL_law_1011 : decode cL_law 1011 = .ok (.iload 5, 2) := by decide +kernel
theorem dL_law_1013 : decode cL_law 1013 = .ok (.iconst 4, 1) := by decide +kernel
theorem dL_law_1014 : decode cL_law 1014 = .ok (.iadd, 1) := by decide +kernel
theorem dL_law_1015 : decode cL_law 1015 = .ok (.iaload, 1) := by decide +kernel
theorem dL_law_1016 : decode cL_law 1016 = .ok (.aload_n 3, 1) := by decide +kernel
theorem dL_law_1017 : decode cL_law 1017 = .ok (.invokestatic 217, 3) := by decide +kernel
theorem dL_law_1020 : decode cL_law 1020 = .ok (.istore 6, 2) := by decide +kernel
theorem dL_law_1022 : decode cL_law 1022 = .ok (.aload_n 2, 1) := by decide +kernel
theorem dL_law_1023 : decode cL_law 1023 = .ok (.aload_n 0, 1) := by decide +kernel
theorem dL_law_1024 : decode cL_law 1024 = .ok (.iload 5, 2) := by decide +kernel
theorem dL_law_1026 : decode cL_law 1026 = .ok (.iconst 1, 1) := by decide +kernel
theorem dL_law_1027 : decode cL_law 1027 = .ok (.iadd, 1) := by decide +kernel
theorem dL_law_1028 : decode cL_law 1028 = .ok (.iaload, 1) := by decide +kernel
theorem dL_law_1029 : decode cL_law 1029 = .ok (.aload_n 0, 1) := by decide +kernel
theorem dL_law_1030 : decode cL_law 1030 = .ok (.iload 5, 2) := by decide +kernel
theorem dL_law_1032 : decode cL_law 1032 = .ok (.iconst 2, 1) := by decide +kernel
theorem dL_law_1033 : decode cL_law 1033 = .ok (.iadd, 1) := by decide +kernel
theorem dL_law_1034 : decode cL_law 1034 = .ok (.iaload, 1) := by decide +kernel
theorem dL_law_1035 : decode cL_law 1035 = .ok (.i2c, 1) := by decide +kernel
theorem dL_law_1036 : decode cL_law 1036 = .ok (.aload_n 0, 1) := by decide +kernel
theorem dL_law_1037 : decode cL_law 1037 = .ok (.iload 5, 2) := by decide +kernel
theorem dL_law_1039 : decode cL_law 1039 = .ok (.iconst 3, 1) := by decide +kernel
theorem dL_law_1040 : decode cL_law 1040 = .ok (.iadd, 1) := by decide +kernel
theorem dL_law_1041 : decode cL_law 1041 = .ok (.iaload, 1) := by decide +kernel
theorem dL_law_1042 : decode cL_law 1042 = .ok (.aload_n 0, 1) := by decide +kernel
theorem dL_law_1043 : decode cL_law 1043 = .ok (.iload 5, 2) := by decide +kernel
theorem dL_law_1045 : decode cL_law 1045 = .ok (.iconst 4, 1) := by decide +kernel
theorem dL_law_1046 : decode cL_law 1046 = .ok (.iadd, 1) := by decide +kernel
theorem dL_law_1047 : decode cL_law 1047 = .ok (.iaload, 1) := by decide +kernel
theorem dL_law_1048 : decode cL_law 1048 = .ok (.invokevirtual 220, 3) := by decide +kernel
theorem dL_law_1051 : decode cL_law 1051 = .ok (.istore 7, 2) := by decide +kernel
theorem dL_law_1053 : decode cL_law 1053 = .ok (.aload_n 2, 1) := by decide +kernel
theorem dL_law_1054 : decode cL_law 1054 = .ok (.invokevirtual 183, 3) := by decide +kernel
theorem dL_law_1057 : decode cL_law 1057 = .ok (.iload 6, 2) := by decide +kernel
theorem dL_law_1059 : decode cL_law 1059 = .ok (.if_icmp .eq 5, 3) := by decide +kernel
theorem dL_law_1064 : decode cL_law 1064 = .ok (.iload 6, 2) := by decide +kernel
theorem dL_law_1066 : decode cL_law 1066 = .ok (.ifCond .ne 15, 3) := by decide +kernel
theorem dL_law_1081 : decode cL_law 1081 = .ok (.goto 2530, 3) := by decide +kernel
theorem dL_law_1084 : decode cL_law 1084 = .ok (.aload_n 1, 1) := by decide +kernel
theorem dL_law_1085 : decode cL_law 1085 = .ok (.aload_n 0, 1) := by decide +kernel
theorem dL_law_1086 : decode cL_law 1086 = .ok (.iload 5, 2) := by decide +kernel
theorem dL_law_1088 : decode cL_law 1088 = .ok (.iconst 1, 1) := by decide +kernel
theorem dL_law_1089 : decode cL_law 1089 = .ok (.iadd, 1) := by decide +kernel
theorem dL_law_1090 : decode cL_law 1090 = .ok (.iaload, 1) := by decide +kernel
theorem dL_law_1091 : decode cL_law 1091 = .ok (.aload_n 0, 1) := by decide +kernel
theorem dL_law_1092 : decode cL_law 1092 = .ok (.iload 5, 2) := by decide +kernel
theorem dL_law_1094 : decode cL_law 1094 = .ok (.iconst 2, 1) := by decide +kernel
theorem dL_law_1095 : decode cL_law 1095 = .ok (.iadd, 1) := by decide +kernel
theorem dL_law_1096 : decode cL_law 1096 = .ok (.iaload, 1) := by decide +kernel
theorem dL_law_1097 : decode cL_law 1097 = .ok (.aload_n 0, 1) := by decide +kernel
theorem dL_law_1098 : decode cL_law 1098 = .ok (.iload 5, 2) := by decide +kernel
theorem dL_law_1100 : decode cL_law 1100 = .ok (.iconst 3, 1) := by decide +kernel
theorem dL_law_1101 : decode cL_law 1101 = .ok (.iadd, 1) := by decide +kernel
theorem dL_law_1102 : decode cL_law 1102 = .ok (.iaload, 1) := by decide +kernel
theorem dL_law_1103 : decode cL_law 1103 = .ok (.aload_n 0, 1) := by decide +kernel
theorem dL_law_1104 : decode cL_law 1104 = .ok (.iload 5, 2) := by decide +kernel
theorem dL_law_1106 : decode cL_law 1106 = .ok (.iconst 4, 1) := by decide +kernel
theorem dL_law_1107 : decode cL_law 1107 = .ok (.iadd, 1) := by decide +kernel
theorem dL_law_1108 : decode cL_law 1108 = .ok (.iaload, 1) := by decide +kernel
theorem dL_law_1109 : decode cL_law 1109 = .ok (.aload_n 0, 1) := by decide +kernel
theorem dL_law_1110 : decode cL_law 1110 = .ok (.iload 5, 2) := by decide +kernel
theorem dL_law_1112 : decode cL_law 1112 = .ok (.iconst 5, 1) := by decide +kernel
theorem dL_law_1113 : decode cL_law 1113 = .ok (.iadd, 1) := by decide +kernel
theorem dL_law_1114 : decode cL_law 1114 = .ok (.iaload, 1) := by decide +kernel
theorem dL_law_1115 : decode cL_law 1115 = .ok (.aload_n 0, 1) := by decide +kernel
theorem dL_law_1116 : decode cL_law 1116 = .ok (.iload 5, 2) := by decide +kernel
theorem dL_law_1118 : decode cL_law 1118 = .ok (.bipush 6, 2) := by decide +kernel
theorem dL_law_1120 : decode cL_law 1120 = .ok (.iadd, 1) := by decide +kernel
theorem dL_law_1121 : decode cL_law 1121 = .ok (.iaload, 1) := by decide +kernel
theorem dL_law_1122 : decode cL_law 1122 = .ok (.ifCond .eq 7, 3) := by decide +kernel
theorem dL_law_1125 : decode cL_law 1125 = .ok (.iconst 1, 1) := by decide +kernel
theorem dL_law_1126 : decode cL_law 1126 = .ok (.goto 4, 3) := by decide +kernel
theorem dL_law_1129 : decode cL_law 1129 = .ok (.iconst 0, 1) := by decide +kernel
theorem dL_law_1130 : decode cL_law 1130 = .ok (.aload_n 3, 1) := by decide +kernel
theorem dL_law_1131 : decode cL_law 1131 = .ok (.invokestatic 221, 3) := by decide +kernel
theorem dL_law_1134 : decode cL_law 1134 = .ok (.istore 6, 2) := by decide +kernel
theorem dL_law_1136 : decode cL_law 1136 = .ok (.aload_n 2, 1) := by decide +kernel
theorem dL_law_1137 : decode cL_law 1137 = .ok (.aload_n 0, 1) := by decide +kernel
theorem dL_law_1138 : decode cL_law 1138 = .ok (.iload 5, 2) := by decide +kernel
theorem dL_law_1140 : decode cL_law 1140 = .ok (.iconst 1, 1) := by decide +kernel
theorem dL_law_1141 : decode cL_law 1141 = .ok (.iadd, 1) := by decide +kernel
theorem dL_law_1142 : decode cL_law 1142 = .ok (.iaload, 1) := by decide +kernel
theorem dL_law_1143 : decode cL_law 1143 = .ok (.aload_n 0, 1) := by decide +kernel
theorem dL_law_1144 : decode cL_law 1144 = .ok (.iload 5, 2) := by decide +kernel
theorem dL_law_1146 : decode cL_law 1146 = .ok (.iconst 2, 1) := by decide +kernel
theorem dL_law_1147 : decode cL_law 1147 = .ok (.iadd, 1) := by decide +kernel
theorem dL_law_1148 : decode cL_law 1148 = .ok (.iaload, 1) := by decide +kernel
theorem dL_law_1149 : decode cL_law 1149 = .ok (.aload_n 0, 1) := by decide +kernel
theorem dL_law_1150 : decode cL_law 1150 = .ok (.iload 5, 2) := by decide +kernel
theorem dL_law_1152 : decode cL_law 1152 = .ok (.iconst 3, 1) := by decide +kernel
theorem dL_law_1153 : decode cL_law 1153 = .ok (.iadd, 1) := by decide +kernel
theorem dL_law_1154 : decode cL_law 1154 = .ok (.iaload, 1) := by decide +kernel
theorem dL_law_1155 : decode cL_law 1155 = .ok (.aload_n 0, 1) := by decide +kernel
theorem dL_law_1156 : decode cL_law 1156 = .ok (.iload 5, 2) := by decide +kernel
theorem dL_law_1158 : decode cL_law 1158 = .ok (.iconst 4, 1) := by decide +kernel
theorem dL_law_1159 : decode cL_law 1159 = .ok (.iadd, 1) := by decide +kernel
theorem dL_law_1160 : decode cL_law 1160 = .ok (.iaload, 1) := by decide +kernel
theorem dL_law_1161 : decode cL_law 1161 = .ok (.aload_n 0, 1) := by decide +kernel
theorem dL_law_1162 : decode cL_law 1162 = .ok (.iload 5, 2) := by decide +kernel
theorem dL_law_1164 : decode cL_law 1164 = .ok (.iconst 5, 1) := by decide +kernel
theorem dL_law_1165 : decode cL_law 1165 = .ok (.iadd, 1) := by decide +kernel
theorem dL_law_1166 : decode cL_law 1166 = .ok (.iaload, 1) := by decide +kernel
theorem dL_law_1167 : decode cL_law 1167 = .ok (.aload_n 0, 1) := by decide +kernel
theorem dL_law_1168 : decode cL_law 1168 = .ok (.iload 5, 2) := by decide +kernel
theorem dL_law_1170 : decode cL_law 1170 = .ok (.bipush 6, 2) := by decide +kernel
theorem dL_law_1172 : decode cL_law 1172 = .ok (.iadd, 1) := by decide +kernel
theorem dL_law_1173 : decode cL_law 1173 = .ok (.iaload, 1) := by decide +kernel
theorem dL_law_1174 : decode cL_law 1174 = .ok (.ifCond .eq 7, 3) := by decide +kernel
theorem dL_law_1177 : decode cL_law 1177 = .ok (.iconst 1, 1) := by decide +kernel
theorem dL_law_1178 : decode cL_law 1178 = .ok (.goto 4, 3) := by decide +kernel
theorem dL_law_1181 : decode cL_law 1181 = .ok (.iconst 0, 1) := by decide +kernel
theorem dL_law_1182 : decode cL_law 1182 = .ok (.invokevirtual 224, 3) := by decide +kernel
theorem dL_law_1185 : decode cL_law 1185 = .ok (.istore 7, 2) := by decide +kernel
theorem dL_law_1187 : decode cL_law 1187 = .ok (.aload_n 2, 1) := by decide +kernel
theorem dL_law_1188 : decode cL_law 1188 = .ok (.invokevirtual 183, 3) := by decide +kernel
theorem dL_law_1191 : decode cL_law 1191 = .ok (.iload 6, 2) := by decide +kernel
theorem dL_law_1193 : decode cL_law 1193 = .ok (.if_icmp .eq 5, 3) := by decide +kernel
theorem dL_law_1198 : decode cL_law 1198 = .ok (.iload 6, 2) := by decide +kernel
theorem dL_law_1200 : decode cL_law 1200 = .ok (.ifCond .ne 15, 3) := by decide +kernel
theorem dL_law_1215 : decode cL_law 1215 = .ok (.goto 2396, 3) := by decide +kernel
theorem dL_law_1218 : decode cL_law 1218 = .ok (.aload_n 1, 1) := by decide +kernel
theorem dL_law_1219 : decode cL_law 1219 = .ok (.aload_n 0, 1) := by decide +kernel
theorem dL_law_1220 : decode cL_law 1220 = .ok (.iload 5, 2) := by decide +kernel
theorem dL_law_1222 : decode cL_law 1222 = .ok (.iconst 1, 1) := by decide +kernel
theorem dL_law_1223 : decode cL_law 1223 = .ok (.iadd, 1) := by decide +kernel
theorem dL_law_1224 : decode cL_law 1224 = .ok (.iaload, 1) := by decide +kernel
theorem dL_law_1225 : decode cL_law 1225 = .ok (.aload_n 0, 1) := by decide +kernel
theorem dL_law_1226 : decode cL_law 1226 = .ok (.iload 5, 2) := by decide +kernel
theorem dL_law_1228 : decode cL_law 1228 = .ok (.iconst 2, 1) := by decide +kernel
theorem dL_law_1229 : decode cL_law 1229 = .ok (.iadd, 1) := by decide +kernel
theorem dL_law_1230 : decode cL_law 1230 = .ok (.iaload, 1) := by decide +kernel
theorem dL_law_1231 : decode cL_law 1231 = .ok (.aload_n 0, 1) := by decide +kernel
theorem dL_law_1232 : decode cL_law 1232 = .ok (.iload 5, 2) := by decide +kernel
theorem dL_law_1234 : decode cL_law 1234 = .ok (.iconst 3, 1) := by decide +kernel
theorem dL_law_1235 : decode cL_law 1235 = .ok (.iadd, 1) := by decide +kernel
theorem dL_law_1236 : decode cL_law 1236 = .ok (.iaload, 1) := by decide +kernel
theorem dL_law_1237 : decode cL_law 1237 = .ok (.aload_n 0, 1) := by decide +kernel
theorem dL_law_1238 : decode cL_law 1238 = .ok (.iload 5, 2) := by decide +kernel
theorem dL_law_1240 : decode cL_law 1240 = .ok (.iconst 4, 1) := by decide +kernel
theorem dL_law_1241 : decode cL_law 1241 = .ok (.iadd, 1) := by decide +kernel
theorem dL_law_1242 : decode cL_law 1242 = .ok (.iaload, 1) := by decide +kernel
theorem dL_law_1243 : decode cL_law 1243 = .ok (.aload_n 3, 1) := by decide +kernel
theorem dL_law_1244 : decode cL_law 1244 = .ok (.invokestatic 225, 3) := by decide +kernel
theorem dL_law_1247 : decode cL_law 1247 = .ok (.istore 6, 2) := by decide +kernel
theorem dL_law_1249 : decode cL_law 1249 = .ok (.aload_n 2, 1) := by decide +kernel
theorem dL_law_1250 : decode cL_law 1250 = .ok (.aload_n 0, 1) := by decide +kernel
theorem dL_law_1251 : decode cL_law 1251 = .ok (.iload 5, 2) := by decide +kernel
theorem dL_law_1253 : decode cL_law 1253 = .ok (.iconst 1, 1) := by decide +kernel
theorem dL_law_1254 : decode cL_law 1254 = .ok (.iadd, 1) := by decide +kernel
theorem dL_law_1255 : decode cL_law 1255 = .ok (.iaload, 1) := by decide +kernel
theorem dL_law_1256 : decode cL_law 1256 = .ok (.aload_n 0, 1) := by decide +kernel
theorem dL_law_1257 : decode cL_law 1257 = .ok (.iload 5, 2) := by decide +kernel
theorem dL_law_1259 : decode cL_law 1259 = .ok (.iconst 2, 1) := by decide +kernel
theorem dL_law_1260 : decode cL_law 1260 = .ok (.iadd, 1) := by decide +kernel
theorem dL_law_1261 : decode cL_law 1261 = .ok (.iaload, 1) := by decide +kernel
theorem dL_law_1262 : decode cL_law 1262 = .ok (.aload_n 0, 1) := by decide +kernel
theorem dL_law_1263 : decode cL_law 1263 = .ok (.iload 5, 2) := by decide +kernel
theorem dL_law_1265 : decode cL_law 1265 = .ok (.iconst 3, 1) := by decide +kernel
theorem dL_law_1266 : decode cL_law 1266 = .ok (.iadd, 1) := by decide +kernel
theorem dL_law_1267 : decode cL_law 1267 = .ok (.iaload, 1) := by decide +kernel
theorem dL_law_1268 : decode cL_law 1268 = .ok (.aload_n 0, 1) := by decide +kernel
theorem dL_law_1269 : decode cL_law 1269 = .ok (.iload 5, 2) := by decide +kernel
theorem dL_law_1271 : decode cL_law 1271 = .ok (.iconst 4, 1) := by decide +kernel
theorem dL_law_1272 : decode cL_law 1272 = .ok (.iadd, 1) := by decide +kernel
theorem dL_law_1273 : decode cL_law 1273 = .ok (.iaload, 1) := by decide +kernel
theorem dL_law_1274 : decode cL_law 1274 = .ok (.invokevirtual 227, 3) := by decide +kernel
theorem dL_law_1277 : decode cL_law 1277 = .ok (.istore 7, 2) := by decide +kernel
theorem dL_law_1279 : decode cL_law 1279 = .ok (.aload_n 2, 1) := by decide +kernel
theorem dL_law_1280 : decode cL_law 1280 = .ok (.invokevirtual 183, 3) := by decide +kernel
theorem dL_law_1283 : decode cL_law 1283 = .ok (.iload 6, 2) := by decide +kernel
theorem dL_law_1285 : decode cL_law 1285 = .ok (.if_icmp .eq 5, 3) := by decide +kernel
theorem dL_law_1290 : decode cL_law 1290 = .ok (.iload 6, 2) := by decide +kernel
theorem dL_law_1292 : decode cL_law 1292 = .ok (.ifCond .ne 15, 3) := by decide +kernel
theorem dL_law_1307 : decode cL_law 1307 = .ok (.goto 2304, 3) := by decide +kernel
theorem dL_law_1310 : decode cL_law 1310 = .ok (.aload_n 1, 1) := by decide +kernel
theorem dL_law_1311 : decode cL_law 1311 = .ok (.aload_n 0, 1) := by decide +kernel
theorem dL_law_1312 : decode cL_law 1312 = .ok (.iload 5, 2) := by decide +kernel
theorem dL_law_1314 : decode cL_law 1314 = .ok (.iconst 1, 1) := by decide +kernel
theorem dL_law_1315 : decode cL_law 1315 = .ok (.iadd, 1) := by decide +kernel
theorem dL_law_1316 : decode cL_law 1316 = .ok (.iaload, 1) := by decide +kernel
theorem dL_law_1317 : decode cL_law 1317 = .ok (.aload_n 0, 1) := by decide +kernel
theorem dL_law_1318 : decode cL_law 1318 = .ok (.iload 5, 2) := by decide +kernel
theorem dL_law_1320 : decode cL_law 1320 = .ok (.iconst 2, 1) := by decide +kernel
theorem dL_law_1321 : decode cL_law 1321 = .ok (.iadd, 1) := by decide +kernel
theorem dL_law_1322 : decode cL_law 1322 = .ok (.iaload, 1) := by decide +kernel
theorem dL_law_1323 : decode cL_law 1323 = .ok (.aload_n 0, 1) := by decide +kernel
theorem dL_law_1324 : decode cL_law 1324 = .ok (.iload 5, 2) := by decide +kernel
theorem dL_law_1326 : decode cL_law 1326 = .ok (.iconst 3, 1) := by decide +kernel
theorem dL_law_1327 : decode cL_law 1327 = .ok (.iadd, 1) := by decide +kernel
theorem dL_law_1328 : decode cL_law 1328 = .ok (.iaload, 1) := by decide +kernel
theorem dL_law_1329 : decode cL_law 1329 = .ok (.aload_n 0, 1) := by decide +kernel
theorem dL_law_1330 : decode cL_law 1330 = .ok (.iload 5, 2) := by decide +kernel
theorem dL_law_1332 : decode cL_law 1332 = .ok (.iconst 4, 1) := by decide +kernel
theorem dL_law_1333 : decode cL_law 1333 = .ok (.iadd, 1) := by decide +kernel
theorem dL_law_1334 : decode cL_law 1334 = .ok (.iaload, 1) := by decide +kernel
theorem dL_law_1335 : decode cL_law 1335 = .ok (.ifCond .eq 7, 3) := by decide +kernel
theorem dL_law_1338 : decode cL_law 1338 = .ok (.iconst 1, 1) := by decide +kernel
theorem dL_law_1339 : decode cL_law 1339 = .ok (.goto 4, 3) := by decide +kernel
theorem dL_law_1342 : decode cL_law 1342 = .ok (.iconst 0, 1) := by decide +kernel
theorem dL_law_1343 : decode cL_law 1343 = .ok (.aload_n 3, 1) := by decide +kernel
theorem dL_law_1344 : decode cL_law 1344 = .ok (.invokestatic 228, 3) := by decide +kernel
theorem dL_law_1347 : decode cL_law 1347 = .ok (.istore 6, 2) := by decide +kernel
theorem dL_law_1349 : decode cL_law 1349 = .ok (.aload_n 2, 1) := by decide +kernel
theorem dL_law_1350 : decode cL_law 1350 = .ok (.aload_n 0, 1) := by decide +kernel
theorem dL_law_1351 : decode cL_law 1351 = .ok (.iload 5, 2) := by decide +kernel
theorem dL_law_1353 : decode cL_law 1353 = .ok (.iconst 1, 1) := by decide +kernel
theorem dL_law_1354 : decode cL_law 1354 = .ok (.iadd, 1) := by decide +kernel
theorem dL_law_1355 : decode cL_law 1355 = .ok (.iaload, 1) := by decide +kernel
theorem dL_law_1356 : decode cL_law 1356 = .ok (.aload_n 0, 1) := by decide +kernel
theorem dL_law_1357 : decode cL_law 1357 = .ok (.iload 5, 2) := by decide +kernel
theorem dL_law_1359 : decode cL_law 1359 = .ok (.iconst 2, 1) := by decide +kernel
theorem dL_law_1360 : decode cL_law 1360 = .ok (.iadd, 1) := by decide +kernel
theorem dL_law_1361 : decode cL_law 1361 = .ok (.iaload, 1) := by decide +kernel
theorem dL_law_1362 : decode cL_law 1362 = .ok (.aload_n 0, 1) := by decide +kernel
theorem dL_law_1363 : decode cL_law 1363 = .ok (.iload 5, 2) := by decide +kernel
theorem dL_law_1365 : decode cL_law 1365 = .ok (.iconst 3, 1) := by decide +kernel
theorem dL_law_1366 : decode cL_law 1366 = .ok (.iadd, 1) := by decide +kernel
theorem dL_law_1367 : decode cL_law 1367 = .ok (.iaload, 1) := by decide +kernel
theorem dL_law_1368 : decode cL_law 1368 = .ok (.aload_n 0, 1) := by decide +kernel
theorem dL_law_1369 : decode cL_law 1369 = .ok (.iload 5, 2) := by decide +kernel
theorem dL_law_1371 : decode cL_law 1371 = .ok (.iconst 4, 1) := by decide +kernel
theorem dL_law_1372 : decode cL_law 1372 = .ok (.iadd, 1) := by decide +kernel
theorem dL_law_1373 : decode cL_law 1373 = .ok (.iaload, 1) := by decide +kernel
theorem dL_law_1374 : decode cL_law 1374 = .ok (.ifCond .eq 7, 3) := by decide +kernel
theorem dL_law_1377 : decode cL_law 1377 = .ok (.iconst 1, 1) := by decide +kernel
theorem dL_law_1378 : decode cL_law 1378 = .ok (.goto 4, 3) := by decide +kernel
theorem dL_law_1381 : decode cL_law 1381 = .ok (.iconst 0, 1) := by decide +kernel
theorem dL_law_1382 : decode cL_law 1382 = .ok (.invokevirtual 231, 3) := by decide +kernel
theorem dL_law_1385 : decode cL_law 1385 = .ok (.istore 7, 2) := by decide +kernel
theorem dL_law_1387 : decode cL_law 1387 = .ok (.aload_n 2, 1) := by decide +kernel
theorem dL_law_1388 : decode cL_law 1388 = .ok (.invokevirtual 183, 3) := by decide +kernel
theorem dL_law_1391 : decode cL_law 1391 = .ok (.iload 6, 2) := by decide +kernel
theorem dL_law_1393 : decode cL_law 1393 = .ok (.if_icmp .eq 5, 3) := by decide +kernel
theorem dL_law_1398 : decode cL_law 1398 = .ok (.iload 6, 2) := by decide +kernel
theorem dL_law_1400 : decode cL_law 1400 = .ok (.ifCond .ne 15, 3) := by decide +kernel
theorem dL_law_1415 : decode cL_law 1415 = .ok (.goto 2196, 3) := by decide +kernel
theorem dL_law_1418 : decode cL_law 1418 = .ok (.aload_n 1, 1) := by decide +kernel
theorem dL_law_1419 : decode cL_law 1419 = .ok (.aload_n 0, 1) := by decide +kernel
theorem dL_law_1420 : decode cL_law 1420 = .ok (.iload 5, 2) := by decide +kernel
theorem dL_law_1422 : decode cL_law 1422 = .ok (.iconst 1, 1) := by decide +kernel
theorem dL_law_1423 : decode cL_law 1423 = .ok (.iadd, 1) := by decide +kernel
theorem dL_law_1424 : decode cL_law 1424 = .ok (.iaload, 1) := by decide +kernel
theorem dL_law_1425 : decode cL_law 1425 = .ok (.aload_n 3, 1) := by decide +kernel
theorem dL_law_1426 : decode cL_law 1426 = .ok (.invokestatic 232, 3) := by decide +kernel
theorem dL_law_1429 : decode cL_law 1429 = .ok (.istore 6, 2) := by decide +kernel
theorem dL_law_1431 : decode cL_law 1431 = .ok (.aload_n 2, 1) := by decide +kernel
theorem dL_law_1432 : decode cL_law 1432 = .ok (.aload_n 0, 1) := by decide +kernel
theorem dL_law_1433 : decode cL_law 1433 = .ok (.iload 5, 2) := by decide +kernel
theorem dL_law_1435 : decode cL_law 1435 = .ok (.iconst 1, 1) := by decide +kernel
theorem dL_law_1436 : decode cL_law 1436 = .ok (.iadd, 1) := by decide +kernel
theorem dL_law_1437 : decode cL_law 1437 = .ok (.iaload, 1) := by decide +kernel
theorem dL_law_1438 : decode cL_law 1438 = .ok (.invokevirtual 235, 3) := by decide +kernel
theorem dL_law_1441 : decode cL_law 1441 = .ok (.istore 7, 2) := by decide +kernel
theorem dL_law_1443 : decode cL_law 1443 = .ok (.aload_n 2, 1) := by decide +kernel
theorem dL_law_1444 : decode cL_law 1444 = .ok (.invokevirtual 183, 3) := by decide +kernel
theorem dL_law_1447 : decode cL_law 1447 = .ok (.iload 6, 2) := by decide +kernel
theorem dL_law_1449 : decode cL_law 1449 = .ok (.if_icmp .eq 5, 3) := by decide +kernel
theorem dL_law_1454 : decode cL_law 1454 = .ok (.iload 6, 2) := by decide +kernel
theorem dL_law_1456 : decode cL_law 1456 = .ok (.ifCond .ne 15, 3) := by decide +kernel
theorem dL_law_1471 : decode cL_law 1471 = .ok (.goto 2140, 3) := by decide +kernel
theorem dL_law_1474 : decode cL_law 1474 = .ok (.aload_n 1, 1) := by decide +kernel
theorem dL_law_1475 : decode cL_law 1475 = .ok (.aload_n 0, 1) := by decide +kernel
theorem dL_law_1476 : decode cL_law 1476 = .ok (.iload 5, 2) := by decide +kernel
theorem dL_law_1478 : decode cL_law 1478 = .ok (.iconst 1, 1) := by decide +kernel
theorem dL_law_1479 : decode cL_law 1479 = .ok (.iadd, 1) := by decide +kernel
theorem dL_law_1480 : decode cL_law 1480 = .ok (.iaload, 1) := by decide +kernel
theorem dL_law_1481 : decode cL_law 1481 = .ok (.aload_n 3, 1) := by decide +kernel
theorem dL_law_1482 : decode cL_law 1482 = .ok (.invokestatic 236, 3) := by decide +kernel
theorem dL_law_1485 : decode cL_law 1485 = .ok (.istore 6, 2) := by decide +kernel
theorem dL_law_1487 : decode cL_law 1487 = .ok (.aload_n 2, 1) := by decide +kernel
theorem dL_law_1488 : decode cL_law 1488 = .ok (.aload_n 0, 1) := by decide +kernel
theorem dL_law_1489 : decode cL_law 1489 = .ok (.iload 5, 2) := by decide +kernel
theorem dL_law_1491 : decode cL_law 1491 = .ok (.iconst 1, 1) := by decide +kernel
theorem dL_law_1492 : decode cL_law 1492 = .ok (.iadd, 1) := by decide +kernel
theorem dL_law_1493 : decode cL_law 1493 = .ok (.iaload, 1) := by decide +kernel
theorem dL_law_1494 : decode cL_law 1494 = .ok (.invokevirtual 238, 3) := by decide +kernel
theorem dL_law_1497 : decode cL_law 1497 = .ok (.istore 7, 2) := by decide +kernel
theorem dL_law_1499 : decode cL_law 1499 = .ok (.aload_n 2, 1) := by decide +kernel
theorem dL_law_1500 : decode cL_law 1500 = .ok (.invokevirtual 183, 3) := by decide +kernel
theorem dL_law_1503 : decode cL_law 1503 = .ok (.iload 6, 2) := by decide +kernel
theorem dL_law_1505 : decode cL_law 1505 = .ok (.if_icmp .eq 5, 3) := by decide +kernel
theorem dL_law_1510 : decode cL_law 1510 = .ok (.iload 6, 2) := by decide +kernel
theorem dL_law_1512 : decode cL_law 1512 = .ok (.ifCond .ne 22, 3) := by decide +kernel
theorem dL_law_1534 : decode cL_law 1534 = .ok (.goto 2077, 3) := by decide +kernel
theorem dL_law_1537 : decode cL_law 1537 = .ok (.aload_n 1, 1) := by decide +kernel
theorem dL_law_1538 : decode cL_law 1538 = .ok (.aload_n 0, 1) := by decide +kernel
theorem dL_law_1539 : decode cL_law 1539 = .ok (.iload 5, 2) := by decide +kernel
theorem dL_law_1541 : decode cL_law 1541 = .ok (.iconst 1, 1) := by decide +kernel
theorem dL_law_1542 : decode cL_law 1542 = .ok (.iadd, 1) := by decide +kernel
theorem dL_law_1543 : decode cL_law 1543 = .ok (.iaload, 1) := by decide +kernel
theorem dL_law_1544 : decode cL_law 1544 = .ok (.aload_n 0, 1) := by decide +kernel
theorem dL_law_1545 : decode cL_law 1545 = .ok (.iload 5, 2) := by decide +kernel
theorem dL_law_1547 : decode cL_law 1547 = .ok (.iconst 2, 1) := by decide +kernel
theorem dL_law_1548 : decode cL_law 1548 = .ok (.iadd, 1) := by decide +kernel
theorem dL_law_1549 : decode cL_law 1549 = .ok (.iaload, 1) := by decide +kernel
theorem dL_law_1550 : decode cL_law 1550 = .ok (.aload_n 0, 1) := by decide +kernel
theorem dL_law_1551 : decode cL_law 1551 = .ok (.iload 5, 2) := by decide +kernel
theorem dL_law_1553 : decode cL_law 1553 = .ok (.iconst 3, 1) := by decide +kernel
theorem dL_law_1554 : decode cL_law 1554 = .ok (.iadd, 1) := by decide +kernel
theorem dL_law_1555 : decode cL_law 1555 = .ok (.iaload, 1) := by decide +kernel
theorem dL_law_1556 : decode cL_law 1556 = .ok (.aload_n 3, 1) := by decide +kernel
theorem dL_law_1557 : decode cL_law 1557 = .ok (.invokestatic 239, 3) := by decide +kernel
theorem dL_law_1560 : decode cL_law 1560 = .ok (.istore 6, 2) := by decide +kernel
theorem dL_law_1562 : decode cL_law 1562 = .ok (.aload_n 2, 1) := by decide +kernel
theorem dL_law_1563 : decode cL_law 1563 = .ok (.aload_n 0, 1) := by decide +kernel
theorem dL_law_1564 : decode cL_law 1564 = .ok (.iload 5, 2) := by decide +kernel
theorem dL_law_1566 : decode cL_law 1566 = .ok (.iconst 1, 1) := by decide +kernel
theorem dL_law_1567 : decode cL_law 1567 = .ok (.iadd, 1) := by decide +kernel
theorem dL_law_1568 : decode cL_law 1568 = .ok (.iaload, 1) := by decide +kernel
theorem dL_law_1569 : decode cL_law 1569 = .ok (.aload_n 0, 1) := by decide +kernel
theorem dL_law_1570 : decode cL_law 1570 = .ok (.iload 5, 2) := by decide +kernel
theorem dL_law_1572 : decode cL_law 1572 = .ok (.iconst 2, 1) := by decide +kernel
theorem dL_law_1573 : decode cL_law 1573 = .ok (.iadd, 1) := by decide +kernel
theorem dL_law_1574 : decode cL_law 1574 = .ok (.iaload, 1) := by decide +kernel
theorem dL_law_1575 : decode cL_law 1575 = .ok (.aload_n 0, 1) := by decide +kernel
theorem dL_law_1576 : decode cL_law 1576 = .ok (.iload 5, 2) := by decide +kernel
theorem dL_law_1578 : decode cL_law 1578 = .ok (.iconst 3, 1) := by decide +kernel
theorem dL_law_1579 : decode cL_law 1579 = .ok (.iadd, 1) := by decide +kernel
theorem dL_law_1580 : decode cL_law 1580 = .ok (.iaload, 1) := by decide +kernel
theorem dL_law_1581 : decode cL_law 1581 = .ok (.invokevirtual 241, 3) := by decide +kernel
theorem dL_law_1584 : decode cL_law 1584 = .ok (.istore 7, 2) := by decide +kernel
theorem dL_law_1586 : decode cL_law 1586 = .ok (.aload_n 2, 1) := by decide +kernel
theorem dL_law_1587 : decode cL_law 1587 = .ok (.invokevirtual 183, 3) := by decide +kernel
theorem dL_law_1590 : decode cL_law 1590 = .ok (.iload 6, 2) := by decide +kernel
theorem dL_law_1592 : decode cL_law 1592 = .ok (.if_icmp .eq 5, 3) := by decide +kernel
theorem dL_law_1597 : decode cL_law 1597 = .ok (.iload 6, 2) := by decide +kernel
theorem dL_law_1599 : decode cL_law 1599 = .ok (.ifCond .ne 15, 3) := by decide +kernel
theorem dL_law_1602 : decode cL_law 1602 = .ok (.aload_n 3, 1) := by decide +kernel
theorem dL_law_1603 : decode cL_law 1603 = .ok (.iconst 0, 1) := by decide +kernel
theorem dL_law_1604 : decode cL_law 1604 = .ok (.laload, 1) := by decide +kernel
theorem dL_law_1605 : decode cL_law 1605 = .ok (.iload 7, 2) := by decide +kernel
theorem dL_law_1607 : decode cL_law 1607 = .ok (.i2l, 1) := by decide +kernel
theorem dL_law_1608 : decode cL_law 1608 = .ok (.lcmp, 1) := by decide +kernel
theorem dL_law_1609 : decode cL_law 1609 = .ok (.ifCond .eq 5, 3) := by decide +kernel
theorem dL_law_1614 : decode cL_law 1614 = .ok (.goto 1997, 3) := by decide +kernel
theorem dL_law_1617 : decode cL_law 1617 = .ok (.aload_n 1, 1) := by decide +kernel
theorem dL_law_1618 : decode cL_law 1618 = .ok (.aload_n 0, 1) := by decide +kernel
theorem dL_law_1619 : decode cL_law 1619 = .ok (.iload 5, 2) := by decide +kernel
theorem dL_law_1621 : decode cL_law 1621 = .ok (.iconst 1, 1) := by decide +kernel
theorem dL_law_1622 : decode cL_law 1622 = .ok (.iadd, 1) := by decide +kernel
theorem dL_law_1623 : decode cL_law 1623 = .ok (.iaload, 1) := by decide +kernel
theorem dL_law_1624 : decode cL_law 1624 = .ok (.aload_n 0, 1) := by decide +kernel
theorem dL_law_1625 : decode cL_law 1625 = .ok (.iload 5, 2) := by decide +kernel
theorem dL_law_1627 : decode cL_law 1627 = .ok (.iconst 2, 1) := by decide +kernel
theorem dL_law_1628 : decode cL_law 1628 = .ok (.iadd, 1) := by decide +kernel
theorem dL_law_1629 : decode cL_law 1629 = .ok (.iaload, 1) := by decide +kernel
theorem dL_law_1630 : decode cL_law 1630 = .ok (.aload_n 0, 1) := by decide +kernel
theorem dL_law_1631 : decode cL_law 1631 = .ok (.iload 5, 2) := by decide +kernel
theorem dL_law_1633 : decode cL_law 1633 = .ok (.iconst 3, 1) := by decide +kernel
theorem dL_law_1634 : decode cL_law 1634 = .ok (.iadd, 1) := by decide +kernel
theorem dL_law_1635 : decode cL_law 1635 = .ok (.iaload, 1) := by decide +kernel
theorem dL_law_1636 : decode cL_law 1636 = .ok (.aload_n 0, 1) := by decide +kernel
theorem dL_law_1637 : decode cL_law 1637 = .ok (.iload 5, 2) := by decide +kernel
theorem dL_law_1639 : decode cL_law 1639 = .ok (.iconst 4, 1) := by decide +kernel
theorem dL_law_1640 : decode cL_law 1640 = .ok (.iadd, 1) := by decide +kernel
theorem dL_law_1641 : decode cL_law 1641 = .ok (.iaload, 1) := by decide +kernel
theorem dL_law_1642 : decode cL_law 1642 = .ok (.aload_n 3, 1) := by decide +kernel
theorem dL_law_1643 : decode cL_law 1643 = .ok (.invokestatic 242, 3) := by decide +kernel
theorem dL_law_1646 : decode cL_law 1646 = .ok (.istore 6, 2) := by decide +kernel
theorem dL_law_1648 : decode cL_law 1648 = .ok (.aload_n 2, 1) := by decide +kernel
theorem dL_law_1649 : decode cL_law 1649 = .ok (.aload_n 0, 1) := by decide +kernel
theorem dL_law_1650 : decode cL_law 1650 = .ok (.iload 5, 2) := by decide +kernel
theorem dL_law_1652 : decode cL_law 1652 = .ok (.iconst 1, 1) := by decide +kernel
theorem dL_law_1653 : decode cL_law 1653 = .ok (.iadd, 1) := by decide +kernel
theorem dL_law_1654 : decode cL_law 1654 = .ok (.iaload, 1) := by decide +kernel
theorem dL_law_1655 : decode cL_law 1655 = .ok (.aload_n 0, 1) := by decide +kernel
theorem dL_law_1656 : decode cL_law 1656 = .ok (.iload 5, 2) := by decide +kernel
theorem dL_law_1658 : decode cL_law 1658 = .ok (.iconst 2, 1) := by decide +kernel
theorem dL_law_1659 : decode cL_law 1659 = .ok (.iadd, 1) := by decide +kernel
theorem dL_law_1660 : decode cL_law 1660 = .ok (.iaload, 1) := by decide +kernel
theorem dL_law_1661 : decode cL_law 1661 = .ok (.aload_n 0, 1) := by decide +kernel
theorem dL_law_1662 : decode cL_law 1662 = .ok (.iload 5, 2) := by decide +kernel
theorem dL_law_1664 : decode cL_law 1664 = .ok (.iconst 3, 1) := by decide +kernel
theorem dL_law_1665 : decode cL_law 1665 = .ok (.iadd, 1) := by decide +kernel
theorem dL_law_1666 : decode cL_law 1666 = .ok (.iaload, 1) := by decide +kernel
theorem dL_law_1667 : decode cL_law 1667 = .ok (.aload_n 0, 1) := by decide +kernel
theorem dL_law_1668 : decode cL_law 1668 = .ok (.iload 5, 2) := by decide +kernel
theorem dL_law_1670 : decode cL_law 1670 = .ok (.iconst 4, 1) := by decide +kernel
theorem dL_law_1671 : decode cL_law 1671 = .ok (.iadd, 1) := by decide +kernel
theorem dL_law_1672 : decode cL_law 1672 = .ok (.iaload, 1) := by decide +kernel
theorem dL_law_1673 : decode cL_law 1673 = .ok (.invokevirtual 244, 3) := by decide +kernel
theorem dL_law_1676 : decode cL_law 1676 = .ok (.istore 7, 2) := by decide +kernel
theorem dL_law_1678 : decode cL_law 1678 = .ok (.aload_n 2, 1) := by decide +kernel
theorem dL_law_1679 : decode cL_law 1679 = .ok (.invokevirtual 183, 3) := by decide +kernel
theorem dL_law_1682 : decode cL_law 1682 = .ok (.iload 6, 2) := by decide +kernel
theorem dL_law_1684 : decode cL_law 1684 = .ok (.if_icmp .eq 5, 3) := by decide +kernel
theorem dL_law_1689 : decode cL_law 1689 = .ok (.iload 6, 2) := by decide +kernel
theorem dL_law_1691 : decode cL_law 1691 = .ok (.ifCond .ne 15, 3) := by decide +kernel
theorem dL_law_1706 : decode cL_law 1706 = .ok (.goto 1905, 3) := by decide +kernel
theorem dL_law_1709 : decode cL_law 1709 = .ok (.aload_n 1, 1) := by decide +kernel
theorem dL_law_1710 : decode cL_law 1710 = .ok (.aload_n 0, 1) := by decide +kernel
theorem dL_law_1711 : decode cL_law 1711 = .ok (.iload 5, 2) := by decide +kernel
theorem dL_law_1713 : decode cL_law 1713 = .ok (.iconst 1, 1) := by decide +kernel
theorem dL_law_1714 : decode cL_law 1714 = .ok (.iadd, 1) := by decide +kernel
theorem dL_law_1715 : decode cL_law 1715 = .ok (.iaload, 1) := by decide +kernel
theorem dL_law_1716 : decode cL_law 1716 = .ok (.aload_n 0, 1) := by decide +kernel
theorem dL_law_1717 : decode cL_law 1717 = .ok (.iload 5, 2) := by decide +kernel
theorem dL_law_1719 : decode cL_law 1719 = .ok (.iconst 2, 1) := by decide +kernel
theorem dL_law_1720 : decode cL_law 1720 = .ok (.iadd, 1) := by decide +kernel
theorem dL_law_1721 : decode cL_law 1721 = .ok (.iaload, 1) := by decide +kernel
theorem dL_law_1722 : decode cL_law 1722 = .ok (.aload_n 0, 1) := by decide +kernel
theorem dL_law_1723 : decode cL_law 1723 = .ok (.iload 5, 2) := by decide +kernel
theorem dL_law_1725 : decode cL_law 1725 = .ok (.iconst 3, 1) := by decide +kernel
theorem dL_law_1726 : decode cL_law 1726 = .ok (.iadd, 1) := by decide +kernel
theorem dL_law_1727 : decode cL_law 1727 = .ok (.iaload, 1) := by decide +kernel
theorem dL_law_1728 : decode cL_law 1728 = .ok (.aload_n 3, 1) := by decide +kernel
theorem dL_law_1729 : decode cL_law 1729 = .ok (.invokestatic 245, 3) := by decide +kernel
theorem dL_law_1732 : decode cL_law 1732 = .ok (.istore 6, 2) := by decide +kernel
theorem dL_law_1734 : decode cL_law 1734 = .ok (.aload_n 2, 1) := by decide +kernel
theorem dL_law_1735 : decode cL_law 1735 = .ok (.aload_n 0, 1) := by decide +kernel
theorem dL_law_1736 : decode cL_law 1736 = .ok (.iload 5, 2) := by decide +kernel
theorem dL_law_1738 : decode cL_law 1738 = .ok (.iconst 1, 1) := by decide +kernel
theorem dL_law_1739 : decode cL_law 1739 = .ok (.iadd, 1) := by decide +kernel
theorem dL_law_1740 : decode cL_law 1740 = .ok (.iaload, 1) := by decide +kernel
theorem dL_law_1741 : decode cL_law 1741 = .ok (.aload_n 0, 1) := by decide +kernel
theorem dL_law_1742 : decode cL_law 1742 = .ok (.iload 5, 2) := by decide +kernel
theorem dL_law_1744 : decode cL_law 1744 = .ok (.iconst 2, 1) := by decide +kernel
theorem dL_law_1745 : decode cL_law 1745 = .ok (.iadd, 1) := by decide +kernel
theorem dL_law_1746 : decode cL_law 1746 = .ok (.iaload, 1) := by decide +kernel
theorem dL_law_1747 : decode cL_law 1747 = .ok (.aload_n 0, 1) := by decide +kernel
theorem dL_law_1748 : decode cL_law 1748 = .ok (.iload 5, 2) := by decide +kernel
theorem dL_law_1750 : decode cL_law 1750 = .ok (.iconst 3, 1) := by decide +kernel
theorem dL_law_1751 : decode cL_law 1751 = .ok (.iadd, 1) := by decide +kernel
theorem dL_law_1752 : decode cL_law 1752 = .ok (.iaload, 1) := by decide +kernel
theorem dL_law_1753 : decode cL_law 1753 = .ok (.invokevirtual 247, 3) := by decide +kernel
theorem dL_law_1756 : decode cL_law 1756 = .ok (.istore 7, 2) := by decide +kernel
theorem dL_law_1758 : decode cL_law 1758 = .ok (.aload_n 2, 1) := by decide +kernel
theorem dL_law_1759 : decode cL_law 1759 = .ok (.invokevirtual 183, 3) := by decide +kernel
theorem dL_law_1762 : decode cL_law 1762 = .ok (.iload 6, 2) := by decide +kernel
theorem dL_law_1764 : decode cL_law 1764 = .ok (.if_icmp .eq 5, 3) := by decide +kernel
theorem dL_law_1769 : decode cL_law 1769 = .ok (.iload 6, 2) := by decide +kernel
theorem dL_law_1771 : decode cL_law 1771 = .ok (.ifCond .ne 15, 3) := by decide +kernel
theorem dL_law_1786 : decode cL_law 1786 = .ok (.goto 1825, 3) := by decide +kernel
theorem dL_law_1789 : decode cL_law 1789 = .ok (.aload_n 1, 1) := by decide +kernel
theorem dL_law_1790 : decode cL_law 1790 = .ok (.aload_n 0, 1) := by decide +kernel
theorem dL_law_1791 : decode cL_law 1791 = .ok (.iload 5, 2) := by decide +kernel
theorem dL_law_1793 : decode cL_law 1793 = .ok (.iconst 1, 1) := by decide +kernel
theorem dL_law_1794 : decode cL_law 1794 = .ok (.iadd, 1) := by decide +kernel
theorem dL_law_1795 : decode cL_law 1795 = .ok (.iaload, 1) := by decide +kernel
theorem dL_law_1796 : decode cL_law 1796 = .ok (.aload_n 0, 1) := by decide +kernel
theorem dL_law_1797 : decode cL_law 1797 = .ok (.iload 5, 2) := by decide +kernel
theorem dL_law_1799 : decode cL_law 1799 = .ok (.iconst 2, 1) := by decide +kernel
theorem dL_law_1800 : decode cL_law 1800 = .ok (.iadd, 1) := by decide +kernel
theorem dL_law_1801 : decode cL_law 1801 = .ok (.iaload, 1) := by decide +kernel
theorem dL_law_1802 : decode cL_law 1802 = .ok (.aload_n 0, 1) := by decide +kernel
theorem dL_law_1803 : decode cL_law 1803 = .ok (.iload 5, 2) := by decide +kernel
theorem dL_law_1805 : decode cL_law 1805 = .ok (.iconst 3, 1) := by decide +kernel
theorem dL_law_1806 : decode cL_law 1806 = .ok (.iadd, 1) := by decide +kernel
theorem dL_law_1807 : decode cL_law 1807 = .ok (.iaload, 1) := by decide +kernel
theorem dL_law_1808 : decode cL_law 1808 = .ok (.aload_n 0, 1) := by decide +kernel
theorem dL_law_1809 : decode cL_law 1809 = .ok (.iload 5, 2) := by decide +kernel
theorem dL_law_1811 : decode cL_law 1811 = .ok (.iconst 4, 1) := by decide +kernel
theorem dL_law_1812 : decode cL_law 1812 = .ok (.iadd, 1) := by decide +kernel
theorem dL_law_1813 : decode cL_law 1813 = .ok (.iaload, 1) := by decide +kernel
theorem dL_law_1814 : decode cL_law 1814 = .ok (.aload_n 0, 1) := by decide +kernel
theorem dL_law_1815 : decode cL_law 1815 = .ok (.iload 5, 2) := by decide +kernel
theorem dL_law_1817 : decode cL_law 1817 = .ok (.iconst 5, 1) := by decide +kernel
theorem dL_law_1818 : decode cL_law 1818 = .ok (.iadd, 1) := by decide +kernel
theorem dL_law_1819 : decode cL_law 1819 = .ok (.iaload, 1) := by decide +kernel
theorem dL_law_1820 : decode cL_law 1820 = .ok (.aload_n 0, 1) := by decide +kernel
theorem dL_law_1821 : decode cL_law 1821 = .ok (.iload 5, 2) := by decide +kernel
theorem dL_law_1823 : decode cL_law 1823 = .ok (.bipush 6, 2) := by decide +kernel
theorem dL_law_1825 : decode cL_law 1825 = .ok (.iadd, 1) := by decide +kernel
theorem dL_law_1826 : decode cL_law 1826 = .ok (.iaload, 1) := by decide +kernel
theorem dL_law_1827 : decode cL_law 1827 = .ok (.aload_n 0, 1) := by decide +kernel
theorem dL_law_1828 : decode cL_law 1828 = .ok (.iload 5, 2) := by decide +kernel
theorem dL_law_1830 : decode cL_law 1830 = .ok (.bipush 7, 2) := by decide +kernel
theorem dL_law_1832 : decode cL_law 1832 = .ok (.iadd, 1) := by decide +kernel
theorem dL_law_1833 : decode cL_law 1833 = .ok (.iaload, 1) := by decide +kernel
theorem dL_law_1834 : decode cL_law 1834 = .ok (.ifCond .eq 7, 3) := by decide +kernel
theorem dL_law_1837 : decode cL_law 1837 = .ok (.iconst 1, 1) := by decide +kernel
theorem dL_law_1838 : decode cL_law 1838 = .ok (.goto 4, 3) := by decide +kernel
theorem dL_law_1841 : decode cL_law 1841 = .ok (.iconst 0, 1) := by decide +kernel
theorem dL_law_1842 : decode cL_law 1842 = .ok (.aload_n 0, 1) := by decide +kernel
theorem dL_law_1843 : decode cL_law 1843 = .ok (.iload 5, 2) := by decide +kernel
theorem dL_law_1845 : decode cL_law 1845 = .ok (.bipush 8, 2) := by decide +kernel
theorem dL_law_1847 : decode cL_law 1847 = .ok (.iadd, 1) := by decide +kernel
theorem dL_law_1848 : decode cL_law 1848 = .ok (.iaload, 1) := by decide +kernel
theorem dL_law_1849 : decode cL_law 1849 = .ok (.aload_n 3, 1) := by decide +kernel
theorem dL_law_1850 : decode cL_law 1850 = .ok (.invokestatic 248, 3) := by decide +kernel
theorem dL_law_1853 : decode cL_law 1853 = .ok (.istore 6, 2) := by decide +kernel
theorem dL_law_1855 : decode cL_law 1855 = .ok (.aload_n 2, 1) := by decide +kernel
theorem dL_law_1856 : decode cL_law 1856 = .ok (.aload_n 0, 1) := by decide +kernel
theorem dL_law_1857 : decode cL_law 1857 = .ok (.iload 5, 2) := by decide +kernel
theorem dL_law_1859 : decode cL_law 1859 = .ok (.iconst 1, 1) := by decide +kernel
theorem dL_law_1860 : decode cL_law 1860 = .ok (.iadd, 1) := by decide +kernel
theorem dL_law_1861 : decode cL_law 1861 = .ok (.iaload, 1) := by decide +kernel
theorem dL_law_1862 : decode cL_law 1862 = .ok (.aload_n 0, 1) := by decide +kernel
theorem dL_law_1863 : decode cL_law 1863 = .ok (.iload 5, 2) := by decide +kernel
theorem dL_law_1865 : decode cL_law 1865 = .ok (.iconst 2, 1) := by decide +kernel
theorem dL_law_1866 : decode cL_law 1866 = .ok (.iadd, 1) := by decide +kernel
theorem dL_law_1867 : decode cL_law 1867 = .ok (.iaload, 1) := by decide +kernel
theorem dL_law_1868 : decode cL_law 1868 = .ok (.aload_n 0, 1) := by decide +kernel
theorem dL_law_1869 : decode cL_law 1869 = .ok (.iload 5, 2) := by decide +kernel
theorem dL_law_1871 : decode cL_law 1871 = .ok (.iconst 3, 1) := by decide +kernel
theorem dL_law_1872 : decode cL_law 1872 = .ok (.iadd, 1) := by decide +kernel
theorem dL_law_1873 : decode cL_law 1873 = .ok (.iaload, 1) := by decide +kernel
theorem dL_law_1874 : decode cL_law 1874 = .ok (.aload_n 0, 1) := by decide +kernel
theorem dL_law_1875 : decode cL_law 1875 = .ok (.iload 5, 2) := by decide +kernel
theorem dL_law_1877 : decode cL_law 1877 = .ok (.iconst 4, 1) := by decide +kernel
theorem dL_law_1878 : decode cL_law 1878 = .ok (.iadd, 1) := by decide +kernel
theorem dL_law_1879 : decode cL_law 1879 = .ok (.iaload, 1) := by decide +kernel
theorem dL_law_1880 : decode cL_law 1880 = .ok (.aload_n 0, 1) := by decide +kernel
theorem dL_law_1881 : decode cL_law 1881 = .ok (.iload 5, 2) := by decide +kernel
theorem dL_law_1883 : decode cL_law 1883 = .ok (.iconst 5, 1) := by decide +kernel
theorem dL_law_1884 : decode cL_law 1884 = .ok (.iadd, 1) := by decide +kernel
theorem dL_law_1885 : decode cL_law 1885 = .ok (.iaload, 1) := by decide +kernel
theorem dL_law_1886 : decode cL_law 1886 = .ok (.aload_n 0, 1) := by decide +kernel
theorem dL_law_1887 : decode cL_law 1887 = .ok (.iload 5, 2) := by decide +kernel
theorem dL_law_1889 : decode cL_law 1889 = .ok (.bipush 6, 2) := by decide +kernel
theorem dL_law_1891 : decode cL_law 1891 = .ok (.iadd, 1) := by decide +kernel
theorem dL_law_1892 : decode cL_law 1892 = .ok (.iaload, 1) := by decide +kernel
theorem dL_law_1893 : decode cL_law 1893 = .ok (.aload_n 0, 1) := by decide +kernel
theorem dL_law_1894 : decode cL_law 1894 = .ok (.iload 5, 2) := by decide +kernel
theorem dL_law_1896 : decode cL_law 1896 = .ok (.bipush 7, 2) := by decide +kernel
theorem dL_law_1898 : decode cL_law 1898 = .ok (.iadd, 1) := by decide +kernel
theorem dL_law_1899 : decode cL_law 1899 = .ok (.iaload, 1) := by decide +kernel
theorem dL_law_1900 : decode cL_law 1900 = .ok (.ifCond .eq 7, 3) := by decide +kernel
theorem dL_law_1903 : decode cL_law 1903 = .ok (.iconst 1, 1) := by decide +kernel
theorem dL_law_1904 : decode cL_law 1904 = .ok (.goto 4, 3) := by decide +kernel
theorem dL_law_1907 : decode cL_law 1907 = .ok (.iconst 0, 1) := by decide +kernel
theorem dL_law_1908 : decode cL_law 1908 = .ok (.aload_n 0, 1) := by decide +kernel
theorem dL_law_1909 : decode cL_law 1909 = .ok (.iload 5, 2) := by decide +kernel
theorem dL_law_1911 : decode cL_law 1911 = .ok (.bipush 8, 2) := by decide +kernel
theorem dL_law_1913 : decode cL_law 1913 = .ok (.iadd, 1) := by decide +kernel
theorem dL_law_1914 : decode cL_law 1914 = .ok (.iaload, 1) := by decide +kernel
theorem dL_law_1915 : decode cL_law 1915 = .ok (.invokevirtual 251, 3) := by decide +kernel
theorem dL_law_1918 : decode cL_law 1918 = .ok (.istore 7, 2) := by decide +kernel
theorem dL_law_1920 : decode cL_law 1920 = .ok (.aload_n 2, 1) := by decide +kernel
theorem dL_law_1921 : decode cL_law 1921 = .ok (.invokevirtual 183, 3) := by decide +kernel
theorem dL_law_1924 : decode cL_law 1924 = .ok (.iload 6, 2) := by decide +kernel
theorem dL_law_1926 : decode cL_law 1926 = .ok (.if_icmp .eq 5, 3) := by decide +kernel
theorem dL_law_1931 : decode cL_law 1931 = .ok (.iload 6, 2) := by decide +kernel
theorem dL_law_1933 : decode cL_law 1933 = .ok (.ifCond .ne 15, 3) := by decide +kernel
theorem dL_law_1948 : decode cL_law 1948 = .ok (.goto 1663, 3) := by decide +kernel
theorem dL_law_1951 : decode cL_law 1951 = .ok (.aload_n 1, 1) := by decide +kernel
theorem dL_law_1952 : decode cL_law 1952 = .ok (.aload_n 0, 1) := by decide +kernel
theorem dL_law_1953 : decode cL_law 1953 = .ok (.iload 5, 2) := by decide +kernel
theorem dL_law_1955 : decode cL_law 1955 = .ok (.iconst 1, 1) := by decide +kernel
theorem dL_law_1956 : decode cL_law 1956 = .ok (.iadd, 1) := by decide +kernel
theorem dL_law_1957 : decode cL_law 1957 = .ok (.iaload, 1) := by decide +kernel
theorem dL_law_1958 : decode cL_law 1958 = .ok (.aload_n 0, 1) := by decide +kernel
theorem dL_law_1959 : decode cL_law 1959 = .ok (.iload 5, 2) := by decide +kernel
theorem dL_law_1961 : decode cL_law 1961 = .ok (.iconst 2, 1) := by decide +kernel
theorem dL_law_1962 : decode cL_law 1962 = .ok (.iadd, 1) := by decide +kernel
theorem dL_law_1963 : decode cL_law 1963 = .ok (.iaload, 1) := by decide +kernel
theorem dL_law_1964 : decode cL_law 1964 = .ok (.aload_n 0, 1) := by decide +kernel
theorem dL_law_1965 : decode cL_law 1965 = .ok (.iload 5, 2) := by decide +kernel
theorem dL_law_1967 : decode cL_law 1967 = .ok (.iconst 3, 1) := by decide +kernel
theorem dL_law_1968 : decode cL_law 1968 = .ok (.iadd, 1) := by decide +kernel
theorem dL_law_1969 : decode cL_law 1969 = .ok (.iaload, 1) := by decide +kernel
theorem dL_law_1970 : decode cL_law 1970 = .ok (.aload_n 3, 1) := by decide +kernel
theorem dL_law_1971 : decode cL_law 1971 = .ok (.invokestatic 252, 3) := by decide +kernel
theorem dL_law_1974 : decode cL_law 1974 = .ok (.istore 6, 2) := by decide +kernel
theorem dL_law_1976 : decode cL_law 1976 = .ok (.aload_n 2, 1) := by decide +kernel
theorem dL_law_1977 : decode cL_law 1977 = .ok (.aload_n 0, 1) := by decide +kernel
theorem dL_law_1978 : decode cL_law 1978 = .ok (.iload 5, 2) := by decide +kernel
theorem dL_law_1980 : decode cL_law 1980 = .ok (.iconst 1, 1) := by decide +kernel
theorem dL_law_1981 : decode cL_law 1981 = .ok (.iadd, 1) := by decide +kernel
theorem dL_law_1982 : decode cL_law 1982 = .ok (.iaload, 1) := by decide +kernel
theorem dL_law_1983 : decode cL_law 1983 = .ok (.aload_n 0, 1) := by decide +kernel
theorem dL_law_1984 : decode cL_law 1984 = .ok (.iload 5, 2) := by decide +kernel
theorem dL_law_1986 : decode cL_law 1986 = .ok (.iconst 2, 1) := by decide +kernel
theorem dL_law_1987 : decode cL_law 1987 = .ok (.iadd, 1) := by decide +kernel
theorem dL_law_1988 : decode cL_law 1988 = .ok (.iaload, 1) := by decide +kernel
theorem dL_law_1989 : decode cL_law 1989 = .ok (.aload_n 0, 1) := by decide +kernel
theorem dL_law_1990 : decode cL_law 1990 = .ok (.iload 5, 2) := by decide +kernel
theorem dL_law_1992 : decode cL_law 1992 = .ok (.iconst 3, 1) := by decide +kernel
theorem dL_law_1993 : decode cL_law 1993 = .ok (.iadd, 1) := by decide +kernel
theorem dL_law_1994 : decode cL_law 1994 = .ok (.iaload, 1) := by decide +kernel
theorem dL_law_1995 : decode cL_law 1995 = .ok (.invokevirtual 254, 3) := by decide +kernel
theorem dL_law_1998 : decode cL_law 1998 = .ok (.istore 7, 2) := by decide +kernel
theorem dL_law_2000 : decode cL_law 2000 = .ok (.aload_n 2, 1) := by decide +kernel
theorem dL_law_2001 : decode cL_law 2001 = .ok (.invokevirtual 183, 3) := by decide +kernel
theorem dL_law_2004 : decode cL_law 2004 = .ok (.iload 6, 2) := by decide +kernel
theorem dL_law_2006 : decode cL_law 2006 = .ok (.if_icmp .eq 5, 3) := by decide +kernel
theorem dL_law_2011 : decode cL_law 2011 = .ok (.iload 6, 2) := by decide +kernel
theorem dL_law_2013 : decode cL_law 2013 = .ok (.ifCond .ne 15, 3) := by decide +kernel
theorem dL_law_2028 : decode cL_law 2028 = .ok (.goto 1583, 3) := by decide +kernel
theorem dL_law_2031 : decode cL_law 2031 = .ok (.aload_n 1, 1) := by decide +kernel
theorem dL_law_2032 : decode cL_law 2032 = .ok (.aload_n 0, 1) := by decide +kernel
theorem dL_law_2033 : decode cL_law 2033 = .ok (.iload 5, 2) := by decide +kernel
theorem dL_law_2035 : decode cL_law 2035 = .ok (.iconst 1, 1) := by decide +kernel
theorem dL_law_2036 : decode cL_law 2036 = .ok (.iadd, 1) := by decide +kernel
theorem dL_law_2037 : decode cL_law 2037 = .ok (.iaload, 1) := by decide +kernel
theorem dL_law_2038 : decode cL_law 2038 = .ok (.aload_n 3, 1) := by decide +kernel
theorem dL_law_2039 : decode cL_law 2039 = .ok (.invokestatic 255, 3) := by decide +kernel
theorem dL_law_2042 : decode cL_law 2042 = .ok (.istore 6, 2) := by decide +kernel
theorem dL_law_2044 : decode cL_law 2044 = .ok (.aload_n 2, 1) := by decide +kernel
theorem dL_law_2045 : decode cL_law 2045 = .ok (.aload_n 0, 1) := by decide +kernel
theorem dL_law_2046 : decode cL_law 2046 = .ok (.iload 5, 2) := by decide +kernel
theorem dL_law_2048 : decode cL_law 2048 = .ok (.iconst 1, 1) := by decide +kernel
theorem dL_law_2049 : decode cL_law 2049 = .ok (.iadd, 1) := by decide +kernel
theorem dL_law_2050 : decode cL_law 2050 = .ok (.iaload, 1) := by decide +kernel
theorem dL_law_2051 : decode cL_law 2051 = .ok (.invokevirtual 257, 3) := by decide +kernel
theorem dL_law_2054 : decode cL_law 2054 = .ok (.istore 7, 2) := by decide +kernel
theorem dL_law_2056 : decode cL_law 2056 = .ok (.aload_n 2, 1) := by decide +kernel
theorem dL_law_2057 : decode cL_law 2057 = .ok (.invokevirtual 183, 3) := by decide +kernel
theorem dL_law_2060 : decode cL_law 2060 = .ok (.iload 6, 2) := by decide +kernel
theorem dL_law_2062 : decode cL_law 2062 = .ok (.if_icmp .eq 5, 3) := by decide +kernel
theorem dL_law_2067 : decode cL_law 2067 = .ok (.iload 6, 2) := by decide +kernel
theorem dL_law_2069 : decode cL_law 2069 = .ok (.ifCond .ne 15, 3) := by decide +kernel
theorem dL_law_2084 : decode cL_law 2084 = .ok (.goto 1527, 3) := by decide +kernel
theorem dL_law_2087 : decode cL_law 2087 = .ok (.aload_n 1, 1) := by decide +kernel
theorem dL_law_2088 : decode cL_law 2088 = .ok (.aload_n 0, 1) := by decide +kernel
theorem dL_law_2089 : decode cL_law 2089 = .ok (.iload 5, 2) := by decide +kernel
theorem dL_law_2091 : decode cL_law 2091 = .ok (.iconst 1, 1) := by decide +kernel
theorem dL_law_2092 : decode cL_law 2092 = .ok (.iadd, 1) := by decide +kernel
theorem dL_law_2093 : decode cL_law 2093 = .ok (.iaload, 1) := by decide +kernel
theorem dL_law_2094 : decode cL_law 2094 = .ok (.aload_n 3, 1) := by decide +kernel
theorem dL_law_2095 : decode cL_law 2095 = .ok (.invokestatic 258, 3) := by decide +kernel
theorem dL_law_2098 : decode cL_law 2098 = .ok (.istore 6, 2) := by decide +kernel
theorem dL_law_2100 : decode cL_law 2100 = .ok (.aload_n 2, 1) := by decide +kernel
theorem dL_law_2101 : decode cL_law 2101 = .ok (.aload_n 0, 1) := by decide +kernel
theorem dL_law_2102 : decode cL_law 2102 = .ok (.iload 5, 2) := by decide +kernel
theorem dL_law_2104 : decode cL_law 2104 = .ok (.iconst 1, 1) := by decide +kernel
theorem dL_law_2105 : decode cL_law 2105 = .ok (.iadd, 1) := by decide +kernel
theorem dL_law_2106 : decode cL_law 2106 = .ok (.iaload, 1) := by decide +kernel
theorem dL_law_2107 : decode cL_law 2107 = .ok (.invokevirtual 260, 3) := by decide +kernel
theorem dL_law_2110 : decode cL_law 2110 = .ok (.istore 7, 2) := by decide +kernel
theorem dL_law_2112 : decode cL_law 2112 = .ok (.aload_n 2, 1) := by decide +kernel
theorem dL_law_2113 : decode cL_law 2113 = .ok (.invokevirtual 183, 3) := by decide +kernel
theorem dL_law_2116 : decode cL_law 2116 = .ok (.iload 6, 2) := by decide +kernel
theorem dL_law_2118 : decode cL_law 2118 = .ok (.if_icmp .eq 5, 3) := by decide +kernel
theorem dL_law_2123 : decode cL_law 2123 = .ok (.iload 6, 2) := by decide +kernel
theorem dL_law_2125 : decode cL_law 2125 = .ok (.ifCond .ne 15, 3) := by decide +kernel
theorem dL_law_2128 : decode cL_law 2128 = .ok (.aload_n 3, 1) := by decide +kernel
theorem dL_law_2129 : decode cL_law 2129 = .ok (.iconst 0, 1) := by decide +kernel
theorem dL_law_2130 : decode cL_law 2130 = .ok (.laload, 1) := by decide +kernel
theorem dL_law_2131 : decode cL_law 2131 = .ok (.iload 7, 2) := by decide +kernel
theorem dL_law_2133 : decode cL_law 2133 = .ok (.i2l, 1) := by decide +kernel
theorem dL_law_2134 : decode cL_law 2134 = .ok (.lcmp, 1) := by decide +kernel
theorem dL_law_2135 : decode cL_law 2135 = .ok (.ifCond .eq 5, 3) := by decide +kernel
theorem dL_law_2140 : decode cL_law 2140 = .ok (.goto 1471, 3) := by decide +kernel
theorem dL_law_2143 : decode cL_law 2143 = .ok (.aload_n 1, 1) := by decide +kernel
theorem dL_law_2144 : decode cL_law 2144 = .ok (.aload_n 0, 1) := by decide +kernel
theorem dL_law_2145 : decode cL_law 2145 = .ok (.iload 5, 2) := by decide +kernel
theorem dL_law_2147 : decode cL_law 2147 = .ok (.iconst 1, 1) := by decide +kernel
theorem dL_law_2148 : decode cL_law 2148 = .ok (.iadd, 1) := by decide +kernel
theorem dL_law_2149 : decode cL_law 2149 = .ok (.iaload, 1) := by decide +kernel
theorem dL_law_2150 : decode cL_law 2150 = .ok (.aload_n 0, 1) := by decide +kernel
theorem dL_law_2151 : decode cL_law 2151 = .ok (.iload 5, 2) := by decide +kernel
theorem dL_law_2153 : decode cL_law 2153 = .ok (.iconst 2, 1) := by decide +kernel
theorem dL_law_2154 : decode cL_law 2154 = .ok (.iadd, 1) := by decide +kernel
theorem dL_law_2155 : decode cL_law 2155 = .ok (.iaload, 1) := by decide +kernel
theorem dL_law_2156 : decode cL_law 2156 = .ok (.aload_n 0, 1) := by decide +kernel
theorem dL_law_2157 : decode cL_law 2157 = .ok (.iload 5, 2) := by decide +kernel
theorem dL_law_2159 : decode cL_law 2159 = .ok (.iconst 3, 1) := by decide +kernel
theorem dL_law_2160 : decode cL_law 2160 = .ok (.iadd, 1) := by decide +kernel
theorem dL_law_2161 : decode cL_law 2161 = .ok (.iaload, 1) := by decide +kernel
theorem dL_law_2162 : decode cL_law 2162 = .ok (.ifCond .eq 7, 3) := by decide +kernel
theorem dL_law_2165 : decode cL_law 2165 = .ok (.iconst 1, 1) := by decide +kernel
theorem dL_law_2166 : decode cL_law 2166 = .ok (.goto 4, 3) := by decide +kernel
theorem dL_law_2169 : decode cL_law 2169 = .ok (.iconst 0, 1) := by decide +kernel
theorem dL_law_2170 : decode cL_law 2170 = .ok (.aload_n 3, 1) := by decide +kernel
theorem dL_law_2171 : decode cL_law 2171 = .ok (.invokestatic 261, 3) := by decide +kernel
theorem dL_law_2174 : decode cL_law 2174 = .ok (.istore 6, 2) := by decide +kernel
theorem dL_law_2176 : decode cL_law 2176 = .ok (.aload_n 2, 1) := by decide +kernel
theorem dL_law_2177 : decode cL_law 2177 = .ok (.aload_n 0, 1) := by decide +kernel
theorem dL_law_2178 : decode cL_law 2178 = .ok (.iload 5, 2) := by decide +kernel
theorem dL_law_2180 : decode cL_law 2180 = .ok (.iconst 1, 1) := by decide +kernel
theorem dL_law_2181 : decode cL_law 2181 = .ok (.iadd, 1) := by decide +kernel
theorem dL_law_2182 : decode cL_law 2182 = .ok (.iaload, 1) := by decide +kernel
theorem dL_law_2183 : decode cL_law 2183 = .ok (.aload_n 0, 1) := by decide +kernel
theorem dL_law_2184 : decode cL_law 2184 = .ok (.iload 5, 2) := by decide +kernel
theorem dL_law_2186 : decode cL_law 2186 = .ok (.iconst 2, 1) := by decide +kernel
theorem dL_law_2187 : decode cL_law 2187 = .ok (.iadd, 1) := by decide +kernel
theorem dL_law_2188 : decode cL_law 2188 = .ok (.iaload, 1) := by decide +kernel
theorem dL_law_2189 : decode cL_law 2189 = .ok (.aload_n 0, 1) := by decide +kernel
theorem dL_law_2190 : decode cL_law 2190 = .ok (.iload 5, 2) := by decide +kernel
theorem dL_law_2192 : decode cL_law 2192 = .ok (.iconst 3, 1) := by decide +kernel
theorem dL_law_2193 : decode cL_law 2193 = .ok (.iadd, 1) := by decide +kernel
theorem dL_law_2194 : decode cL_law 2194 = .ok (.iaload, 1) := by decide +kernel
theorem dL_law_2195 : decode cL_law 2195 = .ok (.ifCond .eq 7, 3) := by decide +kernel
theorem dL_law_2198 : decode cL_law 2198 = .ok (.iconst 1, 1) := by decide +kernel
theorem dL_law_2199 : decode cL_law 2199 = .ok (.goto 4, 3) := by decide +kernel
theorem dL_law_2202 : decode cL_law 2202 = .ok (.iconst 0, 1) := by decide +kernel
theorem dL_law_2203 : decode cL_law 2203 = .ok (.invokevirtual 264, 3) := by decide +kernel
theorem dL_law_2206 : decode cL_law 2206 = .ok (.istore 7, 2) := by decide +kernel
theorem dL_law_2208 : decode cL_law 2208 = .ok (.aload_n 2, 1) := by decide +kernel
theorem dL_law_2209 : decode cL_law 2209 = .ok (.invokevirtual 183, 3) := by decide +kernel
theorem dL_law_2212 : decode cL_law 2212 = .ok (.iload 6, 2) := by decide +kernel
theorem dL_law_2214 : decode cL_law 2214 = .ok (.if_icmp .eq 5, 3) := by decide +kernel
theorem dL_law_2219 : decode cL_law 2219 = .ok (.iload 6, 2) := by decide +kernel
theorem dL_law_2221 : decode cL_law 2221 = .ok (.ifCond .ne 22, 3) := by decide +kernel
theorem dL_law_2224 : decode cL_law 2224 = .ok (.aload_n 3, 1) := by decide +kernel
theorem dL_law_2225 : decode cL_law 2225 = .ok (.iconst 0, 1) := by decide +kernel
theorem dL_law_2226 : decode cL_law 2226 = .ok (.laload, 1) := by decide +kernel
theorem dL_law_2227 : decode cL_law 2227 = .ok (.iload 7, 2) := by decide +kernel
theorem dL_law_2229 : decode cL_law 2229 = .ok (.ifCond .eq 7, 3) := by decide +kernel
theorem dL_law_2236 : decode cL_law 2236 = .ok (.lconst 0, 1) := by decide +kernel
theorem dL_law_2237 : decode cL_law 2237 = .ok (.lcmp, 1) := by decide +kernel
theorem dL_law_2238 : decode cL_law 2238 = .ok (.ifCond .eq 5, 3) := by decide +kernel
theorem dL_law_2243 : decode cL_law 2243 = .ok (.goto 1368, 3) := by decide +kernel
theorem dL_law_2246 : decode cL_law 2246 = .ok (.aload_n 1, 1) := by decide +kernel
theorem dL_law_2247 : decode cL_law 2247 = .ok (.aload_n 0, 1) := by decide +kernel
theorem dL_law_2248 : decode cL_law 2248 = .ok (.iload 5, 2) := by decide +kernel
theorem dL_law_2250 : decode cL_law 2250 = .ok (.iconst 1, 1) := by decide +kernel
theorem dL_law_2251 : decode cL_law 2251 = .ok (.iadd, 1) := by decide +kernel
theorem dL_law_2252 : decode cL_law 2252 = .ok (.iaload, 1) := by decide +kernel
theorem dL_law_2253 : decode cL_law 2253 = .ok (.aload_n 0, 1) := by decide +kernel
theorem dL_law_2254 : decode cL_law 2254 = .ok (.iload 5, 2) := by decide +kernel
theorem dL_law_2256 : decode cL_law 2256 = .ok (.iconst 2, 1) := by decide +kernel
theorem dL_law_2257 : decode cL_law 2257 = .ok (.iadd, 1) := by decide +kernel
theorem dL_law_2258 : decode cL_law 2258 = .ok (.iaload, 1) := by decide +kernel
theorem dL_law_2259 : decode cL_law 2259 = .ok (.ifCond .eq 7, 3) := by decide +kernel
theorem dL_law_2262 : decode cL_law 2262 = .ok (.iconst 1, 1) := by decide +kernel
theorem dL_law_2263 : decode cL_law 2263 = .ok (.goto 4, 3) := by decide +kernel
theorem dL_law_2266 : decode cL_law 2266 = .ok (.iconst 0, 1) := by decide +kernel
theorem dL_law_2267 : decode cL_law 2267 = .ok (.aload_n 3, 1) := by decide +kernel
theorem dL_law_2268 : decode cL_law 2268 = .ok (.invokestatic 265, 3) := by decide +kernel
theorem dL_law_2271 : decode cL_law 2271 = .ok (.istore 6, 2) := by decide +kernel
theorem dL_law_2273 : decode cL_law 2273 = .ok (.aload_n 2, 1) := by decide +kernel
theorem dL_law_2274 : decode cL_law 2274 = .ok (.aload_n 0, 1) := by decide +kernel
theorem dL_law_2275 : decode cL_law 2275 = .ok (.iload 5, 2) := by decide +kernel
theorem dL_law_2277 : decode cL_law 2277 = .ok (.iconst 1, 1) := by decide +kernel
theorem dL_law_2278 : decode cL_law 2278 = .ok (.iadd, 1) := by decide +kernel
theorem dL_law_2279 : decode cL_law 2279 = .ok (.iaload, 1) := by decide +kernel
theorem dL_law_2280 : decode cL_law 2280 = .ok (.aload_n 0, 1) := by decide +kernel
theorem dL_law_2281 : decode cL_law 2281 = .ok (.iload 5, 2) := by decide +kernel
theorem dL_law_2283 : decode cL_law 2283 = .ok (.iconst 2, 1) := by decide +kernel
theorem dL_law_2284 : decode cL_law 2284 = .ok (.iadd, 1) := by decide +kernel
theorem dL_law_2285 : decode cL_law 2285 = .ok (.iaload, 1) := by decide +kernel
theorem dL_law_2286 : decode cL_law 2286 = .ok (.ifCond .eq 7, 3) := by decide +kernel
theorem dL_law_2289 : decode cL_law 2289 = .ok (.iconst 1, 1) := by decide +kernel
theorem dL_law_2290 : decode cL_law 2290 = .ok (.goto 4, 3) := by decide +kernel
theorem dL_law_2293 : decode cL_law 2293 = .ok (.iconst 0, 1) := by decide +kernel
theorem dL_law_2294 : decode cL_law 2294 = .ok (.invokevirtual 268, 3) := by decide +kernel
theorem dL_law_2297 : decode cL_law 2297 = .ok (.istore 7, 2) := by decide +kernel
theorem dL_law_2299 : decode cL_law 2299 = .ok (.aload_n 2, 1) := by decide +kernel
theorem dL_law_2300 : decode cL_law 2300 = .ok (.invokevirtual 183, 3) := by decide +kernel
theorem dL_law_2303 : decode cL_law 2303 = .ok (.iload 6, 2) := by decide +kernel
theorem dL_law_2305 : decode cL_law 2305 = .ok (.if_icmp .eq 5, 3) := by decide +kernel
theorem dL_law_2310 : decode cL_law 2310 = .ok (.iload 6, 2) := by decide +kernel
theorem dL_law_2312 : decode cL_law 2312 = .ok (.ifCond .ne 22, 3) := by decide +kernel
theorem dL_law_2315 : decode cL_law 2315 = .ok (.aload_n 3, 1) := by decide +kernel
theorem dL_law_2316 : decode cL_law 2316 = .ok (.iconst 0, 1) := by decide +kernel
theorem dL_law_2317 : decode cL_law 2317 = .ok (.laload, 1) := by decide +kernel
theorem dL_law_2318 : decode cL_law 2318 = .ok (.iload 7, 2) := by decide +kernel
theorem dL_law_2320 : decode cL_law 2320 = .ok (.ifCond .eq 7, 3) := by decide +kernel
theorem dL_law_2327 : decode cL_law 2327 = .ok (.lconst 0, 1) := by decide +kernel
theorem dL_law_2328 : decode cL_law 2328 = .ok (.lcmp, 1) := by decide +kernel
theorem dL_law_2329 : decode cL_law 2329 = .ok (.ifCond .eq 5, 3) := by decide +kernel
theorem dL_law_2334 : decode cL_law 2334 = .ok (.goto 1277, 3) := by decide +kernel
theorem dL_law_2337 : decode cL_law 2337 = .ok (.aload_n 1, 1) := by decide +kernel
theorem dL_law_2338 : decode cL_law 2338 = .ok (.aload_n 0, 1) := by decide +kernel
theorem dL_law_2339 : decode cL_law 2339 = .ok (.iload 5, 2) := by decide +kernel
theorem dL_law_2341 : decode cL_law 2341 = .ok (.iconst 1, 1) := by decide +kernel
theorem dL_law_2342 : decode cL_law 2342 = .ok (.iadd, 1) := by decide +kernel
theorem dL_law_2343 : decode cL_law 2343 = .ok (.iaload, 1) := by decide +kernel
theorem dL_law_2344 : decode cL_law 2344 = .ok (.aload_n 0, 1) := by decide +kernel
theorem dL_law_2345 : decode cL_law 2345 = .ok (.iload 5, 2) := by decide +kernel
theorem dL_law_2347 : decode cL_law 2347 = .ok (.iconst 2, 1) := by decide +kernel
theorem dL_law_2348 : decode cL_law 2348 = .ok (.iadd, 1) := by decide +kernel
theorem dL_law_2349 : decode cL_law 2349 = .ok (.iaload, 1) := by decide +kernel
theorem dL_law_2350 : decode cL_law 2350 = .ok (.aload_n 3, 1) := by decide +kernel
theorem dL_law_2351 : decode cL_law 2351 = .ok (.invokestatic 269, 3) := by decide +kernel
theorem dL_law_2354 : decode cL_law 2354 = .ok (.istore 6, 2) := by decide +kernel
theorem dL_law_2356 : decode cL_law 2356 = .ok (.aload_n 2, 1) := by decide +kernel
theorem dL_law_2357 : decode cL_law 2357 = .ok (.aload_n 0, 1) := by decide +kernel
theorem dL_law_2358 : decode cL_law 2358 = .ok (.iload 5, 2) := by decide +kernel
theorem dL_law_2360 : decode cL_law 2360 = .ok (.iconst 1, 1) := by decide +kernel
theorem dL_law_2361 : decode cL_law 2361 = .ok (.iadd, 1) := by decide +kernel
theorem dL_law_2362 : decode cL_law 2362 = .ok (.iaload, 1) := by decide +kernel
theorem dL_law_2363 : decode cL_law 2363 = .ok (.aload_n 0, 1) := by decide +kernel
theorem dL_law_2364 : decode cL_law 2364 = .ok (.iload 5, 2) := by decide +kernel
theorem dL_law_2366 : decode cL_law 2366 = .ok (.iconst 2, 1) := by decide +kernel
theorem dL_law_2367 : decode cL_law 2367 = .ok (.iadd, 1) := by decide +kernel
theorem dL_law_2368 : decode cL_law 2368 = .ok (.iaload, 1) := by decide +kernel
theorem dL_law_2369 : decode cL_law 2369 = .ok (.invokevirtual 271, 3) := by decide +kernel
theorem dL_law_2372 : decode cL_law 2372 = .ok (.istore 7, 2) := by decide +kernel
theorem dL_law_2374 : decode cL_law 2374 = .ok (.aload_n 2, 1) := by decide +kernel
theorem dL_law_2375 : decode cL_law 2375 = .ok (.invokevirtual 183, 3) := by decide +kernel
theorem dL_law_2378 : decode cL_law 2378 = .ok (.iload 6, 2) := by decide +kernel
theorem dL_law_2380 : decode cL_law 2380 = .ok (.if_icmp .eq 5, 3) := by decide +kernel
theorem dL_law_2385 : decode cL_law 2385 = .ok (.iload 6, 2) := by decide +kernel
theorem dL_law_2387 : decode cL_law 2387 = .ok (.ifCond .ne 15, 3) := by decide +kernel
theorem dL_law_2402 : decode cL_law 2402 = .ok (.goto 1209, 3) := by decide +kernel
theorem dL_law_2405 : decode cL_law 2405 = .ok (.aload_n 1, 1) := by decide +kernel
theorem dL_law_2406 : decode cL_law 2406 = .ok (.aload_n 0, 1) := by decide +kernel
theorem dL_law_2407 : decode cL_law 2407 = .ok (.iload 5, 2) := by decide +kernel
theorem dL_law_2409 : decode cL_law 2409 = .ok (.iconst 1, 1) := by decide +kernel
theorem dL_law_2410 : decode cL_law 2410 = .ok (.iadd, 1) := by decide +kernel
theorem dL_law_2411 : decode cL_law 2411 = .ok (.iaload, 1) := by decide +kernel
theorem dL_law_2412 : decode cL_law 2412 = .ok (.aload_n 3, 1) := by decide +kernel
theorem dL_law_2413 : decode cL_law 2413 = .ok (.invokestatic 272, 3) := by decide +kernel
theorem dL_law_2416 : decode cL_law 2416 = .ok (.istore 6, 2) := by decide +kernel
theorem dL_law_2418 : decode cL_law 2418 = .ok (.aload_n 2, 1) := by decide +kernel
theorem dL_law_2419 : decode cL_law 2419 = .ok (.aload_n 0, 1) := by decide +kernel
theorem dL_law_2420 : decode cL_law 2420 = .ok (.iload 5, 2) := by decide +kernel
theorem dL_law_2422 : decode cL_law 2422 = .ok (.iconst 1, 1) := by decide +kernel
theorem dL_law_2423 : decode cL_law 2423 = .ok (.iadd, 1) := by decide +kernel
theorem dL_law_2424 : decode cL_law 2424 = .ok (.iaload, 1) := by decide +kernel
theorem dL_law_2425 : decode cL_law 2425 = .ok (.invokevirtual 274, 3) := by decide +kernel
theorem dL_law_2428 : decode cL_law 2428 = .ok (.istore 7, 2) := by decide +kernel
theorem dL_law_2430 : decode cL_law 2430 = .ok (.aload_n 2, 1) := by decide +kernel
theorem dL_law_2431 : decode cL_law 2431 = .ok (.invokevirtual 183, 3) := by decide +kernel
theorem dL_law_2434 : decode cL_law 2434 = .ok (.iload 6, 2) := by decide +kernel
theorem dL_law_2436 : decode cL_law 2436 = .ok (.if_icmp .eq 5, 3) := by decide +kernel
theorem dL_law_2441 : decode cL_law 2441 = .ok (.iload 6, 2) := by decide +kernel
theorem dL_law_2443 : decode cL_law 2443 = .ok (.ifCond .ne 15, 3) := by decide +kernel
theorem dL_law_2446 : decode cL_law 2446 = .ok (.aload_n 3, 1) := by decide +kernel
theorem dL_law_2447 : decode cL_law 2447 = .ok (.iconst 0, 1) := by decide +kernel
theorem dL_law_2448 : decode cL_law 2448 = .ok (.laload, 1) := by decide +kernel
theorem dL_law_2449 : decode cL_law 2449 = .ok (.iload 7, 2) := by decide +kernel
theorem dL_law_2451 : decode cL_law 2451 = .ok (.i2l, 1) := by decide +kernel
theorem dL_law_2452 : decode cL_law 2452 = .ok (.lcmp, 1) := by decide +kernel
theorem dL_law_2453 : decode cL_law 2453 = .ok (.ifCond .eq 5, 3) := by decide +kernel
theorem dL_law_2458 : decode cL_law 2458 = .ok (.goto 1153, 3) := by decide +kernel
theorem dL_law_2461 : decode cL_law 2461 = .ok (.aload_n 1, 1) := by decide +kernel
theorem dL_law_2462 : decode cL_law 2462 = .ok (.aload_n 0, 1) := by decide +kernel
theorem dL_law_2463 : decode cL_law 2463 = .ok (.iload 5, 2) := by decide +kernel
theorem dL_law_2465 : decode cL_law 2465 = .ok (.iconst 1, 1) := by decide +kernel
theorem dL_law_2466 : decode cL_law 2466 = .ok (.iadd, 1) := by decide +kernel
theorem dL_law_2467 : decode cL_law 2467 = .ok (.iaload, 1) := by decide +kernel
theorem dL_law_2468 : decode cL_law 2468 = .ok (.aload_n 0, 1) := by decide +kernel
theorem dL_law_2469 : decode cL_law 2469 = .ok (.iload 5, 2) := by decide +kernel
theorem dL_law_2471 : decode cL_law 2471 = .ok (.iconst 2, 1) := by decide +kernel
theorem dL_law_2472 : decode cL_law 2472 = .ok (.iadd, 1) := by decide +kernel
theorem dL_law_2473 : decode cL_law 2473 = .ok (.iaload, 1) := by decide +kernel
theorem dL_law_2474 : decode cL_law 2474 = .ok (.aload_n 0, 1) := by decide +kernel
theorem dL_law_2475 : decode cL_law 2475 = .ok (.iload 5, 2) := by decide +kernel
theorem dL_law_2477 : decode cL_law 2477 = .ok (.iconst 3, 1) := by decide +kernel
theorem dL_law_2478 : decode cL_law 2478 = .ok (.iadd, 1) := by decide +kernel
theorem dL_law_2479 : decode cL_law 2479 = .ok (.iaload, 1) := by decide +kernel
theorem dL_law_2480 : decode cL_law 2480 = .ok (.aload_n 0, 1) := by decide +kernel
theorem dL_law_2481 : decode cL_law 2481 = .ok (.iload 5, 2) := by decide +kernel
theorem dL_law_2483 : decode cL_law 2483 = .ok (.iconst 4, 1) := by decide +kernel
theorem dL_law_2484 : decode cL_law 2484 = .ok (.iadd, 1) := by decide +kernel
theorem dL_law_2485 : decode cL_law 2485 = .ok (.iaload, 1) := by decide +kernel
theorem dL_law_2486 : decode cL_law 2486 = .ok (.aload_n 3, 1) := by decide +kernel
theorem dL_law_2487 : decode cL_law 2487 = .ok (.invokestatic 275, 3) := by decide +kernel
theorem dL_law_2490 : decode cL_law 2490 = .ok (.istore 6, 2) := by decide +kernel
theorem dL_law_2492 : decode cL_law 2492 = .ok (.aload_n 2, 1) := by decide +kernel
theorem dL_law_2493 : decode cL_law 2493 = .ok (.aload_n 0, 1) := by decide +kernel
theorem dL_law_2494 : decode cL_law 2494 = .ok (.iload 5, 2) := by decide +kernel
theorem dL_law_2496 : decode cL_law 2496 = .ok (.iconst 1, 1) := by decide +kernel
theorem dL_law_2497 : decode cL_law 2497 = .ok (.iadd, 1) := by decide +kernel
theorem dL_law_2498 : decode cL_law 2498 = .ok (.iaload, 1) := by decide +kernel
theorem dL_law_2499 : decode cL_law 2499 = .ok (.aload_n 0, 1) := by decide +kernel
theorem dL_law_2500 : decode cL_law 2500 = .ok (.iload 5, 2) := by decide +kernel
theorem dL_law_2502 : decode cL_law 2502 = .ok (.iconst 2, 1) := by decide +kernel
theorem dL_law_2503 : decode cL_law 2503 = .ok (.iadd, 1) := by decide +kernel
theorem dL_law_2504 : decode cL_law 2504 = .ok (.iaload, 1) := by decide +kernel
theorem dL_law_2505 : decode cL_law 2505 = .ok (.aload_n 0, 1) := by decide +kernel
theorem dL_law_2506 : decode cL_law 2506 = .ok (.iload 5, 2) := by decide +kernel
theorem dL_law_2508 : decode cL_law 2508 = .ok (.iconst 3, 1) := by decide +kernel
theorem dL_law_2509 : decode cL_law 2509 = .ok (.iadd, 1) := by decide +kernel
theorem dL_law_2510 : decode cL_law 2510 = .ok (.iaload, 1) := by decide +kernel
theorem dL_law_2511 : decode cL_law 2511 = .ok (.aload_n 0, 1) := by decide +kernel
theorem dL_law_2512 : decode cL_law 2512 = .ok (.iload 5, 2) := by decide +kernel
theorem dL_law_2514 : decode cL_law 2514 = .ok (.iconst 4, 1) := by decide +kernel
theorem dL_law_2515 : decode cL_law 2515 = .ok (.iadd, 1) := by decide +kernel
theorem dL_law_2516 : decode cL_law 2516 = .ok (.iaload, 1) := by decide +kernel
theorem dL_law_2517 : decode cL_law 2517 = .ok (.invokevirtual 277, 3) := by decide +kernel
theorem dL_law_2520 : decode cL_law 2520 = .ok (.istore 7, 2) := by decide +kernel
theorem dL_law_2522 : decode cL_law 2522 = .ok (.aload_n 2, 1) := by decide +kernel
theorem dL_law_2523 : decode cL_law 2523 = .ok (.invokevirtual 183, 3) := by decide +kernel
theorem dL_law_2526 : decode cL_law 2526 = .ok (.iload 6, 2) := by decide +kernel
theorem dL_law_2528 : decode cL_law 2528 = .ok (.if_icmp .eq 5, 3) := by decide +kernel
theorem dL_law_2533 : decode cL_law 2533 = .ok (.iload 6, 2) := by decide +kernel
theorem dL_law_2535 : decode cL_law 2535 = .ok (.ifCond .ne 15, 3) := by decide +kernel
theorem dL_law_2550 : decode cL_law 2550 = .ok (.goto 1061, 3) := by decide +kernel
theorem dL_law_2553 : decode cL_law 2553 = .ok (.aload_n 1, 1) := by decide +kernel
theorem dL_law_2554 : decode cL_law 2554 = .ok (.aload_n 0, 1) := by decide +kernel
theorem dL_law_2555 : decode cL_law 2555 = .ok (.iload 5, 2) := by decide +kernel
theorem dL_law_2557 : decode cL_law 2557 = .ok (.iconst 1, 1) := by decide +kernel
theorem dL_law_2558 : decode cL_law 2558 = .ok (.iadd, 1) := by decide +kernel
theorem dL_law_2559 : decode cL_law 2559 = .ok (.iaload, 1) := by decide +kernel
theorem dL_law_2560 : decode cL_law 2560 = .ok (.aload_n 3, 1) := by decide +kernel
theorem dL_law_2561 : decode cL_law 2561 = .ok (.invokestatic 278, 3) := by decide +kernel
theorem dL_law_2564 : decode cL_law 2564 = .ok (.istore 6, 2) := by decide +kernel
theorem dL_law_2566 : decode cL_law 2566 = .ok (.aload_n 2, 1) := by decide +kernel
theorem dL_law_2567 : decode cL_law 2567 = .ok (.aload_n 0, 1) := by decide +kernel
theorem dL_law_2568 : decode cL_law 2568 = .ok (.iload 5, 2) := by decide +kernel
theorem dL_law_2570 : decode cL_law 2570 = .ok (.iconst 1, 1) := by decide +kernel
theorem dL_law_2571 : decode cL_law 2571 = .ok (.iadd, 1) := by decide +kernel
theorem dL_law_2572 : decode cL_law 2572 = .ok (.iaload, 1) := by decide +kernel
theorem dL_law_2573 : decode cL_law 2573 = .ok (.invokevirtual 280, 3) := by decide +kernel
theorem dL_law_2576 : decode cL_law 2576 = .ok (.istore 7, 2) := by decide +kernel
theorem dL_law_2578 : decode cL_law 2578 = .ok (.aload_n 2, 1) := by decide +kernel
theorem dL_law_2579 : decode cL_law 2579 = .ok (.invokevirtual 183, 3) := by decide +kernel
theorem dL_law_2582 : decode cL_law 2582 = .ok (.iload 6, 2) := by decide +kernel
theorem dL_law_2584 : decode cL_law 2584 = .ok (.if_icmp .eq 5, 3) := by decide +kernel
theorem dL_law_2589 : decode cL_law 2589 = .ok (.iload 6, 2) := by decide +kernel
theorem dL_law_2591 : decode cL_law 2591 = .ok (.ifCond .ne 15, 3) := by decide +kernel
theorem dL_law_2606 : decode cL_law 2606 = .ok (.goto 1005, 3) := by decide +kernel
theorem dL_law_2609 : decode cL_law 2609 = .ok (.aload_n 1, 1) := by decide +kernel
theorem dL_law_2610 : decode cL_law 2610 = .ok (.aload_n 3, 1) := by decide +kernel
theorem dL_law_2611 : decode cL_law 2611 = .ok (.invokestatic 281, 3) := by decide +kernel
theorem dL_law_2614 : decode cL_law 2614 = .ok (.istore 6, 2) := by decide +kernel
theorem dL_law_2616 : decode cL_law 2616 = .ok (.aload_n 2, 1) := by decide +kernel
theorem dL_law_2617 : decode cL_law 2617 = .ok (.invokevirtual 284, 3) := by decide +kernel
theorem dL_law_2620 : decode cL_law 2620 = .ok (.istore 7, 2) := by decide +kernel
theorem dL_law_2622 : decode cL_law 2622 = .ok (.aload_n 2, 1) := by decide +kernel
theorem dL_law_2623 : decode cL_law 2623 = .ok (.invokevirtual 183, 3) := by decide +kernel
theorem dL_law_2626 : decode cL_law 2626 = .ok (.iload 6, 2) := by decide +kernel
theorem dL_law_2628 : decode cL_law 2628 = .ok (.if_icmp .eq 5, 3) := by decide +kernel
theorem dL_law_2633 : decode cL_law 2633 = .ok (.iload 6, 2) := by decide +kernel
theorem dL_law_2635 : decode cL_law 2635 = .ok (.ifCond .ne 15, 3) := by decide +kernel
theorem dL_law_2650 : decode cL_law 2650 = .ok (.goto 961, 3) := by decide +kernel
theorem dL_law_2653 : decode cL_law 2653 = .ok (.aload_n 1, 1) := by decide +kernel
theorem dL_law_2654 : decode cL_law 2654 = .ok (.aload_n 0, 1) := by decide +kernel
theorem dL_law_2655 : decode cL_law 2655 = .ok (.iload 5, 2) := by decide +kernel
theorem dL_law_2657 : decode cL_law 2657 = .ok (.iconst 1, 1) := by decide +kernel
theorem dL_law_2658 : decode cL_law 2658 = .ok (.iadd, 1) := by decide +kernel
theorem dL_law_2659 : decode cL_law 2659 = .ok (.iaload, 1) := by decide +kernel
theorem dL_law_2660 : decode cL_law 2660 = .ok (.aload_n 0, 1) := by decide +kernel
theorem dL_law_2661 : decode cL_law 2661 = .ok (.iload 5, 2) := by decide +kernel
theorem dL_law_2663 : decode cL_law 2663 = .ok (.iconst 2, 1) := by decide +kernel
theorem dL_law_2664 : decode cL_law 2664 = .ok (.iadd, 1) := by decide +kernel
theorem dL_law_2665 : decode cL_law 2665 = .ok (.iaload, 1) := by decide +kernel
theorem dL_law_2666 : decode cL_law 2666 = .ok (.aload_n 3, 1) := by decide +kernel
theorem dL_law_2667 : decode cL_law 2667 = .ok (.invokestatic 285, 3) := by decide +kernel
theorem dL_law_2670 : decode cL_law 2670 = .ok (.istore 6, 2) := by decide +kernel
theorem dL_law_2672 : decode cL_law 2672 = .ok (.aload_n 2, 1) := by decide +kernel
theorem dL_law_2673 : decode cL_law 2673 = .ok (.aload_n 0, 1) := by decide +kernel
theorem dL_law_2674 : decode cL_law 2674 = .ok (.iload 5, 2) := by decide +kernel
theorem dL_law_2676 : decode cL_law 2676 = .ok (.iconst 1, 1) := by decide +kernel
theorem dL_law_2677 : decode cL_law 2677 = .ok (.iadd, 1) := by decide +kernel
theorem dL_law_2678 : decode cL_law 2678 = .ok (.iaload, 1) := by decide +kernel
theorem dL_law_2679 : decode cL_law 2679 = .ok (.aload_n 0, 1) := by decide +kernel
theorem dL_law_2680 : decode cL_law 2680 = .ok (.iload 5, 2) := by decide +kernel
theorem dL_law_2682 : decode cL_law 2682 = .ok (.iconst 2, 1) := by decide +kernel
theorem dL_law_2683 : decode cL_law 2683 = .ok (.iadd, 1) := by decide +kernel
theorem dL_law_2684 : decode cL_law 2684 = .ok (.iaload, 1) := by decide +kernel
theorem dL_law_2685 : decode cL_law 2685 = .ok (.invokevirtual 287, 3) := by decide +kernel
theorem dL_law_2688 : decode cL_law 2688 = .ok (.istore 7, 2) := by decide +kernel
theorem dL_law_2690 : decode cL_law 2690 = .ok (.aload_n 2, 1) := by decide +kernel
theorem dL_law_2691 : decode cL_law 2691 = .ok (.invokevirtual 183, 3) := by decide +kernel
theorem dL_law_2694 : decode cL_law 2694 = .ok (.iload 6, 2) := by decide +kernel
theorem dL_law_2696 : decode cL_law 2696 = .ok (.if_icmp .eq 5, 3) := by decide +kernel
theorem dL_law_2701 : decode cL_law 2701 = .ok (.iload 6, 2) := by decide +kernel
theorem dL_law_2703 : decode cL_law 2703 = .ok (.ifCond .ne 15, 3) := by decide +kernel
theorem dL_law_2706 : decode cL_law 2706 = .ok (.aload_n 3, 1) := by decide +kernel
theorem dL_law_2707 : decode cL_law 2707 = .ok (.iconst 0, 1) := by decide +kernel
theorem dL_law_2708 : decode cL_law 2708 = .ok (.laload, 1) := by decide +kernel
theorem dL_law_2709 : decode cL_law 2709 = .ok (.iload 7, 2) := by decide +kernel
theorem dL_law_2711 : decode cL_law 2711 = .ok (.i2l, 1) := by decide +kernel
theorem dL_law_2712 : decode cL_law 2712 = .ok (.lcmp, 1) := by decide +kernel
theorem dL_law_2713 : decode cL_law 2713 = .ok (.ifCond .eq 5, 3) := by decide +kernel
theorem dL_law_2718 : decode cL_law 2718 = .ok (.goto 893, 3) := by decide +kernel
theorem dL_law_2721 : decode cL_law 2721 = .ok (.aload_n 1, 1) := by decide +kernel
theorem dL_law_2722 : decode cL_law 2722 = .ok (.aload_n 0, 1) := by decide +kernel
theorem dL_law_2723 : decode cL_law 2723 = .ok (.iload 5, 2) := by decide +kernel
theorem dL_law_2725 : decode cL_law 2725 = .ok (.iconst 1, 1) := by decide +kernel
theorem dL_law_2726 : decode cL_law 2726 = .ok (.iadd, 1) := by decide +kernel
theorem dL_law_2727 : decode cL_law 2727 = .ok (.iaload, 1) := by decide +kernel
theorem dL_law_2728 : decode cL_law 2728 = .ok (.aload_n 3, 1) := by decide +kernel
theorem dL_law_2729 : decode cL_law 2729 = .ok (.invokestatic 288, 3) := by decide +kernel
theorem dL_law_2732 : decode cL_law 2732 = .ok (.istore 6, 2) := by decide +kernel
theorem dL_law_2734 : decode cL_law 2734 = .ok (.aload_n 2, 1) := by decide +kernel
theorem dL_law_2735 : decode cL_law 2735 = .ok (.aload_n 0, 1) := by decide +kernel
theorem dL_law_2736 : decode cL_law 2736 = .ok (.iload 5, 2) := by decide +kernel
theorem dL_law_2738 : decode cL_law 2738 = .ok (.iconst 1, 1) := by decide +kernel
theorem dL_law_2739 : decode cL_law 2739 = .ok (.iadd, 1) := by decide +kernel
theorem dL_law_2740 : decode cL_law 2740 = .ok (.iaload, 1) := by decide +kernel
theorem dL_law_2741 : decode cL_law 2741 = .ok (.invokevirtual 290, 3) := by decide +kernel
theorem dL_law_2744 : decode cL_law 2744 = .ok (.istore 7, 2) := by decide +kernel
theorem dL_law_2746 : decode cL_law 2746 = .ok (.aload_n 2, 1) := by decide +kernel
theorem dL_law_2747 : decode cL_law 2747 = .ok (.invokevirtual 183, 3) := by decide +kernel
theorem dL_law_2750 : decode cL_law 2750 = .ok (.iload 6, 2) := by decide +kernel
theorem dL_law_2752 : decode cL_law 2752 = .ok (.if_icmp .eq 5, 3) := by decide +kernel
theorem dL_law_2757 : decode cL_law 2757 = .ok (.iload 6, 2) := by decide +kernel
theorem dL_law_2759 : decode cL_law 2759 = .ok (.ifCond .ne 15, 3) := by decide +kernel
theorem dL_law_2774 : decode cL_law 2774 = .ok (.goto 837, 3) := by decide +kernel
theorem dL_law_2777 : decode cL_law 2777 = .ok (.aload_n 1, 1) := by decide +kernel
theorem dL_law_2778 : decode cL_law 2778 = .ok (.aload_n 0, 1) := by decide +kernel
theorem dL_law_2779 : decode cL_law 2779 = .ok (.iload 5, 2) := by decide +kernel
theorem dL_law_2781 : decode cL_law 2781 = .ok (.iconst 1, 1) := by decide +kernel
theorem dL_law_2782 : decode cL_law 2782 = .ok (.iadd, 1) := by decide +kernel
theorem dL_law_2783 : decode cL_law 2783 = .ok (.iaload, 1) := by decide +kernel
theorem dL_law_2784 : decode cL_law 2784 = .ok (.aload_n 3, 1) := by decide +kernel
theorem dL_law_2785 : decode cL_law 2785 = .ok (.invokestatic 291, 3) := by decide +kernel
theorem dL_law_2788 : decode cL_law 2788 = .ok (.istore 6, 2) := by decide +kernel
theorem dL_law_2790 : decode cL_law 2790 = .ok (.aload_n 2, 1) := by decide +kernel
theorem dL_law_2791 : decode cL_law 2791 = .ok (.aload_n 0, 1) := by decide +kernel
theorem dL_law_2792 : decode cL_law 2792 = .ok (.iload 5, 2) := by decide +kernel
theorem dL_law_2794 : decode cL_law 2794 = .ok (.iconst 1, 1) := by decide +kernel
theorem dL_law_2795 : decode cL_law 2795 = .ok (.iadd, 1) := by decide +kernel
theorem dL_law_2796 : decode cL_law 2796 = .ok (.iaload, 1) := by decide +kernel
theorem dL_law_2797 : decode cL_law 2797 = .ok (.invokevirtual 293, 3) := by decide +kernel
theorem dL_law_2800 : decode cL_law 2800 = .ok (.istore 7, 2) := by decide +kernel
theorem dL_law_2802 : decode cL_law 2802 = .ok (.aload_n 2, 1) := by decide +kernel
theorem dL_law_2803 : decode cL_law 2803 = .ok (.invokevirtual 183, 3) := by decide +kernel
theorem dL_law_2806 : decode cL_law 2806 = .ok (.iload 6, 2) := by decide +kernel
theorem dL_law_2808 : decode cL_law 2808 = .ok (.if_icmp .eq 5, 3) := by decide +kernel
theorem dL_law_2813 : decode cL_law 2813 = .ok (.iload 6, 2) := by decide +kernel
theorem dL_law_2815 : decode cL_law 2815 = .ok (.ifCond .ne 15, 3) := by decide +kernel
theorem dL_law_2818 : decode cL_law 2818 = .ok (.aload_n 3, 1) := by decide +kernel
theorem dL_law_2819 : decode cL_law 2819 = .ok (.iconst 0, 1) := by decide +kernel
theorem dL_law_2820 : decode cL_law 2820 = .ok (.laload, 1) := by decide +kernel
theorem dL_law_2821 : decode cL_law 2821 = .ok (.iload 7, 2) := by decide +kernel
theorem dL_law_2823 : decode cL_law 2823 = .ok (.i2l, 1) := by decide +kernel
theorem dL_law_2824 : decode cL_law 2824 = .ok (.lcmp, 1) := by decide +kernel
theorem dL_law_2825 : decode cL_law 2825 = .ok (.ifCond .eq 5, 3) := by decide +kernel
theorem dL_law_2830 : decode cL_law 2830 = .ok (.goto 781, 3) := by decide +kernel
theorem dL_law_2833 : decode cL_law 2833 = .ok (.aload_n 1, 1) := by decide +kernel
theorem dL_law_2834 : decode cL_law 2834 = .ok (.aload_n 0, 1) := by decide +kernel
theorem dL_law_2835 : decode cL_law 2835 = .ok (.iload 5, 2) := by decide +kernel
theorem dL_law_2837 : decode cL_law 2837 = .ok (.iconst 1, 1) := by decide +kernel
theorem dL_law_2838 : decode cL_law 2838 = .ok (.iadd, 1) := by decide +kernel
theorem dL_law_2839 : decode cL_law 2839 = .ok (.iaload, 1) := by decide +kernel
theorem dL_law_2840 : decode cL_law 2840 = .ok (.aload_n 0, 1) := by decide +kernel
theorem dL_law_2841 : decode cL_law 2841 = .ok (.iload 5, 2) := by decide +kernel
theorem dL_law_2843 : decode cL_law 2843 = .ok (.iconst 2, 1) := by decide +kernel
theorem dL_law_2844 : decode cL_law 2844 = .ok (.iadd, 1) := by decide +kernel
theorem dL_law_2845 : decode cL_law 2845 = .ok (.iaload, 1) := by decide +kernel
theorem dL_law_2846 : decode cL_law 2846 = .ok (.aload_n 0, 1) := by decide +kernel
theorem dL_law_2847 : decode cL_law 2847 = .ok (.iload 5, 2) := by decide +kernel
theorem dL_law_2849 : decode cL_law 2849 = .ok (.iconst 3, 1) := by decide +kernel
theorem dL_law_2850 : decode cL_law 2850 = .ok (.iadd, 1) := by decide +kernel
theorem dL_law_2851 : decode cL_law 2851 = .ok (.iaload, 1) := by decide +kernel
theorem dL_law_2852 : decode cL_law 2852 = .ok (.ifCond .eq 7, 3) := by decide +kernel
theorem dL_law_2855 : decode cL_law 2855 = .ok (.iconst 1, 1) := by decide +kernel
theorem dL_law_2856 : decode cL_law 2856 = .ok (.goto 4, 3) := by decide +kernel
theorem dL_law_2859 : decode cL_law 2859 = .ok (.iconst 0, 1) := by decide +kernel
theorem dL_law_2860 : decode cL_law 2860 = .ok (.aload_n 3, 1) := by decide +kernel
theorem dL_law_2861 : decode cL_law 2861 = .ok (.invokestatic 294, 3) := by decide +kernel
theorem dL_law_2864 : decode cL_law 2864 = .ok (.istore 6, 2) := by decide +kernel
theorem dL_law_2866 : decode cL_law 2866 = .ok (.aload_n 2, 1) := by decide +kernel
theorem dL_law_2867 : decode cL_law 2867 = .ok (.aload_n 0, 1) := by decide +kernel
theorem dL_law_2868 : decode cL_law 2868 = .ok (.iload 5, 2) := by decide +kernel
theorem dL_law_2870 : decode cL_law 2870 = .ok (.iconst 1, 1) := by decide +kernel
theorem dL_law_2871 : decode cL_law 2871 = .ok (.iadd, 1) := by decide +kernel
theorem dL_law_2872 : decode cL_law 2872 = .ok (.iaload, 1) := by decide +kernel
theorem dL_law_2873 : decode cL_law 2873 = .ok (.aload_n 0, 1) := by decide +kernel
theorem dL_law_2874 : decode cL_law 2874 = .ok (.iload 5, 2) := by decide +kernel
theorem dL_law_2876 : decode cL_law 2876 = .ok (.iconst 2, 1) := by decide +kernel
theorem dL_law_2877 : decode cL_law 2877 = .ok (.iadd, 1) := by decide +kernel
theorem dL_law_2878 : decode cL_law 2878 = .ok (.iaload, 1) := by decide +kernel
theorem dL_law_2879 : decode cL_law 2879 = .ok (.aload_n 0, 1) := by decide +kernel
theorem dL_law_2880 : decode cL_law 2880 = .ok (.iload 5, 2) := by decide +kernel
theorem dL_law_2882 : decode cL_law 2882 = .ok (.iconst 3, 1) := by decide +kernel
theorem dL_law_2883 : decode cL_law 2883 = .ok (.iadd, 1) := by decide +kernel
theorem dL_law_2884 : decode cL_law 2884 = .ok (.iaload, 1) := by decide +kernel
theorem dL_law_2885 : decode cL_law 2885 = .ok (.ifCond .eq 7, 3) := by decide +kernel
theorem dL_law_2888 : decode cL_law 2888 = .ok (.iconst 1, 1) := by decide +kernel
theorem dL_law_2889 : decode cL_law 2889 = .ok (.goto 4, 3) := by decide +kernel
theorem dL_law_2892 : decode cL_law 2892 = .ok (.iconst 0, 1) := by decide +kernel
theorem dL_law_2893 : decode cL_law 2893 = .ok (.invokevirtual 296, 3) := by decide +kernel
theorem dL_law_2896 : decode cL_law 2896 = .ok (.istore 7, 2) := by decide +kernel
theorem dL_law_2898 : decode cL_law 2898 = .ok (.aload_n 2, 1) := by decide +kernel
theorem dL_law_2899 : decode cL_law 2899 = .ok (.invokevirtual 183, 3) := by decide +kernel
theorem dL_law_2902 : decode cL_law 2902 = .ok (.iload 6, 2) := by decide +kernel
theorem dL_law_2904 : decode cL_law 2904 = .ok (.if_icmp .eq 5, 3) := by decide +kernel
theorem dL_law_2909 : decode cL_law 2909 = .ok (.iload 6, 2) := by decide +kernel
theorem dL_law_2911 : decode cL_law 2911 = .ok (.ifCond .ne 22, 3) := by decide +kernel
theorem dL_law_2933 : decode cL_law 2933 = .ok (.goto 678, 3) := by decide +kernel
theorem dL_law_2936 : decode cL_law 2936 = .ok (.aload_n 1, 1) := by decide +kernel
theorem dL_law_2937 : decode cL_law 2937 = .ok (.aload_n 0, 1) := by decide +kernel
theorem dL_law_2938 : decode cL_law 2938 = .ok (.iload 5, 2) := by decide +kernel
theorem dL_law_2940 : decode cL_law 2940 = .ok (.iconst 1, 1) := by decide +kernel
theorem dL_law_2941 : decode cL_law 2941 = .ok (.iadd, 1) := by decide +kernel
theorem dL_law_2942 : decode cL_law 2942 = .ok (.iaload, 1) := by decide +kernel
theorem dL_law_2943 : decode cL_law 2943 = .ok (.aload_n 3, 1) := by decide +kernel
theorem dL_law_2944 : decode cL_law 2944 = .ok (.invokestatic 297, 3) := by decide +kernel
theorem dL_law_2947 : decode cL_law 2947 = .ok (.istore 6, 2) := by decide +kernel
theorem dL_law_2949 : decode cL_law 2949 = .ok (.aload_n 2, 1) := by decide +kernel
theorem dL_law_2950 : decode cL_law 2950 = .ok (.aload_n 0, 1) := by decide +kernel
theorem dL_law_2951 : decode cL_law 2951 = .ok (.iload 5, 2) := by decide +kernel
theorem dL_law_2953 : decode cL_law 2953 = .ok (.iconst 1, 1) := by decide +kernel
theorem dL_law_2954 : decode cL_law 2954 = .ok (.iadd, 1) := by decide +kernel
theorem dL_law_2955 : decode cL_law 2955 = .ok (.iaload, 1) := by decide +kernel
theorem dL_law_2956 : decode cL_law 2956 = .ok (.invokevirtual 299, 3) := by decide +kernel
theorem dL_law_2959 : decode cL_law 2959 = .ok (.istore 7, 2) := by decide +kernel
theorem dL_law_2961 : decode cL_law 2961 = .ok (.aload_n 2, 1) := by decide +kernel
theorem dL_law_2962 : decode cL_law 2962 = .ok (.invokevirtual 183, 3) := by decide +kernel
theorem dL_law_2965 : decode cL_law 2965 = .ok (.iload 6, 2) := by decide +kernel
theorem dL_law_2967 : decode cL_law 2967 = .ok (.if_icmp .eq 5, 3) := by decide +kernel
theorem dL_law_2972 : decode cL_law 2972 = .ok (.iload 6, 2) := by decide +kernel
theorem dL_law_2974 : decode cL_law 2974 = .ok (.ifCond .ne 15, 3) := by decide +kernel
theorem dL_law_2989 : decode cL_law 2989 = .ok (.goto 622, 3) := by decide +kernel
theorem dL_law_2992 : decode cL_law 2992 = .ok (.aload_n 1, 1) := by decide +kernel
theorem dL_law_2993 : decode cL_law 2993 = .ok (.aload_n 0, 1) := by decide +kernel
theorem dL_law_2994 : decode cL_law 2994 = .ok (.iload 5, 2) := by decide +kernel
theorem dL_law_2996 : decode cL_law 2996 = .ok (.iconst 1, 1) := by decide +kernel
theorem dL_law_2997 : decode cL_law 2997 = .ok (.iadd, 1) := by decide +kernel
theorem dL_law_2998 : decode cL_law 2998 = .ok (.iaload, 1) := by decide +kernel
theorem dL_law_2999 : decode cL_law 2999 = .ok (.aload_n 0, 1) := by decide +kernel
theorem dL_law_3000 : decode cL_law 3000 = .ok (.iload 5, 2) := by decide +kernel
theorem dL_law_3002 : decode cL_law 3002 = .ok (.iconst 2, 1) := by decide +kernel
theorem dL_law_3003 : decode cL_law 3003 = .ok (.iadd, 1) := by decide +kernel
theorem dL_law_3004 : decode cL_law 3004 = .ok (.iaload, 1) := by decide +kernel
theorem dL_law_3005 : decode cL_law 3005 = .ok (.aload_n 0, 1) := by decide +kernel
theorem dL_law_3006 : decode cL_law 3006 = .ok (.iload 5, 2) := by decide +kernel
theorem dL_law_3008 : decode cL_law 3008 = .ok (.iconst 3, 1) := by decide +kernel
theorem dL_law_3009 : decode cL_law 3009 = .ok (.iadd, 1) := by decide +kernel
theorem dL_law_3010 : decode cL_law 3010 = .ok (.iaload, 1) := by decide +kernel
theorem dL_law_3011 : decode cL_law 3011 = .ok (.aload_n 3, 1) := by decide +kernel
theorem dL_law_3012 : decode cL_law 3012 = .ok (.invokestatic 300, 3) := by decide +kernel
theorem dL_law_3015 : decode cL_law 3015 = .ok (.istore 6, 2) := by decide +kernel
theorem dL_law_3017 : decode cL_law 3017 = .ok (.aload_n 2, 1) := by decide +kernel
theorem dL_law_3018 : decode cL_law 3018 = .ok (.aload_n 0, 1) := by decide +kernel
theorem dL_law_3019 : decode cL_law 3019 = .ok (.iload 5, 2) := by decide +kernel
theorem dL_law_3021 : decode cL_law 3021 = .ok (.iconst 1, 1) := by decide +kernel
theorem dL_law_3022 : decode cL_law 3022 = .ok (.iadd, 1) := by decide +kernel
theorem dL_law_3023 : decode cL_law 3023 = .ok (.iaload, 1) := by decide +kernel
theorem dL_law_3024 : decode cL_law 3024 = .ok (.aload_n 0, 1) := by decide +kernel
theorem dL_law_3025 : decode cL_law 3025 = .ok (.iload 5, 2) := by decide +kernel
theorem dL_law_3027 : decode cL_law 3027 = .ok (.iconst 2, 1) := by decide +kernel
theorem dL_law_3028 : decode cL_law 3028 = .ok (.iadd, 1) := by decide +kernel
theorem dL_law_3029 : decode cL_law 3029 = .ok (.iaload, 1) := by decide +kernel
theorem dL_law_3030 : decode cL_law 3030 = .ok (.aload_n 0, 1) := by decide +kernel
theorem dL_law_3031 : decode cL_law 3031 = .ok (.iload 5, 2) := by decide +kernel
theorem dL_law_3033 : decode cL_law 3033 = .ok (.iconst 3, 1) := by decide +kernel
theorem dL_law_3034 : decode cL_law 3034 = .ok (.iadd, 1) := by decide +kernel
theorem dL_law_3035 : decode cL_law 3035 = .ok (.iaload, 1) := by decide +kernel
theorem dL_law_3036 : decode cL_law 3036 = .ok (.invokevirtual 302, 3) := by decide +kernel
theorem dL_law_3039 : decode cL_law 3039 = .ok (.istore 7, 2) := by decide +kernel
theorem dL_law_3041 : decode cL_law 3041 = .ok (.aload_n 2, 1) := by decide +kernel
theorem dL_law_3042 : decode cL_law 3042 = .ok (.invokevirtual 183, 3) := by decide +kernel
theorem dL_law_3045 : decode cL_law 3045 = .ok (.iload 6, 2) := by decide +kernel
theorem dL_law_3047 : decode cL_law 3047 = .ok (.if_icmp .eq 5, 3) := by decide +kernel
theorem dL_law_3052 : decode cL_law 3052 = .ok (.iload 6, 2) := by decide +kernel
theorem dL_law_3054 : decode cL_law 3054 = .ok (.ifCond .ne 22, 3) := by decide +kernel
theorem dL_law_3076 : decode cL_law 3076 = .ok (.goto 535, 3) := by decide +kernel
theorem dL_law_3079 : decode cL_law 3079 = .ok (.aload_n 1, 1) := by decide +kernel
theorem dL_law_3080 : decode cL_law 3080 = .ok (.aload_n 0, 1) := by decide +kernel
theorem dL_law_3081 : decode cL_law 3081 = .ok (.iload 5, 2) := by decide +kernel
theorem dL_law_3083 : decode cL_law 3083 = .ok (.iconst 1, 1) := by decide +kernel
theorem dL_law_3084 : decode cL_law 3084 = .ok (.iadd, 1) := by decide +kernel
theorem dL_law_3085 : decode cL_law 3085 = .ok (.iaload, 1) := by decide +kernel
theorem dL_law_3086 : decode cL_law 3086 = .ok (.aload_n 0, 1) := by decide +kernel
theorem dL_law_3087 : decode cL_law 3087 = .ok (.iload 5, 2) := by decide +kernel
theorem dL_law_3089 : decode cL_law 3089 = .ok (.iconst 2, 1) := by decide +kernel
theorem dL_law_3090 : decode cL_law 3090 = .ok (.iadd, 1) := by decide +kernel
theorem dL_law_3091 : decode cL_law 3091 = .ok (.iaload, 1) := by decide +kernel
theorem dL_law_3092 : decode cL_law 3092 = .ok (.i2c, 1) := by decide +kernel
theorem dL_law_3093 : decode cL_law 3093 = .ok (.aload_n 3, 1) := by decide +kernel
theorem dL_law_3094 : decode cL_law 3094 = .ok (.invokestatic 303, 3) := by decide +kernel
theorem dL_law_3097 : decode cL_law 3097 = .ok (.istore 6, 2) := by decide +kernel
theorem dL_law_3099 : decode cL_law 3099 = .ok (.aload_n 2, 1) := by decide +kernel
theorem dL_law_3100 : decode cL_law 3100 = .ok (.aload_n 0, 1) := by decide +kernel
theorem dL_law_3101 : decode cL_law 3101 = .ok (.iload 5, 2) := by decide +kernel
theorem dL_law_3103 : decode cL_law 3103 = .ok (.iconst 1, 1) := by decide +kernel
theorem dL_law_3104 : decode cL_law 3104 = .ok (.iadd, 1) := by decide +kernel
theorem dL_law_3105 : decode cL_law 3105 = .ok (.iaload, 1) := by decide +kernel
theorem dL_law_3106 : decode cL_law 3106 = .ok (.aload_n 0, 1) := by decide +kernel
theorem dL_law_3107 : decode cL_law 3107 = .ok (.iload 5, 2) := by decide +kernel
theorem dL_law_3109 : decode cL_law 3109 = .ok (.iconst 2, 1) := by decide +kernel
theorem dL_law_3110 : decode cL_law 3110 = .ok (.iadd, 1) := by decide +kernel
theorem dL_law_3111 : decode cL_law 3111 = .ok (.iaload, 1) := by decide +kernel
theorem dL_law_3112 : decode cL_law 3112 = .ok (.i2c, 1) := by decide +kernel
theorem dL_law_3113 : decode cL_law 3113 = .ok (.invokevirtual 306, 3) := by decide +kernel
theorem dL_law_3116 : decode cL_law 3116 = .ok (.istore 7, 2) := by decide +kernel
theorem dL_law_3118 : decode cL_law 3118 = .ok (.aload_n 2, 1) := by decide +kernel
theorem dL_law_3119 : decode cL_law 3119 = .ok (.invokevirtual 183, 3) := by decide +kernel
theorem dL_law_3122 : decode cL_law 3122 = .ok (.iload 6, 2) := by decide +kernel
theorem dL_law_3124 : decode cL_law 3124 = .ok (.if_icmp .eq 5, 3) := by decide +kernel
theorem dL_law_3129 : decode cL_law 3129 = .ok (.iload 6, 2) := by decide +kernel
theorem dL_law_3131 : decode cL_law 3131 = .ok (.ifCond .ne 15, 3) := by decide +kernel
theorem dL_law_3146 : decode cL_law 3146 = .ok (.goto 465, 3) := by decide +kernel
theorem dL_law_3149 : decode cL_law 3149 = .ok (.aload_n 1, 1) := by decide +kernel
theorem dL_law_3150 : decode cL_law 3150 = .ok (.aload_n 0, 1) := by decide +kernel
theorem dL_law_3151 : decode cL_law 3151 = .ok (.iload 5, 2) := by decide +kernel
theorem dL_law_3153 : decode cL_law 3153 = .ok (.iconst 1, 1) := by decide +kernel
theorem dL_law_3154 : decode cL_law 3154 = .ok (.iadd, 1) := by decide +kernel
theorem dL_law_3155 : decode cL_law 3155 = .ok (.iaload, 1) := by decide +kernel
theorem dL_law_3156 : decode cL_law 3156 = .ok (.aload_n 3, 1) := by decide +kernel
theorem dL_law_3157 : decode cL_law 3157 = .ok (.invokestatic 307, 3) := by decide +kernel
theorem dL_law_3160 : decode cL_law 3160 = .ok (.istore 6, 2) := by decide +kernel
theorem dL_law_3162 : decode cL_law 3162 = .ok (.aload_n 2, 1) := by decide +kernel
theorem dL_law_3163 : decode cL_law 3163 = .ok (.aload_n 0, 1) := by decide +kernel
theorem dL_law_3164 : decode cL_law 3164 = .ok (.iload 5, 2) := by decide +kernel
theorem dL_law_3166 : decode cL_law 3166 = .ok (.iconst 1, 1) := by decide +kernel
theorem dL_law_3167 : decode cL_law 3167 = .ok (.iadd, 1) := by decide +kernel
theorem dL_law_3168 : decode cL_law 3168 = .ok (.iaload, 1) := by decide +kernel
theorem dL_law_3169 : decode cL_law 3169 = .ok (.invokevirtual 309, 3) := by decide +kernel
theorem dL_law_3172 : decode cL_law 3172 = .ok (.istore 7, 2) := by decide +kernel
theorem dL_law_3174 : decode cL_law 3174 = .ok (.aload_n 2, 1) := by decide +kernel
theorem dL_law_3175 : decode cL_law 3175 = .ok (.invokevirtual 183, 3) := by decide +kernel
theorem dL_law_3178 : decode cL_law 3178 = .ok (.iload 6, 2) := by decide +kernel
theorem dL_law_3180 : decode cL_law 3180 = .ok (.if_icmp .eq 5, 3) := by decide +kernel
theorem dL_law_3185 : decode cL_law 3185 = .ok (.iload 6, 2) := by decide +kernel
theorem dL_law_3187 : decode cL_law 3187 = .ok (.ifCond .ne 15, 3) := by decide +kernel
theorem dL_law_3202 : decode cL_law 3202 = .ok (.goto 409, 3) := by decide +kernel
theorem dL_law_3205 : decode cL_law 3205 = .ok (.aload_n 1, 1) := by decide +kernel
theorem dL_law_3206 : decode cL_law 3206 = .ok (.aload_n 3, 1) := by decide +kernel
theorem dL_law_3207 : decode cL_law 3207 = .ok (.invokestatic 310, 3) := by decide +kernel
theorem dL_law_3210 : decode cL_law 3210 = .ok (.istore 6, 2) := by decide +kernel
theorem dL_law_3212 : decode cL_law 3212 = .ok (.aload_n 2, 1) := by decide +kernel
theorem dL_law_3213 : decode cL_law 3213 = .ok (.invokevirtual 312, 3) := by decide +kernel
theorem dL_law_3216 : decode cL_law 3216 = .ok (.istore 7, 2) := by decide +kernel
theorem dL_law_3218 : decode cL_law 3218 = .ok (.aload_n 2, 1) := by decide +kernel
theorem dL_law_3219 : decode cL_law 3219 = .ok (.invokevirtual 183, 3) := by decide +kernel
theorem dL_law_3222 : decode cL_law 3222 = .ok (.iload 6, 2) := by decide +kernel
theorem dL_law_3224 : decode cL_law 3224 = .ok (.if_icmp .eq 5, 3) := by decide +kernel
theorem dL_law_3229 : decode cL_law 3229 = .ok (.iload 6, 2) := by decide +kernel
theorem dL_law_3231 : decode cL_law 3231 = .ok (.ifCond .ne 15, 3) := by decide +kernel
theorem dL_law_3246 : decode cL_law 3246 = .ok (.goto 365, 3) := by decide +kernel
theorem dL_law_3249 : decode cL_law 3249 = .ok (.aload_n 1, 1) := by decide +kernel
theorem dL_law_3250 : decode cL_law 3250 = .ok (.aload_n 3, 1) := by decide +kernel
theorem dL_law_3251 : decode cL_law 3251 = .ok (.invokestatic 313, 3) := by decide +kernel
theorem dL_law_3254 : decode cL_law 3254 = .ok (.istore 6, 2) := by decide +kernel
theorem dL_law_3256 : decode cL_law 3256 = .ok (.aload_n 2, 1) := by decide +kernel
theorem dL_law_3257 : decode cL_law 3257 = .ok (.invokevirtual 315, 3) := by decide +kernel
theorem dL_law_3260 : decode cL_law 3260 = .ok (.istore 7, 2) := by decide +kernel
theorem dL_law_3262 : decode cL_law 3262 = .ok (.aload_n 2, 1) := by decide +kernel
theorem dL_law_3263 : decode cL_law 3263 = .ok (.invokevirtual 183, 3) := by decide +kernel
theorem dL_law_3266 : decode cL_law 3266 = .ok (.iload 6, 2) := by decide +kernel
theorem dL_law_3268 : decode cL_law 3268 = .ok (.if_icmp .eq 5, 3) := by decide +kernel
theorem dL_law_3273 : decode cL_law 3273 = .ok (.iload 6, 2) := by decide +kernel
theorem dL_law_3275 : decode cL_law 3275 = .ok (.ifCond .ne 15, 3) := by decide +kernel
theorem dL_law_3290 : decode cL_law 3290 = .ok (.goto 321, 3) := by decide +kernel
theorem dL_law_3293 : decode cL_law 3293 = .ok (.aload_n 1, 1) := by decide +kernel
theorem dL_law_3294 : decode cL_law 3294 = .ok (.aload_n 0, 1) := by decide +kernel
theorem dL_law_3295 : decode cL_law 3295 = .ok (.iload 5, 2) := by decide +kernel
theorem dL_law_3297 : decode cL_law 3297 = .ok (.iconst 1, 1) := by decide +kernel
theorem dL_law_3298 : decode cL_law 3298 = .ok (.iadd, 1) := by decide +kernel
theorem dL_law_3299 : decode cL_law 3299 = .ok (.iaload, 1) := by decide +kernel
theorem dL_law_3300 : decode cL_law 3300 = .ok (.aload_n 0, 1) := by decide +kernel
theorem dL_law_3301 : decode cL_law 3301 = .ok (.iload 5, 2) := by decide +kernel
theorem dL_law_3303 : decode cL_law 3303 = .ok (.iconst 2, 1) := by decide +kernel
theorem dL_law_3304 : decode cL_law 3304 = .ok (.iadd, 1) := by decide +kernel
theorem dL_law_3305 : decode cL_law 3305 = .ok (.iaload, 1) := by decide +kernel
theorem dL_law_3306 : decode cL_law 3306 = .ok (.aload_n 0, 1) := by decide +kernel
theorem dL_law_3307 : decode cL_law 3307 = .ok (.iload 5, 2) := by decide +kernel
theorem dL_law_3309 : decode cL_law 3309 = .ok (.iconst 3, 1) := by decide +kernel
theorem dL_law_3310 : decode cL_law 3310 = .ok (.iadd, 1) := by decide +kernel
theorem dL_law_3311 : decode cL_law 3311 = .ok (.iaload, 1) := by decide +kernel
theorem dL_law_3312 : decode cL_law 3312 = .ok (.aload_n 3, 1) := by decide +kernel
theorem dL_law_3313 : decode cL_law 3313 = .ok (.invokestatic 316, 3) := by decide +kernel
theorem dL_law_3316 : decode cL_law 3316 = .ok (.istore 6, 2) := by decide +kernel
theorem dL_law_3318 : decode cL_law 3318 = .ok (.aload_n 2, 1) := by decide +kernel
theorem dL_law_3319 : decode cL_law 3319 = .ok (.aload_n 0, 1) := by decide +kernel
theorem dL_law_3320 : decode cL_law 3320 = .ok (.iload 5, 2) := by decide +kernel
theorem dL_law_3322 : decode cL_law 3322 = .ok (.iconst 1, 1) := by decide +kernel
theorem dL_law_3323 : decode cL_law 3323 = .ok (.iadd, 1) := by decide +kernel
theorem dL_law_3324 : decode cL_law 3324 = .ok (.iaload, 1) := by decide +kernel
theorem dL_law_3325 : decode cL_law 3325 = .ok (.aload_n 0, 1) := by decide +kernel
theorem dL_law_3326 : decode cL_law 3326 = .ok (.iload 5, 2) := by decide +kernel
theorem dL_law_3328 : decode cL_law 3328 = .ok (.iconst 2, 1) := by decide +kernel
theorem dL_law_3329 : decode cL_law 3329 = .ok (.iadd, 1) := by decide +kernel
theorem dL_law_3330 : decode cL_law 3330 = .ok (.iaload, 1) := by decide +kernel
theorem dL_law_3331 : decode cL_law 3331 = .ok (.aload_n 0, 1) := by decide +kernel
theorem dL_law_3332 : decode cL_law 3332 = .ok (.iload 5, 2) := by decide +kernel
theorem dL_law_3334 : decode cL_law 3334 = .ok (.iconst 3, 1) := by decide +kernel
theorem dL_law_3335 : decode cL_law 3335 = .ok (.iadd, 1) := by decide +kernel
theorem dL_law_3336 : decode cL_law 3336 = .ok (.iaload, 1) := by decide +kernel
theorem dL_law_3337 : decode cL_law 3337 = .ok (.invokevirtual 318, 3) := by decide +kernel
theorem dL_law_3340 : decode cL_law 3340 = .ok (.istore 7, 2) := by decide +kernel
theorem dL_law_3342 : decode cL_law 3342 = .ok (.aload_n 2, 1) := by decide +kernel
theorem dL_law_3343 : decode cL_law 3343 = .ok (.invokevirtual 183, 3) := by decide +kernel
theorem dL_law_3346 : decode cL_law 3346 = .ok (.iload 6, 2) := by decide +kernel
theorem dL_law_3348 : decode cL_law 3348 = .ok (.if_icmp .eq 5, 3) := by decide +kernel
theorem dL_law_3353 : decode cL_law 3353 = .ok (.iload 6, 2) := by decide +kernel
theorem dL_law_3355 : decode cL_law 3355 = .ok (.ifCond .ne 15, 3) := by decide +kernel
theorem dL_law_3370 : decode cL_law 3370 = .ok (.goto 241, 3) := by decide +kernel
theorem dL_law_3373 : decode cL_law 3373 = .ok (.aload_n 1, 1) := by decide +kernel
theorem dL_law_3374 : decode cL_law 3374 = .ok (.aload_n 0, 1) := by decide +kernel
theorem dL_law_3375 : decode cL_law 3375 = .ok (.iload 5, 2) := by decide +kernel
theorem dL_law_3377 : decode cL_law 3377 = .ok (.iconst 1, 1) := by decide +kernel
theorem dL_law_3378 : decode cL_law 3378 = .ok (.iadd, 1) := by decide +kernel
theorem dL_law_3379 : decode cL_law 3379 = .ok (.iaload, 1) := by decide +kernel
theorem dL_law_3380 : decode cL_law 3380 = .ok (.aload_n 0, 1) := by decide +kernel
theorem dL_law_3381 : decode cL_law 3381 = .ok (.iload 5, 2) := by decide +kernel
theorem dL_law_3383 : decode cL_law 3383 = .ok (.iconst 2, 1) := by decide +kernel
theorem dL_law_3384 : decode cL_law 3384 = .ok (.iadd, 1) := by decide +kernel
theorem dL_law_3385 : decode cL_law 3385 = .ok (.iaload, 1) := by decide +kernel
theorem dL_law_3386 : decode cL_law 3386 = .ok (.aload_n 0, 1) := by decide +kernel
theorem dL_law_3387 : decode cL_law 3387 = .ok (.iload 5, 2) := by decide +kernel
theorem dL_law_3389 : decode cL_law 3389 = .ok (.iconst 3, 1) := by decide +kernel
theorem dL_law_3390 : decode cL_law 3390 = .ok (.iadd, 1) := by decide +kernel
theorem dL_law_3391 : decode cL_law 3391 = .ok (.iaload, 1) := by decide +kernel
theorem dL_law_3392 : decode cL_law 3392 = .ok (.aload_n 3, 1) := by decide +kernel
theorem dL_law_3393 : decode cL_law 3393 = .ok (.invokestatic 319, 3) := by decide +kernel
theorem dL_law_3396 : decode cL_law 3396 = .ok (.istore 6, 2) := by decide +kernel
theorem dL_law_3398 : decode cL_law 3398 = .ok (.aload_n 2, 1) := by decide +kernel
theorem dL_law_3399 : decode cL_law 3399 = .ok (.aload_n 0, 1) := by decide +kernel
theorem dL_law_3400 : decode cL_law 3400 = .ok (.iload 5, 2) := by decide +kernel
theorem dL_law_3402 : decode cL_law 3402 = .ok (.iconst 1, 1) := by decide +kernel
theorem dL_law_3403 : decode cL_law 3403 = .ok (.iadd, 1) := by decide +kernel
theorem dL_law_3404 : decode cL_law 3404 = .ok (.iaload, 1) := by decide +kernel
theorem dL_law_3405 : decode cL_law 3405 = .ok (.aload_n 0, 1) := by decide +kernel
theorem dL_law_3406 : decode cL_law 3406 = .ok (.iload 5, 2) := by decide +kernel
theorem dL_law_3408 : decode cL_law 3408 = .ok (.iconst 2, 1) := by decide +kernel
theorem dL_law_3409 : decode cL_law 3409 = .ok (.iadd, 1) := by decide +kernel
theorem dL_law_3410 : decode cL_law 3410 = .ok (.iaload, 1) := by decide +kernel
theorem dL_law_3411 : decode cL_law 3411 = .ok (.aload_n 0, 1) := by decide +kernel
theorem dL_law_3412 : decode cL_law 3412 = .ok (.iload 5, 2) := by decide +kernel
theorem dL_law_3414 : decode cL_law 3414 = .ok (.iconst 3, 1) := by decide +kernel
theorem dL_law_3415 : decode cL_law 3415 = .ok (.iadd, 1) := by decide +kernel
theorem dL_law_3416 : decode cL_law 3416 = .ok (.iaload, 1) := by decide +kernel
theorem dL_law_3417 : decode cL_law 3417 = .ok (.invokevirtual 321, 3) := by decide +kernel
theorem dL_law_3420 : decode cL_law 3420 = .ok (.istore 7, 2) := by decide +kernel
theorem dL_law_3422 : decode cL_law 3422 = .ok (.aload_n 2, 1) := by decide +kernel
theorem dL_law_3423 : decode cL_law 3423 = .ok (.invokevirtual 183, 3) := by decide +kernel
theorem dL_law_3426 : decode cL_law 3426 = .ok (.iload 6, 2) := by decide +kernel
theorem dL_law_3428 : decode cL_law 3428 = .ok (.if_icmp .eq 5, 3) := by decide +kernel
theorem dL_law_3433 : decode cL_law 3433 = .ok (.iload 6, 2) := by decide +kernel
theorem dL_law_3435 : decode cL_law 3435 = .ok (.ifCond .ne 15, 3) := by decide +kernel
theorem dL_law_3450 : decode cL_law 3450 = .ok (.goto 161, 3) := by decide +kernel
theorem dL_law_3453 : decode cL_law 3453 = .ok (.aload_n 1, 1) := by decide +kernel
theorem dL_law_3454 : decode cL_law 3454 = .ok (.invokevirtual 322, 3) := by decide +kernel
theorem dL_law_3457 : decode cL_law 3457 = .ok (.aload_n 2, 1) := by decide +kernel
theorem dL_law_3458 : decode cL_law 3458 = .ok (.invokevirtual 326, 3) := by decide +kernel
theorem dL_law_3461 : decode cL_law 3461 = .ok (.lcmp, 1) := by decide +kernel
theorem dL_law_3462 : decode cL_law 3462 = .ok (.ifCond .eq 149, 3) := by decide +kernel
theorem dL_law_3467 : decode cL_law 3467 = .ok (.aload_n 1, 1) := by decide +kernel
theorem dL_law_3468 : decode cL_law 3468 = .ok (.aload 4, 2) := by decide +kernel
theorem dL_law_3470 : decode cL_law 3470 = .ok (.invokestatic 327, 3) := by decide +kernel
theorem dL_law_3473 : decode cL_law 3473 = .ok (.istore 6, 2) := by decide +kernel
theorem dL_law_3475 : decode cL_law 3475 = .ok (.aload_n 2, 1) := by decide +kernel
theorem dL_law_3476 : decode cL_law 3476 = .ok (.invokevirtual 330, 3) := by decide +kernel
theorem dL_law_3479 : decode cL_law 3479 = .ok (.fstore 7, 2) := by decide +kernel
theorem dL_law_3481 : decode cL_law 3481 = .ok (.aload_n 2, 1) := by decide +kernel
theorem dL_law_3482 : decode cL_law 3482 = .ok (.invokevirtual 183, 3) := by decide +kernel
theorem dL_law_3485 : decode cL_law 3485 = .ok (.iload 6, 2) := by decide +kernel
theorem dL_law_3487 : decode cL_law 3487 = .ok (.if_icmp .eq 5, 3) := by decide +kernel
theorem dL_law_3492 : decode cL_law 3492 = .ok (.iload 6, 2) := by decide +kernel
theorem dL_law_3494 : decode cL_law 3494 = .ok (.ifCond .ne 36, 3) := by decide +kernel
theorem dL_law_3530 : decode cL_law 3530 = .ok (.goto 81, 3) := by decide +kernel
theorem dL_law_3533 : decode cL_law 3533 = .ok (.aload_n 1, 1) := by decide +kernel
theorem dL_law_3534 : decode cL_law 3534 = .ok (.aload 4, 2) := by decide +kernel
theorem dL_law_3536 : decode cL_law 3536 = .ok (.invokestatic 331, 3) := by decide +kernel
theorem dL_law_3539 : decode cL_law 3539 = .ok (.istore 6, 2) := by decide +kernel
theorem dL_law_3541 : decode cL_law 3541 = .ok (.aload_n 2, 1) := by decide +kernel
theorem dL_law_3542 : decode cL_law 3542 = .ok (.invokevirtual 333, 3) := by decide +kernel
theorem dL_law_3545 : decode cL_law 3545 = .ok (.dstore 7, 2) := by decide +kernel
theorem dL_law_3547 : decode cL_law 3547 = .ok (.aload_n 2, 1) := by decide +kernel
theorem dL_law_3548 : decode cL_law 3548 = .ok (.invokevirtual 183, 3) := by decide +kernel
theorem dL_law_3551 : decode cL_law 3551 = .ok (.iload 6, 2) := by decide +kernel
theorem dL_law_3553 : decode cL_law 3553 = .ok (.if_icmp .eq 5, 3) := by decide +kernel
theorem dL_law_3558 : decode cL_law 3558 = .ok (.iload 6, 2) := by decide +kernel
theorem dL_law_3560 : decode cL_law 3560 = .ok (.ifCond .ne 35, 3) := by decide +kernel
theorem dL_law_3595 : decode cL_law 3595 = .ok (.goto 16, 3) := by decide +kernel
theorem dL_law_3598 : decode cL_law 3598 = .ok (.aload_n 1, 1) := by decide +kernel
theorem dL_law_3599 : decode cL_law 3599 = .ok (.invokevirtual 334, 3) := by decide +kernel
theorem dL_law_3602 : decode cL_law 3602 = .ok (.aload_n 2, 1) := by decide +kernel
theorem dL_law_3603 : decode cL_law 3603 = .ok (.invokevirtual 338, 3) := by decide +kernel
theorem dL_law_3606 : decode cL_law 3606 = .ok (.if_icmp .eq 5, 3) := by decide +kernel
theorem dL_law_3611 : decode cL_law 3611 = .ok (.iinc 5 9, 3) := by decide +kernel
theorem dL_law_3614 : decode cL_law 3614 = .ok (.goto (-3586), 3) := by decide +kernel
theorem dL_law_3617 : decode cL_law 3617 = .ok (.iconst 1, 1) := by decide +kernel
theorem dL_law_3618 : decode cL_law 3618 = .ok (.ireturn, 1) := by decide +kernel
