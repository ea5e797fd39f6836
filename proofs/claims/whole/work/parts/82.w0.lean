section
theorem dw_0 : decode code 0 = .ok (.new 8, 3) := by decide +kernel
theorem dw_3 : decode code 3 = .ok (.dup, 1) := by decide +kernel
theorem dw_4 : decode code 4 = .ok (.invokespecial 133, 3) := by decide +kernel
theorem dw_7 : decode code 7 = .ok (.astore_n 1, 1) := by decide +kernel
theorem dw_8 : decode code 8 = .ok (.new 134, 3) := by decide +kernel
theorem dw_11 : decode code 11 = .ok (.dup, 1) := by decide +kernel
theorem dw_12 : decode code 12 = .ok (.invokespecial 136, 3) := by decide +kernel
theorem dw_15 : decode code 15 = .ok (.astore_n 2, 1) := by decide +kernel
theorem dw_16 : decode code 16 = .ok (.iconst 1, 1) := by decide +kernel
theorem dw_17 : decode code 17 = .ok (.newarray .long, 2) := by decide +kernel
theorem dw_19 : decode code 19 = .ok (.astore_n 3, 1) := by decide +kernel
theorem dw_20 : decode code 20 = .ok (.iconst 0, 1) := by decide +kernel
theorem dw_21 : decode code 21 = .ok (.istore 4, 2) := by decide +kernel
theorem dw_23 : decode code 23 = .ok (.iload 4, 2) := by decide +kernel
theorem dw_25 : decode code 25 = .ok (.aload_n 0, 1) := by decide +kernel
theorem dw_26 : decode code 26 = .ok (.arraylength, 1) := by decide +kernel
theorem dw_27 : decode code 27 = .ok (.bipush 7, 2) := by decide +kernel
theorem dw_29 : decode code 29 = .ok (.isub, 1) := by decide +kernel
theorem dw_30 : decode code 30 = .ok (.if_icmp .gt 2777, 3) := by decide +kernel
theorem dw_33 : decode code 33 = .ok (.aload_n 0, 1) := by decide +kernel
theorem dw_34 : decode code 34 = .ok (.iload 4, 2) := by decide +kernel
theorem dw_36 : decode code 36 = .ok (.iaload, 1) := by decide +kernel
theorem dw_37 : decode code 37 = .ok (.bipush 63, 2) := by decide +kernel
theorem dw_39 : decode code 39 = .ok (.iand, 1) := by decide +kernel
theorem dw_40 : decode code 40 = .ok (.tableswitch 2761 0 40 #[180, 248, 382, 490, 558, 649, 733, 851, 931, 944, 1000, 1068, 1124, 1180, 1236, 1304, 1372, 1452, 1465, 1533, 1589, 1645, 1701, 1757, 1820, 1888, 1929, 1942, 1955, 2011, 2079, 2147, 2203, 2259, 2315, 2371, 2427, 2483, 2546, 2621, 2705], 180) := by decide +kernel
theorem dw_220 : decode code 220 = .ok (.aload_n 1, 1) := by decide +kernel
theorem dw_221 : decode code 221 = .ok (.aload_n 0, 1) := by decide +kernel
theorem dw_222 : decode code 222 = .ok (.iload 4, 2) := by decide +kernel
theorem dw_224 : decode code 224 = .ok (.iconst 1, 1) := by decide +kernel
theorem dw_225 : decode code 225 = .ok (.iadd, 1) := by decide +kernel
theorem dw_226 : decode code 226 = .ok (.iaload, 1) := by decide +kernel
theorem dw_227 : decode code 227 = .ok (.aload_n 0, 1) := by decide +kernel
theorem dw_228 : decode code 228 = .ok (.iload 4, 2) := by decide +kernel
theorem dw_230 : decode code 230 = .ok (.iconst 2, 1) := by decide +kernel
theorem dw_231 : decode code 231 = .ok (.iadd, 1) := by decide +kernel
theorem dw_232 : decode code 232 = .ok (.iaload, 1) := by decide +kernel
theorem dw_233 : decode code 233 = .ok (.aload_n 3, 1) := by decide +kernel
theorem dw_234 : decode code 234 = .ok (.invokestatic 137, 3) := by decide +kernel
theorem dw_237 : decode code 237 = .ok (.istore 5, 2) := by decide +kernel
theorem dw_239 : decode code 239 = .ok (.aload_n 2, 1) := by decide +kernel
theorem dw_240 : decode code 240 = .ok (.aload_n 0, 1) := by decide +kernel
theorem dw_241 : decode code 241 = .ok (.iload 4, 2) := by decide +kernel
theorem dw_243 : decode code 243 = .ok (.iconst 1, 1) := by decide +kernel
theorem dw_244 : decode code 244 = .ok (.iadd, 1) := by decide +kernel
theorem dw_245 : decode code 245 = .ok (.iaload, 1) := by decide +kernel
theorem dw_246 : decode code 246 = .ok (.aload_n 0, 1) := by decide +kernel
theorem dw_247 : decode code 247 = .ok (.iload 4, 2) := by decide +kernel
theorem dw_249 : decode code 249 = .ok (.iconst 2, 1) := by decide +kernel
theorem dw_250 : decode code 250 = .ok (.iadd, 1) := by decide +kernel
theorem dw_251 : decode code 251 = .ok (.iaload, 1) := by decide +kernel
theorem dw_252 : decode code 252 = .ok (.invokevirtual 142, 3) := by decide +kernel
theorem dw_255 : decode code 255 = .ok (.istore 6, 2) := by decide +kernel
theorem dw_257 : decode code 257 = .ok (.aload_n 2, 1) := by decide +kernel
theorem dw_258 : decode code 258 = .ok (.invokevirtual 143, 3) := by decide +kernel
theorem dw_261 : decode code 261 = .ok (.iload 5, 2) := by decide +kernel
theorem dw_263 : decode code 263 = .ok (.if_icmp .eq 5, 3) := by decide +kernel
theorem dw_266 : decode code 266 = .ok (.iconst 0, 1) := by decide +kernel
theorem dw_267 : decode code 267 = .ok (.ireturn, 1) := by decide +kernel
theorem dw_268 : decode code 268 = .ok (.iload 5, 2) := by decide +kernel
theorem dw_270 : decode code 270 = .ok (.ifCond .ne 15, 3) := by decide +kernel
theorem dw_273 : decode code 273 = .ok (.aload_n 3, 1) := by decide +kernel
theorem dw_274 : decode code 274 = .ok (.iconst 0, 1) := by decide +kernel
theorem dw_275 : decode code 275 = .ok (.laload, 1) := by decide +kernel
theorem dw_276 : decode code 276 = .ok (.iload 6, 2) := by decide +kernel
theorem dw_278 : decode code 278 = .ok (.i2l, 1) := by decide +kernel
theorem dw_279 : decode code 279 = .ok (.lcmp, 1) := by decide +kernel
theorem dw_280 : decode code 280 = .ok (.ifCond .eq 5, 3) := by decide +kernel
theorem dw_283 : decode code 283 = .ok (.iconst 0, 1) := by decide +kernel
theorem dw_284 : decode code 284 = .ok (.ireturn, 1) := by decide +kernel
theorem dw_285 : decode code 285 = .ok (.goto 2516, 3) := by decide +kernel
theorem dw_288 : decode code 288 = .ok (.aload_n 1, 1) := by decide +kernel
theorem dw_289 : decode code 289 = .ok (.aload_n 0, 1) := by decide +kernel
theorem dw_290 : decode code 290 = .ok (.iload 4, 2) := by decide +kernel
theorem dw_292 : decode code 292 = .ok (.iconst 1, 1) := by decide +kernel
theorem dw_293 : decode code 293 = .ok (.iadd, 1) := by decide +kernel
theorem dw_294 : decode code 294 = .ok (.iaload, 1) := by decide +kernel
theorem dw_295 : decode code 295 = .ok (.aload_n 0, 1) := by decide +kernel
theorem dw_296 : decode code 296 = .ok (.iload 4, 2) := by decide +kernel
theorem dw_298 : decode code 298 = .ok (.iconst 2, 1) := by decide +kernel
theorem dw_299 : decode code 299 = .ok (.iadd, 1) := by decide +kernel
theorem dw_300 : decode code 300 = .ok (.iaload, 1) := by decide +kernel
theorem dw_301 : decode code 301 = .ok (.aload_n 0, 1) := by decide +kernel
theorem dw_302 : decode code 302 = .ok (.iload 4, 2) := by decide +kernel
theorem dw_304 : decode code 304 = .ok (.iconst 3, 1) := by decide +kernel
theorem dw_305 : decode code 305 = .ok (.iadd, 1) := by decide +kernel
theorem dw_306 : decode code 306 = .ok (.iaload, 1) := by decide +kernel
theorem dw_307 : decode code 307 = .ok (.aload_n 0, 1) := by decide +kernel
theorem dw_308 : decode code 308 = .ok (.iload 4, 2) := by decide +kernel
theorem dw_310 : decode code 310 = .ok (.iconst 4, 1) := by decide +kernel
theorem dw_311 : decode code 311 = .ok (.iadd, 1) := by decide +kernel
theorem dw_312 : decode code 312 = .ok (.iaload, 1) := by decide +kernel
theorem dw_313 : decode code 313 = .ok (.aload_n 0, 1) := by decide +kernel
theorem dw_314 : decode code 314 = .ok (.iload 4, 2) := by decide +kernel
theorem dw_316 : decode code 316 = .ok (.iconst 5, 1) := by decide +kernel
theorem dw_317 : decode code 317 = .ok (.iadd, 1) := by decide +kernel
theorem dw_318 : decode code 318 = .ok (.iaload, 1) := by decide +kernel
theorem dw_319 : decode code 319 = .ok (.aload_n 0, 1) := by decide +kernel
theorem dw_320 : decode code 320 = .ok (.iload 4, 2) := by decide +kernel
theorem dw_322 : decode code 322 = .ok (.bipush 6, 2) := by decide +kernel
theorem dw_324 : decode code 324 = .ok (.iadd, 1) := by decide +kernel
theorem dw_325 : decode code 325 = .ok (.iaload, 1) := by decide +kernel
theorem dw_326 : decode code 326 = .ok (.ifCond .eq 7, 3) := by decide +kernel
theorem dw_329 : decode code 329 = .ok (.iconst 1, 1) := by decide +kernel
theorem dw_330 : decode code 330 = .ok (.goto 4, 3) := by decide +kernel
theorem dw_333 : decode code 333 = .ok (.iconst 0, 1) := by decide +kernel
theorem dw_334 : decode code 334 = .ok (.aload_n 3, 1) := by decide +kernel
theorem dw_335 : decode code 335 = .ok (.invokestatic 147, 3) := by decide +kernel
theorem dw_338 : decode code 338 = .ok (.istore 5, 2) := by decide +kernel
theorem dw_340 : decode code 340 = .ok (.aload_n 2, 1) := by decide +kernel
theorem dw_341 : decode code 341 = .ok (.aload_n 0, 1) := by decide +kernel
theorem dw_342 : decode code 342 = .ok (.iload 4, 2) := by decide +kernel
theorem dw_344 : decode code 344 = .ok (.iconst 1, 1) := by decide +kernel
theorem dw_345 : decode code 345 = .ok (.iadd, 1) := by decide +kernel
theorem dw_346 : decode code 346 = .ok (.iaload, 1) := by decide +kernel
theorem dw_347 : decode code 347 = .ok (.aload_n 0, 1) := by decide +kernel
theorem dw_348 : decode code 348 = .ok (.iload 4, 2) := by decide +kernel
theorem dw_350 : decode code 350 = .ok (.iconst 2, 1) := by decide +kernel
theorem dw_351 : decode code 351 = .ok (.iadd, 1) := by decide +kernel
theorem dw_352 : decode code 352 = .ok (.iaload, 1) := by decide +kernel
theorem dw_353 : decode code 353 = .ok (.aload_n 0, 1) := by decide +kernel
theorem dw_354 : decode code 354 = .ok (.iload 4, 2) := by decide +kernel
theorem dw_356 : decode code 356 = .ok (.iconst 3, 1) := by decide +kernel
theorem dw_357 : decode code 357 = .ok (.iadd, 1) := by decide +kernel
theorem dw_358 : decode code 358 = .ok (.iaload, 1) := by decide +kernel
theorem dw_359 : decode code 359 = .ok (.aload_n 0, 1) := by decide +kernel
theorem dw_360 : decode code 360 = .ok (.iload 4, 2) := by decide +kernel
theorem dw_362 : decode code 362 = .ok (.iconst 4, 1) := by decide +kernel
theorem dw_363 : decode code 363 = .ok (.iadd, 1) := by decide +kernel
theorem dw_364 : decode code 364 = .ok (.iaload, 1) := by decide +kernel
theorem dw_365 : decode code 365 = .ok (.aload_n 0, 1) := by decide +kernel
theorem dw_366 : decode code 366 = .ok (.iload 4, 2) := by decide +kernel
theorem dw_368 : decode code 368 = .ok (.iconst 5, 1) := by decide +kernel
theorem dw_369 : decode code 369 = .ok (.iadd, 1) := by decide +kernel
theorem dw_370 : decode code 370 = .ok (.iaload, 1) := by decide +kernel
theorem dw_371 : decode code 371 = .ok (.aload_n 0, 1) := by decide +kernel
theorem dw_372 : decode code 372 = .ok (.iload 4, 2) := by decide +kernel
theorem dw_374 : decode code 374 = .ok (.bipush 6, 2) := by decide +kernel
theorem dw_376 : decode code 376 = .ok (.iadd, 1) := by decide +kernel
theorem dw_377 : decode code 377 = .ok (.iaload, 1) := by decide +kernel
theorem dw_378 : decode code 378 = .ok (.ifCond .eq 7, 3) := by decide +kernel
theorem dw_381 : decode code 381 = .ok (.iconst 1, 1) := by decide +kernel
theorem dw_382 : decode code 382 = .ok (.goto 4, 3) := by decide +kernel
theorem dw_385 : decode code 385 = .ok (.iconst 0, 1) := by decide +kernel
theorem dw_386 : decode code 386 = .ok (.invokevirtual 150, 3) := by decide +kernel
theorem dw_389 : decode code 389 = .ok (.istore 6, 2) := by decide +kernel
theorem dw_391 : decode code 391 = .ok (.aload_n 2, 1) := by decide +kernel
theorem dw_392 : decode code 392 = .ok (.invokevirtual 143, 3) := by decide +kernel
theorem dw_395 : decode code 395 = .ok (.iload 5, 2) := by decide +kernel
theorem dw_397 : decode code 397 = .ok (.if_icmp .eq 5, 3) := by decide +kernel
theorem dw_400 : decode code 400 = .ok (.iconst 0, 1) := by decide +kernel
theorem dw_401 : decode code 401 = .ok (.ireturn, 1) := by decide +kernel
theorem dw_402 : decode code 402 = .ok (.iload 5, 2) := by decide +kernel
theorem dw_404 : decode code 404 = .ok (.ifCond .ne 15, 3) := by decide +kernel
theorem dw_407 : decode code 407 = .ok (.aload_n 3, 1) := by decide +kernel
theorem dw_408 : decode code 408 = .ok (.iconst 0, 1) := by decide +kernel
theorem dw_409 : decode code 409 = .ok (.laload, 1) := by decide +kernel
theorem dw_410 : decode code 410 = .ok (.iload 6, 2) := by decide +kernel
theorem dw_412 : decode code 412 = .ok (.i2l, 1) := by decide +kernel
theorem dw_413 : decode code 413 = .ok (.lcmp, 1) := by decide +kernel
theorem dw_414 : decode code 414 = .ok (.ifCond .eq 5, 3) := by decide +kernel
theorem dw_417 : decode code 417 = .ok (.iconst 0, 1) := by decide +kernel
theorem dw_418 : decode code 418 = .ok (.ireturn, 1) := by decide +kernel
theorem dw_419 : decode code 419 = .ok (.goto 2382, 3) := by decide +kernel
theorem dw_422 : decode code 422 = .ok (.aload_n 1, 1) := by decide +kernel
theorem dw_423 : decode code 423 = .ok (.aload_n 0, 1) := by decide +kernel
theorem dw_424 : decode code 424 = .ok (.iload 4, 2) := by decide +kernel
theorem dw_426 : decode code 426 = .ok (.iconst 1, 1) := by decide +kernel
theorem dw_427 : decode code 427 = .ok (.iadd, 1) := by decide +kernel
theorem dw_428 : decode code 428 = .ok (.iaload, 1) := by decide +kernel
theorem dw_429 : decode code 429 = .ok (.aload_n 0, 1) := by decide +kernel
theorem dw_430 : decode code 430 = .ok (.iload 4, 2) := by decide +kernel
theorem dw_432 : decode code 432 = .ok (.iconst 2, 1) := by decide +kernel
theorem dw_433 : decode code 433 = .ok (.iadd, 1) := by decide +kernel
theorem dw_434 : decode code 434 = .ok (.iaload, 1) := by decide +kernel
theorem dw_435 : decode code 435 = .ok (.aload_n 0, 1) := by decide +kernel
theorem dw_436 : decode code 436 = .ok (.iload 4, 2) := by decide +kernel
theorem dw_438 : decode code 438 = .ok (.iconst 3, 1) := by decide +kernel
theorem dw_439 : decode code 439 = .ok (.iadd, 1) := by decide +kernel
theorem dw_440 : decode code 440 = .ok (.iaload, 1) := by decide +kernel
theorem dw_441 : decode code 441 = .ok (.aload_n 0, 1) := by decide +kernel
theorem dw_442 : decode code 442 = .ok (.iload 4, 2) := by decide +kernel
theorem dw_444 : decode code 444 = .ok (.iconst 4, 1) := by decide +kernel
theorem dw_445 : decode code 445 = .ok (.iadd, 1) := by decide +kernel
theorem dw_446 : decode code 446 = .ok (.iaload, 1) := by decide +kernel
theorem dw_447 : decode code 447 = .ok (.ifCond .eq 7, 3) := by decide +kernel
theorem dw_450 : decode code 450 = .ok (.iconst 1, 1) := by decide +kernel
theorem dw_451 : decode code 451 = .ok (.goto 4, 3) := by decide +kernel
theorem dw_454 : decode code 454 = .ok (.iconst 0, 1) := by decide +kernel
theorem dw_455 : decode code 455 = .ok (.aload_n 3, 1) := by decide +kernel
theorem dw_456 : decode code 456 = .ok (.invokestatic 151, 3) := by decide +kernel
theorem dw_459 : decode code 459 = .ok (.istore 5, 2) := by decide +kernel
theorem dw_461 : decode code 461 = .ok (.aload_n 2, 1) := by decide +kernel
theorem dw_462 : decode code 462 = .ok (.aload_n 0, 1) := by decide +kernel
theorem dw_463 : decode code 463 = .ok (.iload 4, 2) := by decide +kernel
theorem dw_465 : decode code 465 = .ok (.iconst 1, 1) := by decide +kernel
theorem dw_466 : decode code 466 = .ok (.iadd, 1) := by decide +kernel
theorem dw_467 : decode code 467 = .ok (.iaload, 1) := by decide +kernel
theorem dw_468 : decode code 468 = .ok (.aload_n 0, 1) := by decide +kernel
theorem dw_469 : decode code 469 = .ok (.iload 4, 2) := by decide +kernel
theorem dw_471 : decode code 471 = .ok (.iconst 2, 1) := by decide +kernel
theorem dw_472 : decode code 472 = .ok (.iadd, 1) := by decide +kernel
theorem dw_473 : decode code 473 = .ok (.iaload, 1) := by decide +kernel
theorem dw_474 : decode code 474 = .ok (.aload_n 0, 1) := by decide +kernel
theorem dw_475 : decode code 475 = .ok (.iload 4, 2) := by decide +kernel
theorem dw_477 : decode code 477 = .ok (.iconst 3, 1) := by decide +kernel
theorem dw_478 : decode code 478 = .ok (.iadd, 1) := by decide +kernel
theorem dw_479 : decode code 479 = .ok (.iaload, 1) := by decide +kernel
theorem dw_480 : decode code 480 = .ok (.aload_n 0, 1) := by decide +kernel
theorem dw_481 : decode code 481 = .ok (.iload 4, 2) := by decide +kernel
theorem dw_483 : decode code 483 = .ok (.iconst 4, 1) := by decide +kernel
theorem dw_484 : decode code 484 = .ok (.iadd, 1) := by decide +kernel
theorem dw_485 : decode code 485 = .ok (.iaload, 1) := by decide +kernel
theorem dw_486 : decode code 486 = .ok (.ifCond .eq 7, 3) := by decide +kernel
theorem dw_489 : decode code 489 = .ok (.iconst 1, 1) := by decide +kernel
theorem dw_490 : decode code 490 = .ok (.goto 4, 3) := by decide +kernel
theorem dw_493 : decode code 493 = .ok (.iconst 0, 1) := by decide +kernel
theorem dw_494 : decode code 494 = .ok (.invokevirtual 154, 3) := by decide +kernel
theorem dw_497 : decode code 497 = .ok (.istore 6, 2) := by decide +kernel
theorem dw_499 : decode code 499 = .ok (.aload_n 2, 1) := by decide +kernel
theorem dw_500 : decode code 500 = .ok (.invokevirtual 143, 3) := by decide +kernel
theorem dw_503 : decode code 503 = .ok (.iload 5, 2) := by decide +kernel
theorem dw_505 : decode code 505 = .ok (.if_icmp .eq 5, 3) := by decide +kernel
theorem dw_508 : decode code 508 = .ok (.iconst 0, 1) := by decide +kernel
theorem dw_509 : decode code 509 = .ok (.ireturn, 1) := by decide +kernel
theorem dw_510 : decode code 510 = .ok (.iload 5, 2) := by decide +kernel
theorem dw_512 : decode code 512 = .ok (.ifCond .ne 15, 3) := by decide +kernel
theorem dw_515 : decode code 515 = .ok (.aload_n 3, 1) := by decide +kernel
theorem dw_516 : decode code 516 = .ok (.iconst 0, 1) := by decide +kernel
theorem dw_517 : decode code 517 = .ok (.laload, 1) := by decide +kernel
theorem dw_518 : decode code 518 = .ok (.iload 6, 2) := by decide +kernel
theorem dw_520 : decode code 520 = .ok (.i2l, 1) := by decide +kernel
theorem dw_521 : decode code 521 = .ok (.lcmp, 1) := by decide +kernel
theorem dw_522 : decode code 522 = .ok (.ifCond .eq 5, 3) := by decide +kernel
theorem dw_525 : decode code 525 = .ok (.iconst 0, 1) := by decide +kernel
theorem dw_526 : decode code 526 = .ok (.ireturn, 1) := by decide +kernel
theorem dw_527 : decode code 527 = .ok (.goto 2274, 3) := by decide +kernel
theorem dw_530 : decode code 530 = .ok (.aload_n 1, 1) := by decide +kernel
theorem dw_531 : decode code 531 = .ok (.aload_n 0, 1) := by decide +kernel
theorem dw_532 : decode code 532 = .ok (.iload 4, 2) := by decide +kernel
theorem dw_534 : decode code 534 = .ok (.iconst 1, 1) := by decide +kernel
theorem dw_535 : decode code 535 = .ok (.iadd, 1) := by decide +kernel
theorem dw_536 : decode code 536 = .ok (.iaload, 1) := by decide +kernel
theorem dw_537 : decode code 537 = .ok (.aload_n 0, 1) := by decide +kernel
theorem dw_538 : decode code 538 = .ok (.iload 4, 2) := by decide +kernel
theorem dw_540 : decode code 540 = .ok (.iconst 2, 1) := by decide +kernel
theorem dw_541 : decode code 541 = .ok (.iadd, 1) := by decide +kernel
theorem dw_542 : decode code 542 = .ok (.iaload, 1) := by decide +kernel
theorem dw_543 : decode code 543 = .ok (.aload_n 3, 1) := by decide +kernel
theorem dw_544 : decode code 544 = .ok (.invokestatic 155, 3) := by decide +kernel
theorem dw_547 : decode code 547 = .ok (.istore 5, 2) := by decide +kernel
theorem dw_549 : decode code 549 = .ok (.aload_n 2, 1) := by decide +kernel
theorem dw_550 : decode code 550 = .ok (.aload_n 0, 1) := by decide +kernel
theorem dw_551 : decode code 551 = .ok (.iload 4, 2) := by decide +kernel
theorem dw_553 : decode code 553 = .ok (.iconst 1, 1) := by decide +kernel
theorem dw_554 : decode code 554 = .ok (.iadd, 1) := by decide +kernel
theorem dw_555 : decode code 555 = .ok (.iaload, 1) := by decide +kernel
theorem dw_556 : decode code 556 = .ok (.aload_n 0, 1) := by decide +kernel
theorem dw_557 : decode code 557 = .ok (.iload 4, 2) := by decide +kernel
theorem dw_559 : decode code 559 = .ok (.iconst 2, 1) := by decide +kernel
theorem dw_560 : decode code 560 = .ok (.iadd, 1) := by decide +kernel
theorem dw_561 : decode code 561 = .ok (.iaload, 1) := by decide +kernel
theorem dw_562 : decode code 562 = .ok (.invokevirtual 157, 3) := by decide +kernel
theorem dw_565 : decode code 565 = .ok (.istore 6, 2) := by decide +kernel
theorem dw_567 : decode code 567 = .ok (.aload_n 2, 1) := by decide +kernel
theorem dw_568 : decode code 568 = .ok (.invokevirtual 143, 3) := by decide +kernel
theorem dw_571 : decode code 571 = .ok (.iload 5, 2) := by decide +kernel
theorem dw_573 : decode code 573 = .ok (.if_icmp .eq 5, 3) := by decide +kernel
theorem dw_576 : decode code 576 = .ok (.iconst 0, 1) := by decide +kernel
theorem dw_577 : decode code 577 = .ok (.ireturn, 1) := by decide +kernel
theorem dw_578 : decode code 578 = .ok (.iload 5, 2) := by decide +kernel
theorem dw_580 : decode code 580 = .ok (.ifCond .ne 15, 3) := by decide +kernel
theorem dw_583 : decode code 583 = .ok (.aload_n 3, 1) := by decide +kernel
theorem dw_584 : decode code 584 = .ok (.iconst 0, 1) := by decide +kernel
theorem dw_585 : decode code 585 = .ok (.laload, 1) := by decide +kernel
theorem dw_586 : decode code 586 = .ok (.iload 6, 2) := by decide +kernel
theorem dw_588 : decode code 588 = .ok (.i2l, 1) := by decide +kernel
theorem dw_589 : decode code 589 = .ok (.lcmp, 1) := by decide +kernel
theorem dw_590 : decode code 590 = .ok (.ifCond .eq 5, 3) := by decide +kernel
theorem dw_593 : decode code 593 = .ok (.iconst 0, 1) := by decide +kernel
theorem dw_594 : decode code 594 = .ok (.ireturn, 1) := by decide +kernel
theorem dw_595 : decode code 595 = .ok (.goto 2206, 3) := by decide +kernel
theorem dw_598 : decode code 598 = .ok (.aload_n 1, 1) := by decide +kernel
theorem dw_599 : decode code 599 = .ok (.aload_n 0, 1) := by decide +kernel
theorem dw_600 : decode code 600 = .ok (.iload 4, 2) := by decide +kernel
theorem dw_602 : decode code 602 = .ok (.iconst 1, 1) := by decide +kernel
theorem dw_603 : decode code 603 = .ok (.iadd, 1) := by decide +kernel
theorem dw_604 : decode code 604 = .ok (.iaload, 1) := by decide +kernel
theorem dw_605 : decode code 605 = .ok (.aload_n 0, 1) := by decide +kernel
theorem dw_606 : decode code 606 = .ok (.iload 4, 2) := by decide +kernel
theorem dw_608 : decode code 608 = .ok (.iconst 2, 1) := by decide +kernel
theorem dw_609 : decode code 609 = .ok (.iadd, 1) := by decide +kernel
theorem dw_610 : decode code 610 = .ok (.iaload, 1) := by decide +kernel
theorem dw_611 : decode code 611 = .ok (.ifCond .eq 7, 3) := by decide +kernel
theorem dw_614 : decode code 614 = .ok (.iconst 1, 1) := by decide +kernel
theorem dw_615 : decode code 615 = .ok (.goto 4, 3) := by decide +kernel
theorem dw_618 : decode code 618 = .ok (.iconst 0, 1) := by decide +kernel
theorem dw_619 : decode code 619 = .ok (.aload_n 3, 1) := by decide +kernel
theorem dw_620 : decode code 620 = .ok (.invokestatic 158, 3) := by decide +kernel
theorem dw_623 : decode code 623 = .ok (.istore 5, 2) := by decide +kernel
theorem dw_625 : decode code 625 = .ok (.aload_n 2, 1) := by decide +kernel
theorem dw_626 : decode code 626 = .ok (.aload_n 0, 1) := by decide +kernel
theorem dw_627 : decode code 627 = .ok (.iload 4, 2) := by decide +kernel
theorem dw_629 : decode code 629 = .ok (.iconst 1, 1) := by decide +kernel
theorem dw_630 : decode code 630 = .ok (.iadd, 1) := by decide +kernel
theorem dw_631 : decode code 631 = .ok (.iaload, 1) := by decide +kernel
theorem dw_632 : decode code 632 = .ok (.aload_n 0, 1) := by decide +kernel
theorem dw_633 : decode code 633 = .ok (.iload 4, 2) := by decide +kernel
theorem dw_635 : decode code 635 = .ok (.iconst 2, 1) := by decide +kernel
theorem dw_636 : decode code 636 = .ok (.iadd, 1) := by decide +kernel
theorem dw_637 : decode code 637 = .ok (.iaload, 1) := by decide +kernel
theorem dw_638 : decode code 638 = .ok (.ifCond .eq 7, 3) := by decide +kernel
theorem dw_641 : decode code 641 = .ok (.iconst 1, 1) := by decide +kernel
theorem dw_642 : decode code 642 = .ok (.goto 4, 3) := by decide +kernel
theorem dw_645 : decode code 645 = .ok (.iconst 0, 1) := by decide +kernel
theorem dw_646 : decode code 646 = .ok (.invokevirtual 161, 3) := by decide +kernel
theorem dw_649 : decode code 649 = .ok (.istore 6, 2) := by decide +kernel
theorem dw_651 : decode code 651 = .ok (.aload_n 2, 1) := by decide +kernel
theorem dw_652 : decode code 652 = .ok (.invokevirtual 143, 3) := by decide +kernel
theorem dw_655 : decode code 655 = .ok (.iload 5, 2) := by decide +kernel
theorem dw_657 : decode code 657 = .ok (.if_icmp .eq 5, 3) := by decide +kernel
theorem dw_660 : decode code 660 = .ok (.iconst 0, 1) := by decide +kernel
theorem dw_661 : decode code 661 = .ok (.ireturn, 1) := by decide +kernel
theorem dw_662 : decode code 662 = .ok (.iload 5, 2) := by decide +kernel
theorem dw_664 : decode code 664 = .ok (.ifCond .ne 22, 3) := by decide +kernel
theorem dw_667 : decode code 667 = .ok (.aload_n 3, 1) := by decide +kernel
theorem dw_668 : decode code 668 = .ok (.iconst 0, 1) := by decide +kernel
theorem dw_669 : decode code 669 = .ok (.laload, 1) := by decide +kernel
theorem dw_670 : decode code 670 = .ok (.iload 6, 2) := by decide +kernel
theorem dw_672 : decode code 672 = .ok (.ifCond .eq 7, 3) := by decide +kernel
theorem dw_675 : decode code 675 = .ok (.lconst 1, 1) := by decide +kernel
theorem dw_676 : decode code 676 = .ok (.goto 4, 3) := by decide +kernel
theorem dw_679 : decode code 679 = .ok (.lconst 0, 1) := by decide +kernel
theorem dw_680 : decode code 680 = .ok (.lcmp, 1) := by decide +kernel
theorem dw_681 : decode code 681 = .ok (.ifCond .eq 5, 3) := by decide +kernel
theorem dw_684 : decode code 684 = .ok (.iconst 0, 1) := by decide +kernel
theorem dw_685 : decode code 685 = .ok (.ireturn, 1) := by decide +kernel
theorem dw_686 : decode code 686 = .ok (.goto 2115, 3) := by decide +kernel
theorem dw_689 : decode code 689 = .ok (.aload_n 1, 1) := by decide +kernel
theorem dw_690 : decode code 690 = .ok (.aload_n 0, 1) := by decide +kernel
theorem dw_691 : decode code 691 = .ok (.iload 4, 2) := by decide +kernel
theorem dw_693 : decode code 693 = .ok (.iconst 1, 1) := by decide +kernel
theorem dw_694 : decode code 694 = .ok (.iadd, 1) := by decide +kernel
theorem dw_695 : decode code 695 = .ok (.iaload, 1) := by decide +kernel
theorem dw_696 : decode code 696 = .ok (.aload_n 0, 1) := by decide +kernel
theorem dw_697 : decode code 697 = .ok (.iload 4, 2) := by decide +kernel
theorem dw_699 : decode code 699 = .ok (.iconst 2, 1) := by decide +kernel
theorem dw_700 : decode code 700 = .ok (.iadd, 1) := by decide +kernel
theorem dw_701 : decode code 701 = .ok (.iaload, 1) := by decide +kernel
theorem dw_702 : decode code 702 = .ok (.ifCond .eq 7, 3) := by decide +kernel
theorem dw_705 : decode code 705 = .ok (.iconst 1, 1) := by decide +kernel
theorem dw_706 : decode code 706 = .ok (.goto 4, 3) := by decide +kernel
theorem dw_709 : decode code 709 = .ok (.iconst 0, 1) := by decide +kernel
theorem dw_710 : decode code 710 = .ok (.aload_n 3, 1) := by decide +kernel
theorem dw_711 : decode code 711 = .ok (.invokestatic 162, 3) := by decide +kernel
theorem dw_714 : decode code 714 = .ok (.istore 5, 2) := by decide +kernel
theorem dw_716 : decode code 716 = .ok (.aload_n 2, 1) := by decide +kernel
theorem dw_717 : decode code 717 = .ok (.aload_n 0, 1) := by decide +kernel
theorem dw_718 : decode code 718 = .ok (.iload 4, 2) := by decide +kernel
theorem dw_720 : decode code 720 = .ok (.iconst 1, 1) := by decide +kernel
theorem dw_721 : decode code 721 = .ok (.iadd, 1) := by decide +kernel
theorem dw_722 : decode code 722 = .ok (.iaload, 1) := by decide +kernel
theorem dw_723 : decode code 723 = .ok (.aload_n 0, 1) := by decide +kernel
theorem dw_724 : decode code 724 = .ok (.iload 4, 2) := by decide +kernel
theorem dw_726 : decode code 726 = .ok (.iconst 2, 1) := by decide +kernel
theorem dw_727 : decode code 727 = .ok (.iadd, 1) := by decide +kernel
theorem dw_728 : decode code 728 = .ok (.iaload, 1) := by decide +kernel
theorem dw_729 : decode code 729 = .ok (.ifCond .eq 7, 3) := by decide +kernel
theorem dw_732 : decode code 732 = .ok (.iconst 1, 1) := by decide +kernel
theorem dw_733 : decode code 733 = .ok (.goto 4, 3) := by decide +kernel
theorem dw_736 : decode code 736 = .ok (.iconst 0, 1) := by decide +kernel
theorem dw_737 : decode code 737 = .ok (.invokevirtual 164, 3) := by decide +kernel
theorem dw_740 : decode code 740 = .ok (.istore 6, 2) := by decide +kernel
theorem dw_742 : decode code 742 = .ok (.aload_n 2, 1) := by decide +kernel
theorem dw_743 : decode code 743 = .ok (.invokevirtual 143, 3) := by decide +kernel
theorem dw_746 : decode code 746 = .ok (.iload 5, 2) := by decide +kernel
theorem dw_748 : decode code 748 = .ok (.if_icmp .eq 5, 3) := by decide +kernel
theorem dw_751 : decode code 751 = .ok (.iconst 0, 1) := by decide +kernel
theorem dw_752 : decode code 752 = .ok (.ireturn, 1) := by decide +kernel
theorem dw_753 : decode code 753 = .ok (.iload 5, 2) := by decide +kernel
theorem dw_755 : decode code 755 = .ok (.ifCond .ne 15, 3) := by decide +kernel
theorem dw_758 : decode code 758 = .ok (.aload_n 3, 1) := by decide +kernel
theorem dw_759 : decode code 759 = .ok (.iconst 0, 1) := by decide +kernel
theorem dw_760 : decode code 760 = .ok (.laload, 1) := by decide +kernel
theorem dw_761 : decode code 761 = .ok (.iload 6, 2) := by decide +kernel
theorem dw_763 : decode code 763 = .ok (.i2l, 1) := by decide +kernel
theorem dw_764 : decode code 764 = .ok (.lcmp, 1) := by decide +kernel
theorem dw_765 : decode code 765 = .ok (.ifCond .eq 5, 3) := by decide +kernel
theorem dw_768 : decode code 768 = .ok (.iconst 0, 1) := by decide +kernel
theorem dw_769 : decode code 769 = .ok (.ireturn, 1) := by decide +kernel
theorem dw_770 : decode code 770 = .ok (.goto 2031, 3) := by decide +kernel
theorem dw_773 : decode code 773 = .ok (.aload_n 1, 1) := by decide +kernel
theorem dw_774 : decode code 774 = .ok (.aload_n 0, 1) := by decide +kernel
theorem dw_775 : decode code 775 = .ok (.iload 4, 2) := by decide +kernel
theorem dw_777 : decode code 777 = .ok (.iconst 1, 1) := by decide +kernel
theorem dw_778 : decode code 778 = .ok (.iadd, 1) := by decide +kernel
theorem dw_779 : decode code 779 = .ok (.iaload, 1) := by decide +kernel
theorem dw_780 : decode code 780 = .ok (.aload_n 0, 1) := by decide +kernel
theorem dw_781 : decode code 781 = .ok (.iload 4, 2) := by decide +kernel
theorem dw_783 : decode code 783 = .ok (.iconst 2, 1) := by decide +kernel
theorem dw_784 : decode code 784 = .ok (.iadd, 1) := by decide +kernel
theorem dw_785 : decode code 785 = .ok (.iaload, 1) := by decide +kernel
theorem dw_786 : decode code 786 = .ok (.aload_n 0, 1) := by decide +kernel
theorem dw_787 : decode code 787 = .ok (.iload 4, 2) := by decide +kernel
theorem dw_789 : decode code 789 = .ok (.iconst 3, 1) := by decide +kernel
theorem dw_790 : decode code 790 = .ok (.iadd, 1) := by decide +kernel
theorem dw_791 : decode code 791 = .ok (.iaload, 1) := by decide +kernel
theorem dw_792 : decode code 792 = .ok (.aload_n 0, 1) := by decide +kernel
theorem dw_793 : decode code 793 = .ok (.iload 4, 2) := by decide +kernel
theorem dw_795 : decode code 795 = .ok (.iconst 4, 1) := by decide +kernel
theorem dw_796 : decode code 796 = .ok (.iadd, 1) := by decide +kernel
theorem dw_797 : decode code 797 = .ok (.iaload, 1) := by decide +kernel
theorem dw_798 : decode code 798 = .ok (.aload_n 0, 1) := by decide +kernel
theorem dw_799 : decode code 799 = .ok (.iload 4, 2) := by decide +kernel
theorem dw_801 : decode code 801 = .ok (.iconst 5, 1) := by decide +kernel
theorem dw_802 : decode code 802 = .ok (.iadd, 1) := by decide +kernel
theorem dw_803 : decode code 803 = .ok (.iaload, 1) := by decide +kernel
theorem dw_804 : decode code 804 = .ok (.aload_n 0, 1) := by decide +kernel
theorem dw_805 : decode code 805 = .ok (.iload 4, 2) := by decide +kernel
theorem dw_807 : decode code 807 = .ok (.bipush 6, 2) := by decide +kernel
theorem dw_809 : decode code 809 = .ok (.iadd, 1) := by decide +kernel
theorem dw_810 : decode code 810 = .ok (.iaload, 1) := by decide +kernel
theorem dw_811 : decode code 811 = .ok (.aload_n 3, 1) := by decide +kernel
theorem dw_812 : decode code 812 = .ok (.invokestatic 165, 3) := by decide +kernel
theorem dw_815 : decode code 815 = .ok (.istore 5, 2) := by decide +kernel
theorem dw_817 : decode code 817 = .ok (.aload_n 2, 1) := by decide +kernel
theorem dw_818 : decode code 818 = .ok (.aload_n 0, 1) := by decide +kernel
theorem dw_819 : decode code 819 = .ok (.iload 4, 2) := by decide +kernel
theorem dw_821 : decode code 821 = .ok (.iconst 1, 1) := by decide +kernel
theorem dw_822 : decode code 822 = .ok (.iadd, 1) := by decide +kernel
theorem dw_823 : decode code 823 = .ok (.iaload, 1) := by decide +kernel
theorem dw_824 : decode code 824 = .ok (.aload_n 0, 1) := by decide +kernel
theorem dw_825 : decode code 825 = .ok (.iload 4, 2) := by decide +kernel
theorem dw_827 : decode code 827 = .ok (.iconst 2, 1) := by decide +kernel
theorem dw_828 : decode code 828 = .ok (.iadd, 1) := by decide +kernel
theorem dw_829 : decode code 829 = .ok (.iaload, 1) := by decide +kernel
theorem dw_830 : decode code 830 = .ok (.aload_n 0, 1) := by decide +kernel
theorem dw_831 : decode code 831 = .ok (.iload 4, 2) := by decide +kernel
theorem dw_833 : decode code 833 = .ok (.iconst 3, 1) := by decide +kernel
theorem dw_834 : decode code 834 = .ok (.iadd, 1) := by decide +kernel
theorem dw_835 : decode code 835 = .ok (.iaload, 1) := by decide +kernel
theorem dw_836 : decode code 836 = .ok (.aload_n 0, 1) := by decide +kernel
theorem dw_837 : decode code 837 = .ok (.iload 4, 2) := by decide +kernel
theorem dw_839 : decode code 839 = .ok (.iconst 4, 1) := by decide +kernel
theorem dw_840 : decode code 840 = .ok (.iadd, 1) := by decide +kernel
theorem dw_841 : decode code 841 = .ok (.iaload, 1) := by decide +kernel
theorem dw_842 : decode code 842 = .ok (.aload_n 0, 1) := by decide +kernel
theorem dw_843 : decode code 843 = .ok (.iload 4, 2) := by decide +kernel
theorem dw_845 : decode code 845 = .ok (.iconst 5, 1) := by decide +kernel
theorem dw_846 : decode code 846 = .ok (.iadd, 1) := by decide +kernel
theorem dw_847 : decode code 847 = .ok (.iaload, 1) := by decide +kernel
theorem dw_848 : decode code 848 = .ok (.aload_n 0, 1) := by decide +kernel
theorem dw_849 : decode code 849 = .ok (.iload 4, 2) := by decide +kernel
theorem dw_851 : decode code 851 = .ok (.bipush 6, 2) := by decide +kernel
theorem dw_853 : decode code 853 = .ok (.iadd, 1) := by decide +kernel
theorem dw_854 : decode code 854 = .ok (.iaload, 1) := by decide +kernel
theorem dw_855 : decode code 855 = .ok (.invokevirtual 168, 3) := by decide +kernel
theorem dw_858 : decode code 858 = .ok (.istore 6, 2) := by decide +kernel
theorem dw_860 : decode code 860 = .ok (.aload_n 2, 1) := by decide +kernel
theorem dw_861 : decode code 861 = .ok (.invokevirtual 143, 3) := by decide +kernel
theorem dw_864 : decode code 864 = .ok (.iload 5, 2) := by decide +kernel
theorem dw_866 : decode code 866 = .ok (.if_icmp .eq 5, 3) := by decide +kernel
theorem dw_869 : decode code 869 = .ok (.iconst 0, 1) := by decide +kernel
theorem dw_870 : decode code 870 = .ok (.ireturn, 1) := by decide +kernel
theorem dw_871 : decode code 871 = .ok (.iload 5, 2) := by decide +kernel
theorem dw_873 : decode code 873 = .ok (.ifCond .ne 15, 3) := by decide +kernel
theorem dw_876 : decode code 876 = .ok (.aload_n 3, 1) := by decide +kernel
theorem dw_877 : decode code 877 = .ok (.iconst 0, 1) := by decide +kernel
theorem dw_878 : decode code 878 = .ok (.laload, 1) := by decide +kernel
theorem dw_879 : decode code 879 = .ok (.iload 6, 2) := by decide +kernel
theorem dw_881 : decode code 881 = .ok (.i2l, 1) := by decide +kernel
theorem dw_882 : decode code 882 = .ok (.lcmp, 1) := by decide +kernel
theorem dw_883 : decode code 883 = .ok (.ifCond .eq 5, 3) := by decide +kernel
theorem dw_886 : decode code 886 = .ok (.iconst 0, 1) := by decide +kernel
theorem dw_887 : decode code 887 = .ok (.ireturn, 1) := by decide +kernel
theorem dw_888 : decode code 888 = .ok (.goto 1913, 3) := by decide +kernel
theorem dw_891 : decode code 891 = .ok (.aload_n 1, 1) := by decide +kernel
theorem dw_892 : decode code 892 = .ok (.aload_n 0, 1) := by decide +kernel
theorem dw_893 : decode code 893 = .ok (.iload 4, 2) := by decide +kernel
theorem dw_895 : decode code 895 = .ok (.iconst 1, 1) := by decide +kernel
theorem dw_896 : decode code 896 = .ok (.iadd, 1) := by decide +kernel
theorem dw_897 : decode code 897 = .ok (.iaload, 1) := by decide +kernel
theorem dw_898 : decode code 898 = .ok (.aload_n 0, 1) := by decide +kernel
theorem dw_899 : decode code 899 = .ok (.iload 4, 2) := by decide +kernel
theorem dw_901 : decode code 901 = .ok (.iconst 2, 1) := by decide +kernel
theorem dw_902 : decode code 902 = .ok (.iadd, 1) := by decide +kernel
theorem dw_903 : decode code 903 = .ok (.iaload, 1) := by decide +kernel
theorem dw_904 : decode code 904 = .ok (.aload_n 0, 1) := by decide +kernel
theorem dw_905 : decode code 905 = .ok (.iload 4, 2) := by decide +kernel
theorem dw_907 : decode code 907 = .ok (.iconst 3, 1) := by decide +kernel
theorem dw_908 : decode code 908 = .ok (.iadd, 1) := by decide +kernel
theorem dw_909 : decode code 909 = .ok (.iaload, 1) := by decide +kernel
theorem dw_910 : decode code 910 = .ok (.aload_n 3, 1) := by decide +kernel
theorem dw_911 : decode code 911 = .ok (.invokestatic 169, 3) := by decide +kernel
theorem dw_914 : decode code 914 = .ok (.istore 5, 2) := by decide +kernel
theorem dw_916 : decode code 916 = .ok (.aload_n 2, 1) := by decide +kernel
theorem dw_917 : decode code 917 = .ok (.aload_n 0, 1) := by decide +kernel
theorem dw_918 : decode code 918 = .ok (.iload 4, 2) := by decide +kernel
theorem dw_920 : decode code 920 = .ok (.iconst 1, 1) := by decide +kernel
theorem dw_921 : decode code 921 = .ok (.iadd, 1) := by decide +kernel
theorem dw_922 : decode code 922 = .ok (.iaload, 1) := by decide +kernel
theorem dw_923 : decode code 923 = .ok (.aload_n 0, 1) := by decide +kernel
theorem dw_924 : decode code 924 = .ok (.iload 4, 2) := by decide +kernel
theorem dw_926 : decode code 926 = .ok (.iconst 2, 1) := by decide +kernel
theorem dw_927 : decode code 927 = .ok (.iadd, 1) := by decide +kernel
theorem dw_928 : decode code 928 = .ok (.iaload, 1) := by decide +kernel
theorem dw_929 : decode code 929 = .ok (.aload_n 0, 1) := by decide +kernel
theorem dw_930 : decode code 930 = .ok (.iload 4, 2) := by decide +kernel
theorem dw_932 : decode code 932 = .ok (.iconst 3, 1) := by decide +kernel
theorem dw_933 : decode code 933 = .ok (.iadd, 1) := by decide +kernel
theorem dw_934 : decode code 934 = .ok (.iaload, 1) := by decide +kernel
theorem dw_935 : decode code 935 = .ok (.invokevirtual 172, 3) := by decide +kernel
theorem dw_938 : decode code 938 = .ok (.istore 6, 2) := by decide +kernel
theorem dw_940 : decode code 940 = .ok (.aload_n 2, 1) := by decide +kernel
theorem dw_941 : decode code 941 = .ok (.invokevirtual 143, 3) := by decide +kernel
theorem dw_944 : decode code 944 = .ok (.iload 5, 2) := by decide +kernel
theorem dw_946 : decode code 946 = .ok (.if_icmp .eq 5, 3) := by decide +kernel
theorem dw_949 : decode code 949 = .ok (.iconst 0, 1) := by decide +kernel
theorem dw_950 : decode code 950 = .ok (.ireturn, 1) := by decide +kernel
theorem dw_951 : decode code 951 = .ok (.iload 5, 2) := by decide +kernel
theorem dw_953 : decode code 953 = .ok (.ifCond .ne 15, 3) := by decide +kernel
theorem dw_956 : decode code 956 = .ok (.aload_n 3, 1) := by decide +kernel
theorem dw_957 : decode code 957 = .ok (.iconst 0, 1) := by decide +kernel
theorem dw_958 : decode code 958 = .ok (.laload, 1) := by decide +kernel
theorem dw_959 : decode code 959 = .ok (.iload 6, 2) := by decide +kernel
theorem dw_961 : decode code 961 = .ok (.i2l, 1) := by decide +kernel
theorem dw_962 : decode code 962 = .ok (.lcmp, 1) := by decide +kernel
theorem dw_963 : decode code 963 = .ok (.ifCond .eq 5, 3) := by decide +kernel
theorem dw_966 : decode code 966 = .ok (.iconst 0, 1) := by decide +kernel
theorem dw_967 : decode code 967 = .ok (.ireturn, 1) := by decide +kernel
theorem dw_968 : decode code 968 = .ok (.goto 1833, 3) := by decide +kernel
theorem dw_971 : decode code 971 = .ok (.aload_n 1, 1) := by decide +kernel
theorem dw_972 : decode code 972 = .ok (.invokevirtual 173, 3) := by decide +kernel
theorem dw_975 : decode code 975 = .ok (.aload_n 2, 1) := by decide +kernel
theorem dw_976 : decode code 976 = .ok (.invokevirtual 176, 3) := by decide +kernel
theorem dw_979 : decode code 979 = .ok (.if_icmp .eq 1822, 3) := by decide +kernel
theorem dw_982 : decode code 982 = .ok (.iconst 0, 1) := by decide +kernel
theorem dw_983 : decode code 983 = .ok (.ireturn, 1) := by decide +kernel
theorem dw_984 : decode code 984 = .ok (.aload_n 1, 1) := by decide +kernel
theorem dw_985 : decode code 985 = .ok (.aload_n 0, 1) := by decide +kernel
theorem dw_986 : decode code 986 = .ok (.iload 4, 2) := by decide +kernel
theorem dw_988 : decode code 988 = .ok (.iconst 1, 1) := by decide +kernel
theorem dw_989 : decode code 989 = .ok (.iadd, 1) := by decide +kernel
theorem dw_990 : decode code 990 = .ok (.iaload, 1) := by decide +kernel
theorem dw_991 : decode code 991 = .ok (.aload_n 3, 1) := by decide +kernel
theorem dw_992 : decode code 992 = .ok (.invokestatic 177, 3) := by decide +kernel
theorem dw_995 : decode code 995 = .ok (.istore 5, 2) := by decide +kernel
theorem dw_997 : decode code 997 = .ok (.aload_n 2, 1) := by decide +kernel
theorem dw_998 : decode code 998 = .ok (.aload_n 0, 1) := by decide +kernel
theorem dw_999 : decode code 999 = .ok (.iload 4, 2) := by decide +kernel
theorem dw_1001 : decode code 1001 = .ok (.iconst 1, 1) := by decide +kernel
theorem dw_1002 : decode code 1002 = .ok (.iadd, 1) := by decide +kernel
theorem dw_1003 : decode code 1003 = .ok (.iaload, 1) := by decide +kernel
theorem dw_1004 : decode code 1004 = .ok (.invokevirtual 180, 3) := by decide +kernel
theorem dw_1007 : decode code 1007 = .ok (.istore 6, 2) := by decide +kernel
theorem dw_1009 : decode code 1009 = .ok (.aload_n 2, 1) := by decide +kernel
theorem dw_1010 : decode code 1010 = .ok (.invokevirtual 143, 3) := by decide +kernel
theorem dw_1013 : decode code 1013 = .ok (.iload 5, 2) := by decide +kernel
theorem dw_1015 : decode code 1015 = .ok (.if_icmp .eq 5, 3) := by decide +kernel
theorem dw_1018 : decode code 1018 = .ok (.iconst 0, 1) := by decide +kernel
theorem dw_1019 : decode code 1019 = .ok (.ireturn, 1) := by decide +kernel
theorem dw_1020 : decode code 1020 = .ok (.iload 5, 2) := by decide +kernel
theorem dw_1022 : decode code 1022 = .ok (.ifCond .ne 15, 3) := by decide +kernel
theorem dw_1025 : decode code 1025 = .ok (.aload_n 3, 1) := by decide +kernel
theorem dw_1026 : decode code 1026 = .ok (.iconst 0, 1) := by decide +kernel
theorem dw_1027 : decode code 1027 = .ok (.laload, 1) := by decide +kernel
end
