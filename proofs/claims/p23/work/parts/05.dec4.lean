theorem dL_isNight_293 : decode cL_isNight 293 = .ok (.ifCond .le 7, 3) := by decide +kernel
theorem dL_isNight_296 : decode cL_isNight 296 = .ok (.iconst 1, 1) := by decide +kernel
theorem dL_isNight_297 : decode cL_isNight 297 = .ok (.goto 4, 3) := by decide +kernel
theorem dL_isNight_300 : decode cL_isNight 300 = .ok (.iconst 0, 1) := by decide +kernel
theorem dL_isNight_301 : decode cL_isNight 301 = .ok (.if_icmp .ne 13, 3) := by decide +kernel
theorem dL_isNight_304 : decode cL_isNight 304 = .ok (.iload 7, 2) := by decide +kernel
theorem dL_isNight_306 : decode cL_isNight 306 = .ok (.aload_n 0, 1) := by decide +kernel
theorem dL_isNight_307 : decode cL_isNight 307 = .ok (.iconst 3, 1) := by decide +kernel
theorem dL_isNight_308 : decode cL_isNight 308 = .ok (.invokevirtual 8, 3) := by decide +kernel
theorem dL_isNight_311 : decode cL_isNight 311 = .ok (.if_icmp .le 5, 3) := by decide +kernel
theorem dL_isNight_314 : decode cL_isNight 314 = .ok (.iconst 0, 1) := by decide +kernel
theorem dL_isNight_315 : decode cL_isNight 315 = .ok (.ireturn, 1) := by decide +kernel
theorem dL_isNight_316 : decode cL_isNight 316 = .ok (.aload_n 0, 1) := by decide +kernel
theorem dL_isNight_317 : decode cL_isNight 317 = .ok (.iconst 1, 1) := by decide +kernel
theorem dL_isNight_318 : decode cL_isNight 318 = .ok (.iconst 3, 1) := by decide +kernel
theorem dL_isNight_319 : decode cL_isNight 319 = .ok (.invokevirtual 25, 3) := by decide +kernel
theorem dL_isNight_322 : decode cL_isNight 322 = .ok (.istore 9, 2) := by decide +kernel
theorem dL_isNight_324 : decode cL_isNight 324 = .ok (.aload_n 0, 1) := by decide +kernel
theorem dL_isNight_325 : decode cL_isNight 325 = .ok (.iconst 1, 1) := by decide +kernel
theorem dL_isNight_326 : decode cL_isNight 326 = .ok (.iconst 5, 1) := by decide +kernel
theorem dL_isNight_327 : decode cL_isNight 327 = .ok (.invokevirtual 25, 3) := by decide +kernel
theorem dL_isNight_330 : decode cL_isNight 330 = .ok (.istore 10, 2) := by decide +kernel
theorem dL_isNight_332 : decode cL_isNight 332 = .ok (.aload_n 0, 1) := by decide +kernel
theorem dL_isNight_333 : decode cL_isNight 333 = .ok (.iconst 1, 1) := by decide +kernel
theorem dL_isNight_334 : decode cL_isNight 334 = .ok (.invokevirtual 32, 3) := by decide +kernel
theorem dL_isNight_337 : decode cL_isNight 337 = .ok (.iload 7, 2) := by decide +kernel
theorem dL_isNight_339 : decode cL_isNight 339 = .ok (.if_icmp .ne 64, 3) := by decide +kernel
theorem dL_isNight_342 : decode cL_isNight 342 = .ok (.aload_n 0, 1) := by decide +kernel
theorem dL_isNight_343 : decode cL_isNight 343 = .ok (.bipush 18, 2) := by decide +kernel
theorem dL_isNight_345 : decode cL_isNight 345 = .ok (.invokevirtual 8, 3) := by decide +kernel
theorem dL_isNight_348 : decode cL_isNight 348 = .ok (.iload 5, 2) := by decide +kernel
theorem dL_isNight_350 : decode cL_isNight 350 = .ok (.iload 4, 2) := by decide +kernel
theorem dL_isNight_352 : decode cL_isNight 352 = .ok (.iadd, 1) := by decide +kernel
theorem dL_isNight_353 : decode cL_isNight 353 = .ok (.if_icmp .ne 50, 3) := by decide +kernel
theorem dL_isNight_356 : decode cL_isNight 356 = .ok (.aload_n 0, 1) := by decide +kernel
theorem dL_isNight_357 : decode cL_isNight 357 = .ok (.bipush 21, 2) := by decide +kernel
theorem dL_isNight_359 : decode cL_isNight 359 = .ok (.invokevirtual 8, 3) := by decide +kernel
theorem dL_isNight_362 : decode cL_isNight 362 = .ok (.iload 6, 2) := by decide +kernel
theorem dL_isNight_364 : decode cL_isNight 364 = .ok (.iload 7, 2) := by decide +kernel
theorem dL_isNight_366 : decode cL_isNight 366 = .ok (.iadd, 1) := by decide +kernel
theorem dL_isNight_367 : decode cL_isNight 367 = .ok (.if_icmp .ne 36, 3) := by decide +kernel
theorem dL_isNight_370 : decode cL_isNight 370 = .ok (.aload_n 0, 1) := by decide +kernel
theorem dL_isNight_371 : decode cL_isNight 371 = .ok (.bipush 24, 2) := by decide +kernel
theorem dL_isNight_373 : decode cL_isNight 373 = .ok (.invokevirtual 8, 3) := by decide +kernel
theorem dL_isNight_376 : decode cL_isNight 376 = .ok (.iload 8, 2) := by decide +kernel
theorem dL_isNight_378 : decode cL_isNight 378 = .ok (.if_icmp .ne 25, 3) := by decide +kernel
theorem dL_isNight_381 : decode cL_isNight 381 = .ok (.aload_n 0, 1) := by decide +kernel
theorem dL_isNight_382 : decode cL_isNight 382 = .ok (.iconst 0, 1) := by decide +kernel
theorem dL_isNight_383 : decode cL_isNight 383 = .ok (.iconst 1, 1) := by decide +kernel
theorem dL_isNight_384 : decode cL_isNight 384 = .ok (.invokevirtual 22, 3) := by decide +kernel
theorem dL_isNight_387 : decode cL_isNight 387 = .ok (.iload 9, 2) := by decide +kernel
theorem dL_isNight_389 : decode cL_isNight 389 = .ok (.if_icmp .ne 14, 3) := by decide +kernel
theorem dL_isNight_392 : decode cL_isNight 392 = .ok (.aload_n 0, 1) := by decide +kernel
theorem dL_isNight_393 : decode cL_isNight 393 = .ok (.iconst 2, 1) := by decide +kernel
theorem dL_isNight_394 : decode cL_isNight 394 = .ok (.iconst 1, 1) := by decide +kernel
theorem dL_isNight_395 : decode cL_isNight 395 = .ok (.invokevirtual 22, 3) := by decide +kernel
theorem dL_isNight_398 : decode cL_isNight 398 = .ok (.iload 10, 2) := by decide +kernel
theorem dL_isNight_400 : decode cL_isNight 400 = .ok (.if_icmp .eq 5, 3) := by decide +kernel
theorem dL_isNight_403 : decode cL_isNight 403 = .ok (.iconst 0, 1) := by decide +kernel
theorem dL_isNight_404 : decode cL_isNight 404 = .ok (.ireturn, 1) := by decide +kernel
theorem dL_isNight_405 : decode cL_isNight 405 = .ok (.iconst 0, 1) := by decide +kernel
theorem dL_isNight_406 : decode cL_isNight 406 = .ok (.istore 11, 2) := by decide +kernel
theorem dL_isNight_408 : decode cL_isNight 408 = .ok (.iload 11, 2) := by decide +kernel
theorem dL_isNight_410 : decode cL_isNight 410 = .ok (.iload_n 3, 1) := by decide +kernel
theorem dL_isNight_411 : decode cL_isNight 411 = .ok (.if_icmp .ge 128, 3) := by decide +kernel
theorem dL_isNight_414 : decode cL_isNight 414 = .ok (.iload 11, 2) := by decide +kernel
theorem dL_isNight_416 : decode cL_isNight 416 = .ok (.bipush 24, 2) := by decide +kernel
theorem dL_isNight_418 : decode cL_isNight 418 = .ok (.if_icmp .ge 121, 3) := by decide +kernel
theorem dL_isNight_421 : decode cL_isNight 421 = .ok (.aload_n 0, 1) := by decide +kernel
theorem dL_isNight_422 : decode cL_isNight 422 = .ok (.aload_n 1, 1) := by decide +kernel
theorem dL_isNight_423 : decode cL_isNight 423 = .ok (.iload 11, 2) := by decide +kernel
theorem dL_isNight_425 : decode cL_isNight 425 = .ok (.iaload, 1) := by decide +kernel
theorem dL_isNight_426 : decode cL_isNight 426 = .ok (.iconst 2, 1) := by decide +kernel
theorem dL_isNight_427 : decode cL_isNight 427 = .ok (.invokevirtual 18, 3) := by decide +kernel
theorem dL_isNight_430 : decode cL_isNight 430 = .ok (.istore 12, 2) := by decide +kernel
theorem dL_isNight_432 : decode cL_isNight 432 = .ok (.aload_n 2, 1) := by decide +kernel
theorem dL_isNight_433 : decode cL_isNight 433 = .ok (.iload 11, 2) := by decide +kernel
theorem dL_isNight_435 : decode cL_isNight 435 = .ok (.iaload, 1) := by decide +kernel
theorem dL_isNight_436 : decode cL_isNight 436 = .ok (.iconst 4, 1) := by decide +kernel
theorem dL_isNight_437 : decode cL_isNight 437 = .ok (.idiv, 1) := by decide +kernel
theorem dL_isNight_438 : decode cL_isNight 438 = .ok (.iconst 2, 1) := by decide +kernel
theorem dL_isNight_439 : decode cL_isNight 439 = .ok (.irem, 1) := by decide +kernel
theorem dL_isNight_440 : decode cL_isNight 440 = .ok (.iconst 1, 1) := by decide +kernel
theorem dL_isNight_441 : decode cL_isNight 441 = .ok (.if_icmp .ne 7, 3) := by decide +kernel
theorem dL_isNight_444 : decode cL_isNight 444 = .ok (.iconst 1, 1) := by decide +kernel
theorem dL_isNight_445 : decode cL_isNight 445 = .ok (.goto 4, 3) := by decide +kernel
theorem dL_isNight_448 : decode cL_isNight 448 = .ok (.iconst 0, 1) := by decide +kernel
theorem dL_isNight_449 : decode cL_isNight 449 = .ok (.istore 13, 2) := by decide +kernel
theorem dL_isNight_451 : decode cL_isNight 451 = .ok (.aload_n 0, 1) := by decide +kernel
theorem dL_isNight_452 : decode cL_isNight 452 = .ok (.aload_n 1, 1) := by decide +kernel
theorem dL_isNight_453 : decode cL_isNight 453 = .ok (.iload 11, 2) := by decide +kernel
theorem dL_isNight_455 : decode cL_isNight 455 = .ok (.iaload, 1) := by decide +kernel
theorem dL_isNight_456 : decode cL_isNight 456 = .ok (.bipush 7, 2) := by decide +kernel
theorem dL_isNight_458 : decode cL_isNight 458 = .ok (.invokevirtual 18, 3) := by decide +kernel
theorem dL_isNight_461 : decode cL_isNight 461 = .ok (.aload_n 2, 1) := by decide +kernel
theorem dL_isNight_462 : decode cL_isNight 462 = .ok (.iload 11, 2) := by decide +kernel
theorem dL_isNight_464 : decode cL_isNight 464 = .ok (.iaload, 1) := by decide +kernel
theorem dL_isNight_465 : decode cL_isNight 465 = .ok (.bipush 8, 2) := by decide +kernel
theorem dL_isNight_467 : decode cL_isNight 467 = .ok (.idiv, 1) := by decide +kernel
theorem dL_isNight_468 : decode cL_isNight 468 = .ok (.iload 13, 2) := by decide +kernel
theorem dL_isNight_470 : decode cL_isNight 470 = .ok (.ifCond .eq 7, 3) := by decide +kernel
theorem dL_isNight_473 : decode cL_isNight 473 = .ok (.iconst 1, 1) := by decide +kernel
theorem dL_isNight_474 : decode cL_isNight 474 = .ok (.goto 4, 3) := by decide +kernel
theorem dL_isNight_477 : decode cL_isNight 477 = .ok (.iconst 0, 1) := by decide +kernel
theorem dL_isNight_478 : decode cL_isNight 478 = .ok (.iadd, 1) := by decide +kernel
theorem dL_isNight_479 : decode cL_isNight 479 = .ok (.if_icmp .ne 52, 3) := by decide +kernel
theorem dL_isNight_482 : decode cL_isNight 482 = .ok (.iload 12, 2) := by decide +kernel
theorem dL_isNight_484 : decode cL_isNight 484 = .ok (.aload_n 2, 1) := by decide +kernel
theorem dL_isNight_485 : decode cL_isNight 485 = .ok (.iload 11, 2) := by decide +kernel
theorem dL_isNight_487 : decode cL_isNight 487 = .ok (.iaload, 1) := by decide +kernel
theorem dL_isNight_488 : decode cL_isNight 488 = .ok (.iconst 4, 1) := by decide +kernel
theorem dL_isNight_489 : decode cL_isNight 489 = .ok (.irem, 1) := by decide +kernel
theorem dL_isNight_490 : decode cL_isNight 490 = .ok (.if_icmp .eq 7, 3) := by decide +kernel
theorem dL_isNight_493 : decode cL_isNight 493 = .ok (.iconst 1, 1) := by decide +kernel
theorem dL_isNight_494 : decode cL_isNight 494 = .ok (.goto 4, 3) := by decide +kernel
theorem dL_isNight_497 : decode cL_isNight 497 = .ok (.iconst 0, 1) := by decide +kernel
theorem dL_isNight_498 : decode cL_isNight 498 = .ok (.iload 13, 2) := by decide +kernel
theorem dL_isNight_500 : decode cL_isNight 500 = .ok (.if_icmp .ne 31, 3) := by decide +kernel
theorem dL_isNight_503 : decode cL_isNight 503 = .ok (.iload 13, 2) := by decide +kernel
theorem dL_isNight_505 : decode cL_isNight 505 = .ok (.ifCond .eq 28, 3) := by decide +kernel
theorem dL_isNight_508 : decode cL_isNight 508 = .ok (.iload 12, 2) := by decide +kernel
theorem dL_isNight_510 : decode cL_isNight 510 = .ok (.iconst 2, 1) := by decide +kernel
theorem dL_isNight_511 : decode cL_isNight 511 = .ok (.if_icmp .ne 22, 3) := by decide +kernel
theorem dL_isNight_514 : decode cL_isNight 514 = .ok (.aload_n 0, 1) := by decide +kernel
theorem dL_isNight_515 : decode cL_isNight 515 = .ok (.aload_n 1, 1) := by decide +kernel
theorem dL_isNight_516 : decode cL_isNight 516 = .ok (.iload 11, 2) := by decide +kernel
theorem dL_isNight_518 : decode cL_isNight 518 = .ok (.iaload, 1) := by decide +kernel
theorem dL_isNight_519 : decode cL_isNight 519 = .ok (.iconst 5, 1) := by decide +kernel
theorem dL_isNight_520 : decode cL_isNight 520 = .ok (.invokevirtual 18, 3) := by decide +kernel
theorem dL_isNight_523 : decode cL_isNight 523 = .ok (.aload_n 0, 1) := by decide +kernel
theorem dL_isNight_524 : decode cL_isNight 524 = .ok (.iconst 4, 1) := by decide +kernel
theorem dL_isNight_525 : decode cL_isNight 525 = .ok (.invokevirtual 8, 3) := by decide +kernel
theorem dL_isNight_528 : decode cL_isNight 528 = .ok (.if_icmp .eq 5, 3) := by decide +kernel
theorem dL_isNight_531 : decode cL_isNight 531 = .ok (.iconst 0, 1) := by decide +kernel
theorem dL_isNight_532 : decode cL_isNight 532 = .ok (.ireturn, 1) := by decide +kernel
theorem dL_isNight_533 : decode cL_isNight 533 = .ok (.iinc 11 1, 3) := by decide +kernel
theorem dL_isNight_536 : decode cL_isNight 536 = .ok (.goto (-128), 3) := by decide +kernel
theorem dL_isNight_539 : decode cL_isNight 539 = .ok (.iconst 1, 1) := by decide +kernel
theorem dL_isNight_540 : decode cL_isNight 540 = .ok (.ireturn, 1) := by decide +kernel
theorem dL_isRead_0 : decode cL_isRead 0 = .ok (.aload_n 0, 1) := by decide +kernel
theorem dL_isRead_1 : decode cL_isRead 1 = .ok (.iload_n 1, 1) := by decide +kernel
theorem dL_isRead_2 : decode cL_isRead 2 = .ok (.iconst 0, 1) := by decide +kernel
theorem dL_isRead_3 : decode cL_isRead 3 = .ok (.invokevirtual 18, 3) := by decide +kernel
theorem dL_isRead_6 : decode cL_isRead 6 = .ok (.ifCond .ge 19, 3) := by decide +kernel
theorem dL_isRead_9 : decode cL_isRead 9 = .ok (.aload_n 0, 1) := by decide +kernel
theorem dL_isRead_10 : decode cL_isRead 10 = .ok (.iload_n 1, 1) := by decide +kernel
theorem dL_isRead_11 : decode cL_isRead 11 = .ok (.iconst 1, 1) := by decide +kernel
theorem dL_isRead_12 : decode cL_isRead 12 = .ok (.invokevirtual 35, 3) := by decide +kernel
theorem dL_isRead_15 : decode cL_isRead 15 = .ok (.iconst (-1), 1) := by decide +kernel
theorem dL_isRead_16 : decode cL_isRead 16 = .ok (.if_icmp .ne 7, 3) := by decide +kernel
theorem dL_isRead_19 : decode cL_isRead 19 = .ok (.iconst 1, 1) := by decide +kernel
theorem dL_isRead_20 : decode cL_isRead 20 = .ok (.goto 4, 3) := by decide +kernel
theorem dL_isRead_23 : decode cL_isRead 23 = .ok (.iconst 0, 1) := by decide +kernel
theorem dL_isRead_24 : decode cL_isRead 24 = .ok (.ireturn, 1) := by decide +kernel
theorem dL_isRead_25 : decode cL_isRead 25 = .ok (.aload_n 0, 1) := by decide +kernel
theorem dL_isRead_26 : decode cL_isRead 26 = .ok (.iload_n 1, 1) := by decide +kernel
theorem dL_isRead_27 : decode cL_isRead 27 = .ok (.iconst 0, 1) := by decide +kernel
theorem dL_isRead_28 : decode cL_isRead 28 = .ok (.invokevirtual 18, 3) := by decide +kernel
theorem dL_isRead_31 : decode cL_isRead 31 = .ok (.istore_n 3, 1) := by decide +kernel
theorem dL_isRead_32 : decode cL_isRead 32 = .ok (.aload_n 0, 1) := by decide +kernel
theorem dL_isRead_33 : decode cL_isRead 33 = .ok (.iload_n 1, 1) := by decide +kernel
theorem dL_isRead_34 : decode cL_isRead 34 = .ok (.iconst 1, 1) := by decide +kernel
theorem dL_isRead_35 : decode cL_isRead 35 = .ok (.invokevirtual 18, 3) := by decide +kernel
theorem dL_isRead_38 : decode cL_isRead 38 = .ok (.istore 4, 2) := by decide +kernel
theorem dL_isRead_40 : decode cL_isRead 40 = .ok (.aload_n 0, 1) := by decide +kernel
theorem dL_isRead_41 : decode cL_isRead 41 = .ok (.iload_n 1, 1) := by decide +kernel
theorem dL_isRead_42 : decode cL_isRead 42 = .ok (.iconst 2, 1) := by decide +kernel
theorem dL_isRead_43 : decode cL_isRead 43 = .ok (.invokevirtual 18, 3) := by decide +kernel
theorem dL_isRead_46 : decode cL_isRead 46 = .ok (.istore 5, 2) := by decide +kernel
theorem dL_isRead_48 : decode cL_isRead 48 = .ok (.aload_n 0, 1) := by decide +kernel
theorem dL_isRead_49 : decode cL_isRead 49 = .ok (.iload_n 1, 1) := by decide +kernel
theorem dL_isRead_50 : decode cL_isRead 50 = .ok (.iconst 5, 1) := by decide +kernel
theorem dL_isRead_51 : decode cL_isRead 51 = .ok (.invokevirtual 18, 3) := by decide +kernel
theorem dL_isRead_54 : decode cL_isRead 54 = .ok (.istore 6, 2) := by decide +kernel
theorem dL_isRead_56 : decode cL_isRead 56 = .ok (.aload_n 0, 1) := by decide +kernel
theorem dL_isRead_57 : decode cL_isRead 57 = .ok (.iload_n 1, 1) := by decide +kernel
theorem dL_isRead_58 : decode cL_isRead 58 = .ok (.bipush 6, 2) := by decide +kernel
theorem dL_isRead_60 : decode cL_isRead 60 = .ok (.invokevirtual 18, 3) := by decide +kernel
theorem dL_isRead_63 : decode cL_isRead 63 = .ok (.istore 7, 2) := by decide +kernel
theorem dL_isRead_65 : decode cL_isRead 65 = .ok (.aload_n 0, 1) := by decide +kernel
theorem dL_isRead_66 : decode cL_isRead 66 = .ok (.bipush 19, 2) := by decide +kernel
theorem dL_isRead_68 : decode cL_isRead 68 = .ok (.invokevirtual 8, 3) := by decide +kernel
theorem dL_isRead_71 : decode cL_isRead 71 = .ok (.aload_n 0, 1) := by decide +kernel
theorem dL_isRead_72 : decode cL_isRead 72 = .ok (.bipush 20, 2) := by decide +kernel
theorem dL_isRead_74 : decode cL_isRead 74 = .ok (.invokevirtual 8, 3) := by decide +kernel
theorem dL_isRead_77 : decode cL_isRead 77 = .ok (.iadd, 1) := by decide +kernel
theorem dL_isRead_78 : decode cL_isRead 78 = .ok (.istore 8, 2) := by decide +kernel
theorem dL_isRead_80 : decode cL_isRead 80 = .ok (.aload_n 0, 1) := by decide +kernel
theorem dL_isRead_81 : decode cL_isRead 81 = .ok (.bipush 20, 2) := by decide +kernel
theorem dL_isRead_83 : decode cL_isRead 83 = .ok (.invokevirtual 8, 3) := by decide +kernel
theorem dL_isRead_86 : decode cL_isRead 86 = .ok (.istore 9, 2) := by decide +kernel
theorem dL_isRead_88 : decode cL_isRead 88 = .ok (.aload_n 0, 1) := by decide +kernel
theorem dL_isRead_89 : decode cL_isRead 89 = .ok (.bipush 22, 2) := by decide +kernel
theorem dL_isRead_91 : decode cL_isRead 91 = .ok (.invokevirtual 8, 3) := by decide +kernel
theorem dL_isRead_94 : decode cL_isRead 94 = .ok (.istore 10, 2) := by decide +kernel
theorem dL_isRead_96 : decode cL_isRead 96 = .ok (.aload_n 0, 1) := by decide +kernel
theorem dL_isRead_97 : decode cL_isRead 97 = .ok (.bipush 21, 2) := by decide +kernel
theorem dL_isRead_99 : decode cL_isRead 99 = .ok (.invokevirtual 8, 3) := by decide +kernel
theorem dL_isRead_102 : decode cL_isRead 102 = .ok (.istore 11, 2) := by decide +kernel
theorem dL_isRead_104 : decode cL_isRead 104 = .ok (.aload_n 0, 1) := by decide +kernel
theorem dL_isRead_105 : decode cL_isRead 105 = .ok (.iload_n 1, 1) := by decide +kernel
theorem dL_isRead_106 : decode cL_isRead 106 = .ok (.iload_n 2, 1) := by decide +kernel
theorem dL_isRead_107 : decode cL_isRead 107 = .ok (.invokevirtual 35, 3) := by decide +kernel
theorem dL_isRead_110 : decode cL_isRead 110 = .ok (.istore 12, 2) := by decide +kernel
theorem dL_isRead_112 : decode cL_isRead 112 = .ok (.iload 4, 2) := by decide +kernel
theorem dL_isRead_114 : decode cL_isRead 114 = .ok (.sipush 1000, 3) := by decide +kernel
theorem dL_isRead_117 : decode cL_isRead 117 = .ok (.iload_n 2, 1) := by decide +kernel
theorem dL_isRead_118 : decode cL_isRead 118 = .ok (.imul, 1) := by decide +kernel
theorem dL_isRead_119 : decode cL_isRead 119 = .ok (.iadd, 1) := by decide +kernel
theorem dL_isRead_120 : decode cL_isRead 120 = .ok (.ldc 38, 2) := by decide +kernel
theorem dL_isRead_122 : decode cL_isRead 122 = .ok (.if_icmp .le 8, 3) := by decide +kernel
theorem dL_isRead_125 : decode cL_isRead 125 = .ok (.ldc 38, 2) := by decide +kernel
theorem dL_isRead_127 : decode cL_isRead 127 = .ok (.goto 11, 3) := by decide +kernel
theorem dL_isRead_130 : decode cL_isRead 130 = .ok (.iload 4, 2) := by decide +kernel
theorem dL_isRead_132 : decode cL_isRead 132 = .ok (.sipush 1000, 3) := by decide +kernel
theorem dL_isRead_135 : decode cL_isRead 135 = .ok (.iload_n 2, 1) := by decide +kernel
theorem dL_isRead_136 : decode cL_isRead 136 = .ok (.imul, 1) := by decide +kernel
theorem dL_isRead_137 : decode cL_isRead 137 = .ok (.iadd, 1) := by decide +kernel
theorem dL_isRead_138 : decode cL_isRead 138 = .ok (.istore 13, 2) := by decide +kernel
theorem dL_isRead_140 : decode cL_isRead 140 = .ok (.iload 12, 2) := by decide +kernel
theorem dL_isRead_142 : decode cL_isRead 142 = .ok (.ifCond .lt 96, 3) := by decide +kernel
theorem dL_isRead_145 : decode cL_isRead 145 = .ok (.aload_n 0, 1) := by decide +kernel
theorem dL_isRead_146 : decode cL_isRead 146 = .ok (.bipush 19, 2) := by decide +kernel
theorem dL_isRead_148 : decode cL_isRead 148 = .ok (.invokevirtual 8, 3) := by decide +kernel
theorem dL_isRead_151 : decode cL_isRead 151 = .ok (.aload_n 0, 1) := by decide +kernel
theorem dL_isRead_152 : decode cL_isRead 152 = .ok (.bipush 20, 2) := by decide +kernel
theorem dL_isRead_154 : decode cL_isRead 154 = .ok (.invokevirtual 8, 3) := by decide +kernel
theorem dL_isRead_157 : decode cL_isRead 157 = .ok (.iadd, 1) := by decide +kernel
theorem dL_isRead_158 : decode cL_isRead 158 = .ok (.iload 8, 2) := by decide +kernel
theorem dL_isRead_160 : decode cL_isRead 160 = .ok (.iload 12, 2) := by decide +kernel
theorem dL_isRead_162 : decode cL_isRead 162 = .ok (.iadd, 1) := by decide +kernel
theorem dL_isRead_163 : decode cL_isRead 163 = .ok (.if_icmp .ne 75, 3) := by decide +kernel
theorem dL_isRead_166 : decode cL_isRead 166 = .ok (.aload_n 0, 1) := by decide +kernel
theorem dL_isRead_167 : decode cL_isRead 167 = .ok (.bipush 20, 2) := by decide +kernel
theorem dL_isRead_169 : decode cL_isRead 169 = .ok (.invokevirtual 8, 3) := by decide +kernel
theorem dL_isRead_172 : decode cL_isRead 172 = .ok (.iload 9, 2) := by decide +kernel
theorem dL_isRead_174 : decode cL_isRead 174 = .ok (.iload 5, 2) := by decide +kernel
theorem dL_isRead_176 : decode cL_isRead 176 = .ok (.iconst 2, 1) := by decide +kernel
theorem dL_isRead_177 : decode cL_isRead 177 = .ok (.if_icmp .ne 16, 3) := by decide +kernel
theorem dL_isRead_180 : decode cL_isRead 180 = .ok (.iload_n 3, 1) := by decide +kernel
theorem dL_isRead_181 : decode cL_isRead 181 = .ok (.aload_n 0, 1) := by decide +kernel
theorem dL_isRead_182 : decode cL_isRead 182 = .ok (.iconst 5, 1) := by decide +kernel
theorem dL_isRead_183 : decode cL_isRead 183 = .ok (.invokevirtual 8, 3) := by decide +kernel
theorem dL_isRead_186 : decode cL_isRead 186 = .ok (.imul, 1) := by decide +kernel
theorem dL_isRead_187 : decode cL_isRead 187 = .ok (.iload 6, 2) := by decide +kernel
theorem dL_isRead_189 : decode cL_isRead 189 = .ok (.imul, 1) := by decide +kernel
theorem dL_isRead_190 : decode cL_isRead 190 = .ok (.goto 4, 3) := by decide +kernel
theorem dL_isRead_193 : decode cL_isRead 193 = .ok (.iconst 0, 1) := by decide +kernel
theorem dL_isRead_194 : decode cL_isRead 194 = .ok (.iadd, 1) := by decide +kernel
theorem dL_isRead_195 : decode cL_isRead 195 = .ok (.if_icmp .ne 43, 3) := by decide +kernel
theorem dL_isRead_198 : decode cL_isRead 198 = .ok (.aload_n 0, 1) := by decide +kernel
theorem dL_isRead_199 : decode cL_isRead 199 = .ok (.iload_n 1, 1) := by decide +kernel
theorem dL_isRead_200 : decode cL_isRead 200 = .ok (.iconst 1, 1) := by decide +kernel
theorem dL_isRead_201 : decode cL_isRead 201 = .ok (.invokevirtual 18, 3) := by decide +kernel
theorem dL_isRead_204 : decode cL_isRead 204 = .ok (.iload 13, 2) := by decide +kernel
theorem dL_isRead_206 : decode cL_isRead 206 = .ok (.if_icmp .ne 32, 3) := by decide +kernel
theorem dL_isRead_209 : decode cL_isRead 209 = .ok (.aload_n 0, 1) := by decide +kernel
theorem dL_isRead_210 : decode cL_isRead 210 = .ok (.iload_n 1, 1) := by decide +kernel
theorem dL_isRead_211 : decode cL_isRead 211 = .ok (.bipush 6, 2) := by decide +kernel
theorem dL_isRead_213 : decode cL_isRead 213 = .ok (.invokevirtual 18, 3) := by decide +kernel
theorem dL_isRead_216 : decode cL_isRead 216 = .ok (.iload 7, 2) := by decide +kernel
theorem dL_isRead_218 : decode cL_isRead 218 = .ok (.iload_n 2, 1) := by decide +kernel
theorem dL_isRead_219 : decode cL_isRead 219 = .ok (.iadd, 1) := by decide +kernel
theorem dL_isRead_220 : decode cL_isRead 220 = .ok (.if_icmp .ne 18, 3) := by decide +kernel
theorem dL_isRead_223 : decode cL_isRead 223 = .ok (.aload_n 0, 1) := by decide +kernel
theorem dL_isRead_224 : decode cL_isRead 224 = .ok (.bipush 21, 2) := by decide +kernel
theorem dL_isRead_226 : decode cL_isRead 226 = .ok (.invokevirtual 8, 3) := by decide +kernel
theorem dL_isRead_229 : decode cL_isRead 229 = .ok (.iload 11, 2) := by decide +kernel
theorem dL_isRead_231 : decode cL_isRead 231 = .ok (.if_icmp .ne 7, 3) := by decide +kernel
theorem dL_isRead_234 : decode cL_isRead 234 = .ok (.iconst 1, 1) := by decide +kernel
theorem dL_isRead_235 : decode cL_isRead 235 = .ok (.goto 4, 3) := by decide +kernel
theorem dL_isRead_238 : decode cL_isRead 238 = .ok (.iconst 0, 1) := by decide +kernel
theorem dL_isRead_239 : decode cL_isRead 239 = .ok (.istore 14, 2) := by decide +kernel
theorem dL_isRead_241 : decode cL_isRead 241 = .ok (.aload_n 0, 1) := by decide +kernel
theorem dL_isRead_242 : decode cL_isRead 242 = .ok (.iload_n 1, 1) := by decide +kernel
theorem dL_isRead_243 : decode cL_isRead 243 = .ok (.iconst 2, 1) := by decide +kernel
theorem dL_isRead_244 : decode cL_isRead 244 = .ok (.invokevirtual 18, 3) := by decide +kernel
theorem dL_isRead_247 : decode cL_isRead 247 = .ok (.istore 15, 2) := by decide +kernel
theorem dL_isRead_249 : decode cL_isRead 249 = .ok (.iload 5, 2) := by decide +kernel
theorem dL_isRead_251 : decode cL_isRead 251 = .ok (.iconst 2, 1) := by decide +kernel
theorem dL_isRead_252 : decode cL_isRead 252 = .ok (.if_icmp .ge 50, 3) := by decide +kernel
theorem dL_isRead_255 : decode cL_isRead 255 = .ok (.iload 14, 2) := by decide +kernel
theorem dL_isRead_257 : decode cL_isRead 257 = .ok (.ifCond .eq 43, 3) := by decide +kernel
theorem dL_isRead_260 : decode cL_isRead 260 = .ok (.iload 15, 2) := by decide +kernel
theorem dL_isRead_262 : decode cL_isRead 262 = .ok (.iload 5, 2) := by decide +kernel
theorem dL_isRead_264 : decode cL_isRead 264 = .ok (.if_icmp .ne 36, 3) := by decide +kernel
theorem dL_isRead_267 : decode cL_isRead 267 = .ok (.iload 12, 2) := by decide +kernel
theorem dL_isRead_269 : decode cL_isRead 269 = .ok (.iload_n 2, 1) := by decide +kernel
theorem dL_isRead_270 : decode cL_isRead 270 = .ok (.iload_n 3, 1) := by decide +kernel
theorem dL_isRead_271 : decode cL_isRead 271 = .ok (.imul, 1) := by decide +kernel
theorem dL_isRead_272 : decode cL_isRead 272 = .ok (.aload_n 0, 1) := by decide +kernel
theorem dL_isRead_273 : decode cL_isRead 273 = .ok (.bipush 12, 2) := by decide +kernel
theorem dL_isRead_275 : decode cL_isRead 275 = .ok (.iload 5, 2) := by decide +kernel
theorem dL_isRead_277 : decode cL_isRead 277 = .ok (.iadd, 1) := by decide +kernel
theorem dL_isRead_278 : decode cL_isRead 278 = .ok (.invokevirtual 8, 3) := by decide +kernel
theorem dL_isRead_281 : decode cL_isRead 281 = .ok (.imul, 1) := by decide +kernel
theorem dL_isRead_282 : decode cL_isRead 282 = .ok (.if_icmp .ne 18, 3) := by decide +kernel
theorem dL_isRead_285 : decode cL_isRead 285 = .ok (.aload_n 0, 1) := by decide +kernel
theorem dL_isRead_286 : decode cL_isRead 286 = .ok (.bipush 22, 2) := by decide +kernel
theorem dL_isRead_288 : decode cL_isRead 288 = .ok (.invokevirtual 8, 3) := by decide +kernel
theorem dL_isRead_291 : decode cL_isRead 291 = .ok (.iload 10, 2) := by decide +kernel
theorem dL_isRead_293 : decode cL_isRead 293 = .ok (.if_icmp .ne 7, 3) := by decide +kernel
theorem dL_isRead_296 : decode cL_isRead 296 = .ok (.iconst 1, 1) := by decide +kernel
theorem dL_isRead_297 : decode cL_isRead 297 = .ok (.goto 4, 3) := by decide +kernel
theorem dL_isRead_300 : decode cL_isRead 300 = .ok (.iconst 0, 1) := by decide +kernel
theorem dL_isRead_301 : decode cL_isRead 301 = .ok (.ireturn, 1) := by decide +kernel
theorem dL_isRead_302 : decode cL_isRead 302 = .ok (.iload 14, 2) := by decide +kernel
theorem dL_isRead_304 : decode cL_isRead 304 = .ok (.ifCond .eq 85, 3) := by decide +kernel
theorem dL_isRead_307 : decode cL_isRead 307 = .ok (.aload_n 0, 1) := by decide +kernel
theorem dL_isRead_308 : decode cL_isRead 308 = .ok (.iload_n 1, 1) := by decide +kernel
theorem dL_isRead_309 : decode cL_isRead 309 = .ok (.iconst 5, 1) := by decide +kernel
theorem dL_isRead_310 : decode cL_isRead 310 = .ok (.invokevirtual 18, 3) := by decide +kernel
theorem dL_isRead_313 : decode cL_isRead 313 = .ok (.ifCond .ne 76, 3) := by decide +kernel
theorem dL_isRead_316 : decode cL_isRead 316 = .ok (.iload 15, 2) := by decide +kernel
theorem dL_isRead_318 : decode cL_isRead 318 = .ok (.iconst 2, 1) := by decide +kernel
theorem dL_isRead_319 : decode cL_isRead 319 = .ok (.if_icmp .ne 53, 3) := by decide +kernel
theorem dL_isRead_322 : decode cL_isRead 322 = .ok (.aload_n 0, 1) := by decide +kernel
theorem dL_isRead_323 : decode cL_isRead 323 = .ok (.bipush 22, 2) := by decide +kernel
theorem dL_isRead_325 : decode cL_isRead 325 = .ok (.invokevirtual 8, 3) := by decide +kernel
theorem dL_isRead_328 : decode cL_isRead 328 = .ok (.iload 10, 2) := by decide +kernel
theorem dL_isRead_330 : decode cL_isRead 330 = .ok (.iload_n 2, 1) := by decide +kernel
theorem dL_isRead_331 : decode cL_isRead 331 = .ok (.iadd, 1) := by decide +kernel
theorem dL_isRead_332 : decode cL_isRead 332 = .ok (.if_icmp .ne 57, 3) := by decide +kernel
theorem dL_isRead_335 : decode cL_isRead 335 = .ok (.aload_n 0, 1) := by decide +kernel
theorem dL_isRead_336 : decode cL_isRead 336 = .ok (.iconst 0, 1) := by decide +kernel
theorem dL_isRead_337 : decode cL_isRead 337 = .ok (.iconst 1, 1) := by decide +kernel
theorem dL_isRead_338 : decode cL_isRead 338 = .ok (.invokevirtual 22, 3) := by decide +kernel
theorem dL_isRead_341 : decode cL_isRead 341 = .ok (.iload_n 3, 1) := by decide +kernel
theorem dL_isRead_342 : decode cL_isRead 342 = .ok (.iadd, 1) := by decide +kernel
theorem dL_isRead_343 : decode cL_isRead 343 = .ok (.aload_n 0, 1) := by decide +kernel
theorem dL_isRead_344 : decode cL_isRead 344 = .ok (.iconst 0, 1) := by decide +kernel
theorem dL_isRead_345 : decode cL_isRead 345 = .ok (.iconst 0, 1) := by decide +kernel
theorem dL_isRead_346 : decode cL_isRead 346 = .ok (.invokevirtual 22, 3) := by decide +kernel
theorem dL_isRead_349 : decode cL_isRead 349 = .ok (.if_icmp .le 40, 3) := by decide +kernel
theorem dL_isRead_352 : decode cL_isRead 352 = .ok (.aload_n 0, 1) := by decide +kernel
theorem dL_isRead_353 : decode cL_isRead 353 = .ok (.iconst 1, 1) := by decide +kernel
theorem dL_isRead_354 : decode cL_isRead 354 = .ok (.iconst 1, 1) := by decide +kernel
theorem dL_isRead_355 : decode cL_isRead 355 = .ok (.invokevirtual 22, 3) := by decide +kernel
theorem dL_isRead_358 : decode cL_isRead 358 = .ok (.iload_n 3, 1) := by decide +kernel
theorem dL_isRead_359 : decode cL_isRead 359 = .ok (.iadd, 1) := by decide +kernel
theorem dL_isRead_360 : decode cL_isRead 360 = .ok (.aload_n 0, 1) := by decide +kernel
theorem dL_isRead_361 : decode cL_isRead 361 = .ok (.iconst 1, 1) := by decide +kernel
theorem dL_isRead_362 : decode cL_isRead 362 = .ok (.iconst 0, 1) := by decide +kernel
theorem dL_isRead_363 : decode cL_isRead 363 = .ok (.invokevirtual 22, 3) := by decide +kernel
theorem dL_isRead_366 : decode cL_isRead 366 = .ok (.if_icmp .le 23, 3) := by decide +kernel
theorem dL_isRead_369 : decode cL_isRead 369 = .ok (.goto 16, 3) := by decide +kernel
theorem dL_isRead_372 : decode cL_isRead 372 = .ok (.aload_n 0, 1) := by decide +kernel
theorem dL_isRead_373 : decode cL_isRead 373 = .ok (.bipush 22, 2) := by decide +kernel
theorem dL_isRead_375 : decode cL_isRead 375 = .ok (.invokevirtual 8, 3) := by decide +kernel
theorem dL_isRead_378 : decode cL_isRead 378 = .ok (.iload 10, 2) := by decide +kernel
theorem dL_isRead_380 : decode cL_isRead 380 = .ok (.iconst 1, 1) := by decide +kernel
theorem dL_isRead_381 : decode cL_isRead 381 = .ok (.iadd, 1) := by decide +kernel
theorem dL_isRead_382 : decode cL_isRead 382 = .ok (.if_icmp .ne 7, 3) := by decide +kernel
theorem dL_isRead_385 : decode cL_isRead 385 = .ok (.iconst 1, 1) := by decide +kernel
theorem dL_isRead_386 : decode cL_isRead 386 = .ok (.goto 4, 3) := by decide +kernel
theorem dL_isRead_389 : decode cL_isRead 389 = .ok (.iconst 0, 1) := by decide +kernel
theorem dL_isRead_390 : decode cL_isRead 390 = .ok (.ireturn, 1) := by decide +kernel
theorem dL_isBest_0 : decode cL_isBest 0 = .ok (.aload_n 0, 1) := by decide +kernel
theorem dL_isBest_1 : decode cL_isBest 1 = .ok (.iload_n 1, 1) := by decide +kernel
theorem dL_isBest_2 : decode cL_isBest 2 = .ok (.iconst 0, 1) := by decide +kernel
theorem dL_isBest_3 : decode cL_isBest 3 = .ok (.invokevirtual 39, 3) := by decide +kernel
theorem dL_isBest_6 : decode cL_isBest 6 = .ok (.istore_n 2, 1) := by decide +kernel
theorem dL_isBest_7 : decode cL_isBest 7 = .ok (.aload_n 0, 1) := by decide +kernel
theorem dL_isBest_8 : decode cL_isBest 8 = .ok (.iload_n 1, 1) := by decide +kernel
theorem dL_isBest_9 : decode cL_isBest 9 = .ok (.iconst 1, 1) := by decide +kernel
theorem dL_isBest_10 : decode cL_isBest 10 = .ok (.invokevirtual 39, 3) := by decide +kernel
theorem dL_isBest_13 : decode cL_isBest 13 = .ok (.istore_n 3, 1) := by decide +kernel
theorem dL_isBest_14 : decode cL_isBest 14 = .ok (.aload_n 0, 1) := by decide +kernel
theorem dL_isBest_15 : decode cL_isBest 15 = .ok (.iconst 1, 1) := by decide +kernel
theorem dL_isBest_16 : decode cL_isBest 16 = .ok (.invokevirtual 8, 3) := by decide +kernel
theorem dL_isBest_19 : decode cL_isBest 19 = .ok (.istore 4, 2) := by decide +kernel
theorem dL_isBest_21 : decode cL_isBest 21 = .ok (.iload_n 2, 1) := by decide +kernel
theorem dL_isBest_22 : decode cL_isBest 22 = .ok (.sipush 500, 3) := by decide +kernel
theorem dL_isBest_25 : decode cL_isBest 25 = .ok (.irem, 1) := by decide +kernel
theorem dL_isBest_26 : decode cL_isBest 26 = .ok (.ifCond .ne 23, 3) := by decide +kernel
theorem dL_isBest_29 : decode cL_isBest 29 = .ok (.iload_n 2, 1) := by decide +kernel
theorem dL_isBest_30 : decode cL_isBest 30 = .ok (.aload_n 0, 1) := by decide +kernel
theorem dL_isBest_31 : decode cL_isBest 31 = .ok (.iconst 2, 1) := by decide +kernel
theorem dL_isBest_32 : decode cL_isBest 32 = .ok (.invokevirtual 8, 3) := by decide +kernel
theorem dL_isBest_35 : decode cL_isBest 35 = .ok (.if_icmp .lt 14, 3) := by decide +kernel
theorem dL_isBest_38 : decode cL_isBest 38 = .ok (.iload_n 2, 1) := by decide +kernel
theorem dL_isBest_39 : decode cL_isBest 39 = .ok (.sipush 20000, 3) := by decide +kernel
theorem dL_isBest_42 : decode cL_isBest 42 = .ok (.if_icmp .gt 7, 3) := by decide +kernel
theorem dL_isBest_45 : decode cL_isBest 45 = .ok (.iconst 1, 1) := by decide +kernel
theorem dL_isBest_46 : decode cL_isBest 46 = .ok (.goto 4, 3) := by decide +kernel
theorem dL_isBest_49 : decode cL_isBest 49 = .ok (.iconst 0, 1) := by decide +kernel
theorem dL_isBest_50 : decode cL_isBest 50 = .ok (.istore 5, 2) := by decide +kernel
theorem dL_isBest_52 : decode cL_isBest 52 = .ok (.iconst 0, 1) := by decide +kernel
theorem dL_isBest_53 : decode cL_isBest 53 = .ok (.istore 6, 2) := by decide +kernel
theorem dL_isBest_55 : decode cL_isBest 55 = .ok (.iload 6, 2) := by decide +kernel
theorem dL_isBest_57 : decode cL_isBest 57 = .ok (.sipush 20000, 3) := by decide +kernel
theorem dL_isBest_60 : decode cL_isBest 60 = .ok (.if_icmp .gt 94, 3) := by decide +kernel
theorem dL_isBest_63 : decode cL_isBest 63 = .ok (.iload 5, 2) := by decide +kernel
theorem dL_isBest_65 : decode cL_isBest 65 = .ok (.ifCond .eq 89, 3) := by decide +kernel
theorem dL_isBest_68 : decode cL_isBest 68 = .ok (.iload 6, 2) := by decide +kernel
theorem dL_isBest_70 : decode cL_isBest 70 = .ok (.aload_n 0, 1) := by decide +kernel
theorem dL_isBest_71 : decode cL_isBest 71 = .ok (.iconst 2, 1) := by decide +kernel
theorem dL_isBest_72 : decode cL_isBest 72 = .ok (.invokevirtual 8, 3) := by decide +kernel
theorem dL_isBest_75 : decode cL_isBest 75 = .ok (.if_icmp .lt 70, 3) := by decide +kernel
theorem dL_isBest_78 : decode cL_isBest 78 = .ok (.aload_n 0, 1) := by decide +kernel
theorem dL_isBest_79 : decode cL_isBest 79 = .ok (.iconst 1, 1) := by decide +kernel
theorem dL_isBest_80 : decode cL_isBest 80 = .ok (.iload 6, 2) := by decide +kernel
theorem dL_isBest_82 : decode cL_isBest 82 = .ok (.invokevirtual 42, 3) := by decide +kernel
theorem dL_isBest_85 : decode cL_isBest 85 = .ok (.istore 7, 2) := by decide +kernel
theorem dL_isBest_87 : decode cL_isBest 87 = .ok (.aload_n 0, 1) := by decide +kernel
theorem dL_isBest_88 : decode cL_isBest 88 = .ok (.iload_n 1, 1) := by decide +kernel
theorem dL_isBest_89 : decode cL_isBest 89 = .ok (.iconst 0, 1) := by decide +kernel
theorem dL_isBest_90 : decode cL_isBest 90 = .ok (.invokevirtual 25, 3) := by decide +kernel
theorem dL_isBest_93 : decode cL_isBest 93 = .ok (.istore 8, 2) := by decide +kernel
theorem dL_isBest_95 : decode cL_isBest 95 = .ok (.iload 7, 2) := by decide +kernel
theorem dL_isBest_97 : decode cL_isBest 97 = .ok (.bipush (-4), 2) := by decide +kernel
theorem dL_isBest_99 : decode cL_isBest 99 = .ok (.if_icmp .eq 43, 3) := by decide +kernel
theorem dL_isBest_102 : decode cL_isBest 102 = .ok (.iload 6, 2) := by decide +kernel
theorem dL_isBest_104 : decode cL_isBest 104 = .ok (.iload_n 2, 1) := by decide +kernel
theorem dL_isBest_105 : decode cL_isBest 105 = .ok (.if_icmp .ge 12, 3) := by decide +kernel
theorem dL_isBest_108 : decode cL_isBest 108 = .ok (.iload 8, 2) := by decide +kernel
theorem dL_isBest_110 : decode cL_isBest 110 = .ok (.iload_n 3, 1) := by decide +kernel
theorem dL_isBest_111 : decode cL_isBest 111 = .ok (.if_icmp .le 31, 3) := by decide +kernel
theorem dL_isBest_114 : decode cL_isBest 114 = .ok (.goto 24, 3) := by decide +kernel
theorem dL_isBest_117 : decode cL_isBest 117 = .ok (.iload 6, 2) := by decide +kernel
theorem dL_isBest_119 : decode cL_isBest 119 = .ok (.iload_n 2, 1) := by decide +kernel
theorem dL_isBest_120 : decode cL_isBest 120 = .ok (.if_icmp .ne 12, 3) := by decide +kernel
theorem dL_isBest_123 : decode cL_isBest 123 = .ok (.iload 8, 2) := by decide +kernel
theorem dL_isBest_125 : decode cL_isBest 125 = .ok (.iload_n 3, 1) := by decide +kernel
theorem dL_isBest_126 : decode cL_isBest 126 = .ok (.if_icmp .ne 16, 3) := by decide +kernel
theorem dL_isBest_129 : decode cL_isBest 129 = .ok (.goto 9, 3) := by decide +kernel
theorem dL_isBest_132 : decode cL_isBest 132 = .ok (.iload 8, 2) := by decide +kernel
theorem dL_isBest_134 : decode cL_isBest 134 = .ok (.iload_n 3, 1) := by decide +kernel
theorem dL_isBest_135 : decode cL_isBest 135 = .ok (.if_icmp .lt 7, 3) := by decide +kernel
theorem dL_isBest_138 : decode cL_isBest 138 = .ok (.iconst 1, 1) := by decide +kernel
theorem dL_isBest_139 : decode cL_isBest 139 = .ok (.goto 4, 3) := by decide +kernel
theorem dL_isBest_142 : decode cL_isBest 142 = .ok (.iconst 0, 1) := by decide +kernel
theorem dL_isBest_143 : decode cL_isBest 143 = .ok (.istore 5, 2) := by decide +kernel
theorem dL_isBest_145 : decode cL_isBest 145 = .ok (.iinc 6 500, 6) := by decide +kernel
theorem dL_isBest_151 : decode cL_isBest 151 = .ok (.goto (-96), 3) := by decide +kernel
theorem dL_isBest_154 : decode cL_isBest 154 = .ok (.aload_n 0, 1) := by decide +kernel
theorem dL_isBest_155 : decode cL_isBest 155 = .ok (.iconst 1, 1) := by decide +kernel
theorem dL_isBest_156 : decode cL_isBest 156 = .ok (.iload 4, 2) := by decide +kernel
theorem dL_isBest_158 : decode cL_isBest 158 = .ok (.invokevirtual 42, 3) := by decide +kernel
theorem dL_isBest_161 : decode cL_isBest 161 = .ok (.istore 6, 2) := by decide +kernel
theorem dL_isBest_163 : decode cL_isBest 163 = .ok (.iload 5, 2) := by decide +kernel
theorem dL_isBest_165 : decode cL_isBest 165 = .ok (.ifCond .eq 17, 3) := by decide +kernel
theorem dL_isBest_168 : decode cL_isBest 168 = .ok (.aload_n 0, 1) := by decide +kernel
theorem dL_isBest_169 : decode cL_isBest 169 = .ok (.iconst 1, 1) := by decide +kernel
theorem dL_isBest_170 : decode cL_isBest 170 = .ok (.invokevirtual 8, 3) := by decide +kernel
theorem dL_isBest_173 : decode cL_isBest 173 = .ok (.iload 4, 2) := by decide +kernel
theorem dL_isBest_175 : decode cL_isBest 175 = .ok (.if_icmp .ne 7, 3) := by decide +kernel
theorem dL_isBest_178 : decode cL_isBest 178 = .ok (.iconst 1, 1) := by decide +kernel
theorem dL_isBest_179 : decode cL_isBest 179 = .ok (.goto 4, 3) := by decide +kernel
theorem dL_isBest_182 : decode cL_isBest 182 = .ok (.iconst 0, 1) := by decide +kernel
theorem dL_isBest_183 : decode cL_isBest 183 = .ok (.ireturn, 1) := by decide +kernel
theorem dL_does_0 : decode cL_does 0 = .ok (.aload_n 0, 1) := by decide +kernel
theorem dL_does_1 : decode cL_does 1 = .ok (.bipush 15, 2) := by decide +kernel
theorem dL_does_3 : decode cL_does 3 = .ok (.invokevirtual 8, 3) := by decide +kernel
theorem dL_does_6 : decode cL_does 6 = .ok (.istore_n 3, 1) := by decide +kernel
theorem dL_does_7 : decode cL_does 7 = .ok (.iload_n 3, 1) := by decide +kernel
theorem dL_does_8 : decode cL_does 8 = .ok (.ifCond .ne 7, 3) := by decide +kernel
theorem dL_does_11 : decode cL_does 11 = .ok (.iconst 0, 1) := by decide +kernel
theorem dL_does_12 : decode cL_does 12 = .ok (.goto 14, 3) := by decide +kernel
theorem dL_does_15 : decode cL_does 15 = .ok (.aload_n 0, 1) := by decide +kernel
theorem dL_does_16 : decode cL_does 16 = .ok (.iload_n 1, 1) := by decide +kernel
theorem dL_does_17 : decode cL_does 17 = .ok (.iconst 4, 1) := by decide +kernel
theorem dL_does_18 : decode cL_does 18 = .ok (.ishr, 1) := by decide +kernel
theorem dL_does_19 : decode cL_does 19 = .ok (.iload_n 3, 1) := by decide +kernel
theorem dL_does_20 : decode cL_does 20 = .ok (.invokestatic 45, 3) := by decide +kernel
theorem dL_does_23 : decode cL_does 23 = .ok (.invokevirtual 15, 3) := by decide +kernel
theorem dL_does_26 : decode cL_does 26 = .ok (.istore 4, 2) := by decide +kernel
theorem dL_does_28 : decode cL_does 28 = .ok (.iload_n 1, 1) := by decide +kernel
theorem dL_does_29 : decode cL_does 29 = .ok (.bipush 16, 2) := by decide +kernel
theorem dL_does_31 : decode cL_does 31 = .ok (.invokestatic 45, 3) := by decide +kernel
