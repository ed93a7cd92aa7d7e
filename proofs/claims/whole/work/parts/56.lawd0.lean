/-! the law: its instructions -/
theorem d_Law_law_0 : decode code 0 = .ok (.new 8, 3) := by decide +kernel
theorem d_Law_law_3 : decode code 3 = .ok (.dup, 1) := by decide +kernel
theorem d_Law_law_4 : decode code 4 = .ok (.invokespecial 153, 3) := by decide +kernel
theorem d_Law_law_7 : decode code 7 = .ok (.astore_n 1, 1) := by decide +kernel
theorem d_Law_law_8 : decode code 8 = .ok (.new 154, 3) := by decide +kernel
theorem d_Law_law_11 : decode code 11 = .ok (.dup, 1) := by decide +kernel
theorem d_Law_law_12 : decode code 12 = .ok (.invokespecial 156, 3) := by decide +kernel
theorem d_Law_law_15 : decode code 15 = .ok (.astore_n 2, 1) := by decide +kernel
theorem d_Law_law_16 : decode code 16 = .ok (.iconst 1, 1) := by decide +kernel
theorem d_Law_law_17 : decode code 17 = .ok (.newarray .long, 2) := by decide +kernel
theorem d_Law_law_19 : decode code 19 = .ok (.astore_n 3, 1) := by decide +kernel
theorem d_Law_law_20 : decode code 20 = .ok (.iconst 1, 1) := by decide +kernel
theorem d_Law_law_21 : decode code 21 = .ok (.newarray .double, 2) := by decide +kernel
theorem d_Law_law_23 : decode code 23 = .ok (.astore 4, 2) := by decide +kernel
theorem d_Law_law_25 : decode code 25 = .ok (.iconst 0, 1) := by decide +kernel
theorem d_Law_law_26 : decode code 26 = .ok (.istore 5, 2) := by decide +kernel
theorem d_Law_law_28 : decode code 28 = .ok (.iload 5, 2) := by decide +kernel
theorem d_Law_law_30 : decode code 30 = .ok (.aload_n 0, 1) := by decide +kernel
theorem d_Law_law_31 : decode code 31 = .ok (.arraylength, 1) := by decide +kernel
theorem d_Law_law_32 : decode code 32 = .ok (.iconst 3, 1) := by decide +kernel
theorem d_Law_law_33 : decode code 33 = .ok (.isub, 1) := by decide +kernel
theorem d_Law_law_34 : decode code 34 = .ok (.if_icmp .gt 2905, 3) := by decide +kernel
theorem d_Law_law_37 : decode code 37 = .ok (.aload_n 0, 1) := by decide +kernel
theorem d_Law_law_38 : decode code 38 = .ok (.iload 5, 2) := by decide +kernel
theorem d_Law_law_40 : decode code 40 = .ok (.iaload, 1) := by decide +kernel
theorem d_Law_law_41 : decode code 41 = .ok (.bipush 63, 2) := by decide +kernel
theorem d_Law_law_43 : decode code 43 = .ok (.iand, 1) := by decide +kernel
theorem d_Law_law_44 : decode code 44 = .ok (.tableswitch 2889 0 61 #[264, 334, 392, 405, 461, 517, 585, 641, 685, 741, 785, 843, 856, 914, 972, 1028, 1041, 1054, 1067, 1080, 1121, 1134, 1190, 1203, 1216, 1272, 1328, 1384, 1452, 1522, 1578, 1646, 1702, 1758, 1833, 1901, 1914, 1927, 1983, 2039, 2095, 2151, 2164, 2215, 2228, 2284, 2297, 2310, 2323, 2336, 2402, 2415, 2471, 2529, 2585, 2643, 2687, 2731, 2775, 2788, 2832, 2845], 264) := by decide +kernel
theorem d_Law_law_308 : decode code 308 = .ok (.aload_n 1, 1) := by decide +kernel
theorem d_Law_law_309 : decode code 309 = .ok (.aload_n 0, 1) := by decide +kernel
theorem d_Law_law_310 : decode code 310 = .ok (.iload 5, 2) := by decide +kernel
theorem d_Law_law_312 : decode code 312 = .ok (.iconst 1, 1) := by decide +kernel
theorem d_Law_law_313 : decode code 313 = .ok (.iadd, 1) := by decide +kernel
theorem d_Law_law_314 : decode code 314 = .ok (.iaload, 1) := by decide +kernel
theorem d_Law_law_315 : decode code 315 = .ok (.i2c, 1) := by decide +kernel
theorem d_Law_law_316 : decode code 316 = .ok (.aload_n 0, 1) := by decide +kernel
theorem d_Law_law_317 : decode code 317 = .ok (.iload 5, 2) := by decide +kernel
theorem d_Law_law_319 : decode code 319 = .ok (.iconst 2, 1) := by decide +kernel
theorem d_Law_law_320 : decode code 320 = .ok (.iadd, 1) := by decide +kernel
theorem d_Law_law_321 : decode code 321 = .ok (.iaload, 1) := by decide +kernel
theorem d_Law_law_322 : decode code 322 = .ok (.aload_n 3, 1) := by decide +kernel
theorem d_Law_law_323 : decode code 323 = .ok (.invokestatic 157, 3) := by decide +kernel
theorem d_Law_law_326 : decode code 326 = .ok (.istore 6, 2) := by decide +kernel
theorem d_Law_law_328 : decode code 328 = .ok (.aload_n 2, 1) := by decide +kernel
theorem d_Law_law_329 : decode code 329 = .ok (.aload_n 0, 1) := by decide +kernel
theorem d_Law_law_330 : decode code 330 = .ok (.iload 5, 2) := by decide +kernel
theorem d_Law_law_332 : decode code 332 = .ok (.iconst 1, 1) := by decide +kernel
theorem d_Law_law_333 : decode code 333 = .ok (.iadd, 1) := by decide +kernel
theorem d_Law_law_334 : decode code 334 = .ok (.iaload, 1) := by decide +kernel
theorem d_Law_law_335 : decode code 335 = .ok (.i2c, 1) := by decide +kernel
theorem d_Law_law_336 : decode code 336 = .ok (.aload_n 0, 1) := by decide +kernel
theorem d_Law_law_337 : decode code 337 = .ok (.iload 5, 2) := by decide +kernel
theorem d_Law_law_339 : decode code 339 = .ok (.iconst 2, 1) := by decide +kernel
theorem d_Law_law_340 : decode code 340 = .ok (.iadd, 1) := by decide +kernel
theorem d_Law_law_341 : decode code 341 = .ok (.iaload, 1) := by decide +kernel
theorem d_Law_law_342 : decode code 342 = .ok (.invokevirtual 162, 3) := by decide +kernel
theorem d_Law_law_345 : decode code 345 = .ok (.istore 7, 2) := by decide +kernel
theorem d_Law_law_347 : decode code 347 = .ok (.aload_n 2, 1) := by decide +kernel
theorem d_Law_law_348 : decode code 348 = .ok (.invokevirtual 163, 3) := by decide +kernel
theorem d_Law_law_351 : decode code 351 = .ok (.iload 6, 2) := by decide +kernel
theorem d_Law_law_353 : decode code 353 = .ok (.if_icmp .eq 5, 3) := by decide +kernel
theorem d_Law_law_356 : decode code 356 = .ok (.iconst 0, 1) := by decide +kernel
theorem d_Law_law_357 : decode code 357 = .ok (.ireturn, 1) := by decide +kernel
theorem d_Law_law_358 : decode code 358 = .ok (.iload 6, 2) := by decide +kernel
theorem d_Law_law_360 : decode code 360 = .ok (.ifCond .ne 15, 3) := by decide +kernel
theorem d_Law_law_363 : decode code 363 = .ok (.aload_n 3, 1) := by decide +kernel
theorem d_Law_law_364 : decode code 364 = .ok (.iconst 0, 1) := by decide +kernel
theorem d_Law_law_365 : decode code 365 = .ok (.laload, 1) := by decide +kernel
theorem d_Law_law_366 : decode code 366 = .ok (.iload 7, 2) := by decide +kernel
theorem d_Law_law_368 : decode code 368 = .ok (.i2l, 1) := by decide +kernel
theorem d_Law_law_369 : decode code 369 = .ok (.lcmp, 1) := by decide +kernel
theorem d_Law_law_370 : decode code 370 = .ok (.ifCond .eq 5, 3) := by decide +kernel
theorem d_Law_law_373 : decode code 373 = .ok (.iconst 0, 1) := by decide +kernel
theorem d_Law_law_374 : decode code 374 = .ok (.ireturn, 1) := by decide +kernel
theorem d_Law_law_375 : decode code 375 = .ok (.goto 2558, 3) := by decide +kernel
theorem d_Law_law_378 : decode code 378 = .ok (.aload_n 1, 1) := by decide +kernel
theorem d_Law_law_379 : decode code 379 = .ok (.aload_n 0, 1) := by decide +kernel
theorem d_Law_law_380 : decode code 380 = .ok (.iload 5, 2) := by decide +kernel
theorem d_Law_law_382 : decode code 382 = .ok (.iconst 1, 1) := by decide +kernel
theorem d_Law_law_383 : decode code 383 = .ok (.iadd, 1) := by decide +kernel
theorem d_Law_law_384 : decode code 384 = .ok (.iaload, 1) := by decide +kernel
theorem d_Law_law_385 : decode code 385 = .ok (.i2c, 1) := by decide +kernel
theorem d_Law_law_386 : decode code 386 = .ok (.aload_n 3, 1) := by decide +kernel
theorem d_Law_law_387 : decode code 387 = .ok (.invokestatic 166, 3) := by decide +kernel
theorem d_Law_law_390 : decode code 390 = .ok (.istore 6, 2) := by decide +kernel
theorem d_Law_law_392 : decode code 392 = .ok (.aload_n 2, 1) := by decide +kernel
theorem d_Law_law_393 : decode code 393 = .ok (.aload_n 0, 1) := by decide +kernel
theorem d_Law_law_394 : decode code 394 = .ok (.iload 5, 2) := by decide +kernel
theorem d_Law_law_396 : decode code 396 = .ok (.iconst 1, 1) := by decide +kernel
theorem d_Law_law_397 : decode code 397 = .ok (.iadd, 1) := by decide +kernel
theorem d_Law_law_398 : decode code 398 = .ok (.iaload, 1) := by decide +kernel
theorem d_Law_law_399 : decode code 399 = .ok (.i2c, 1) := by decide +kernel
theorem d_Law_law_400 : decode code 400 = .ok (.invokevirtual 169, 3) := by decide +kernel
theorem d_Law_law_403 : decode code 403 = .ok (.istore 7, 2) := by decide +kernel
theorem d_Law_law_405 : decode code 405 = .ok (.aload_n 2, 1) := by decide +kernel
theorem d_Law_law_406 : decode code 406 = .ok (.invokevirtual 163, 3) := by decide +kernel
theorem d_Law_law_409 : decode code 409 = .ok (.iload 6, 2) := by decide +kernel
theorem d_Law_law_411 : decode code 411 = .ok (.if_icmp .eq 5, 3) := by decide +kernel
theorem d_Law_law_414 : decode code 414 = .ok (.iconst 0, 1) := by decide +kernel
theorem d_Law_law_415 : decode code 415 = .ok (.ireturn, 1) := by decide +kernel
theorem d_Law_law_416 : decode code 416 = .ok (.iload 6, 2) := by decide +kernel
theorem d_Law_law_418 : decode code 418 = .ok (.ifCond .ne 15, 3) := by decide +kernel
theorem d_Law_law_421 : decode code 421 = .ok (.aload_n 3, 1) := by decide +kernel
theorem d_Law_law_422 : decode code 422 = .ok (.iconst 0, 1) := by decide +kernel
theorem d_Law_law_423 : decode code 423 = .ok (.laload, 1) := by decide +kernel
theorem d_Law_law_424 : decode code 424 = .ok (.iload 7, 2) := by decide +kernel
theorem d_Law_law_426 : decode code 426 = .ok (.i2l, 1) := by decide +kernel
theorem d_Law_law_427 : decode code 427 = .ok (.lcmp, 1) := by decide +kernel
theorem d_Law_law_428 : decode code 428 = .ok (.ifCond .eq 5, 3) := by decide +kernel
theorem d_Law_law_431 : decode code 431 = .ok (.iconst 0, 1) := by decide +kernel
theorem d_Law_law_432 : decode code 432 = .ok (.ireturn, 1) := by decide +kernel
theorem d_Law_law_433 : decode code 433 = .ok (.goto 2500, 3) := by decide +kernel
theorem d_Law_law_436 : decode code 436 = .ok (.aload_n 1, 1) := by decide +kernel
theorem d_Law_law_437 : decode code 437 = .ok (.invokevirtual 170, 3) := by decide +kernel
theorem d_Law_law_440 : decode code 440 = .ok (.aload_n 2, 1) := by decide +kernel
theorem d_Law_law_441 : decode code 441 = .ok (.invokevirtual 173, 3) := by decide +kernel
theorem d_Law_law_444 : decode code 444 = .ok (.if_icmp .eq 2489, 3) := by decide +kernel
theorem d_Law_law_447 : decode code 447 = .ok (.iconst 0, 1) := by decide +kernel
theorem d_Law_law_448 : decode code 448 = .ok (.ireturn, 1) := by decide +kernel
theorem d_Law_law_449 : decode code 449 = .ok (.aload_n 1, 1) := by decide +kernel
theorem d_Law_law_450 : decode code 450 = .ok (.aload_n 0, 1) := by decide +kernel
theorem d_Law_law_451 : decode code 451 = .ok (.iload 5, 2) := by decide +kernel
theorem d_Law_law_453 : decode code 453 = .ok (.iconst 1, 1) := by decide +kernel
theorem d_Law_law_454 : decode code 454 = .ok (.iadd, 1) := by decide +kernel
theorem d_Law_law_455 : decode code 455 = .ok (.iaload, 1) := by decide +kernel
theorem d_Law_law_456 : decode code 456 = .ok (.aload_n 3, 1) := by decide +kernel
theorem d_Law_law_457 : decode code 457 = .ok (.invokestatic 174, 3) := by decide +kernel
theorem d_Law_law_460 : decode code 460 = .ok (.istore 6, 2) := by decide +kernel
theorem d_Law_law_462 : decode code 462 = .ok (.aload_n 2, 1) := by decide +kernel
theorem d_Law_law_463 : decode code 463 = .ok (.aload_n 0, 1) := by decide +kernel
theorem d_Law_law_464 : decode code 464 = .ok (.iload 5, 2) := by decide +kernel
theorem d_Law_law_466 : decode code 466 = .ok (.iconst 1, 1) := by decide +kernel
theorem d_Law_law_467 : decode code 467 = .ok (.iadd, 1) := by decide +kernel
theorem d_Law_law_468 : decode code 468 = .ok (.iaload, 1) := by decide +kernel
theorem d_Law_law_469 : decode code 469 = .ok (.invokevirtual 177, 3) := by decide +kernel
theorem d_Law_law_472 : decode code 472 = .ok (.istore 7, 2) := by decide +kernel
theorem d_Law_law_474 : decode code 474 = .ok (.aload_n 2, 1) := by decide +kernel
theorem d_Law_law_475 : decode code 475 = .ok (.invokevirtual 163, 3) := by decide +kernel
theorem d_Law_law_478 : decode code 478 = .ok (.iload 6, 2) := by decide +kernel
theorem d_Law_law_480 : decode code 480 = .ok (.if_icmp .eq 5, 3) := by decide +kernel
theorem d_Law_law_483 : decode code 483 = .ok (.iconst 0, 1) := by decide +kernel
theorem d_Law_law_484 : decode code 484 = .ok (.ireturn, 1) := by decide +kernel
theorem d_Law_law_485 : decode code 485 = .ok (.iload 6, 2) := by decide +kernel
theorem d_Law_law_487 : decode code 487 = .ok (.ifCond .ne 15, 3) := by decide +kernel
theorem d_Law_law_490 : decode code 490 = .ok (.aload_n 3, 1) := by decide +kernel
theorem d_Law_law_491 : decode code 491 = .ok (.iconst 0, 1) := by decide +kernel
theorem d_Law_law_492 : decode code 492 = .ok (.laload, 1) := by decide +kernel
theorem d_Law_law_493 : decode code 493 = .ok (.iload 7, 2) := by decide +kernel
theorem d_Law_law_495 : decode code 495 = .ok (.i2l, 1) := by decide +kernel
theorem d_Law_law_496 : decode code 496 = .ok (.lcmp, 1) := by decide +kernel
theorem d_Law_law_497 : decode code 497 = .ok (.ifCond .eq 5, 3) := by decide +kernel
theorem d_Law_law_500 : decode code 500 = .ok (.iconst 0, 1) := by decide +kernel
theorem d_Law_law_501 : decode code 501 = .ok (.ireturn, 1) := by decide +kernel
theorem d_Law_law_502 : decode code 502 = .ok (.goto 2431, 3) := by decide +kernel
theorem d_Law_law_505 : decode code 505 = .ok (.aload_n 1, 1) := by decide +kernel
theorem d_Law_law_506 : decode code 506 = .ok (.aload_n 0, 1) := by decide +kernel
theorem d_Law_law_507 : decode code 507 = .ok (.iload 5, 2) := by decide +kernel
theorem d_Law_law_509 : decode code 509 = .ok (.iconst 1, 1) := by decide +kernel
theorem d_Law_law_510 : decode code 510 = .ok (.iadd, 1) := by decide +kernel
theorem d_Law_law_511 : decode code 511 = .ok (.iaload, 1) := by decide +kernel
theorem d_Law_law_512 : decode code 512 = .ok (.aload_n 3, 1) := by decide +kernel
theorem d_Law_law_513 : decode code 513 = .ok (.invokestatic 178, 3) := by decide +kernel
theorem d_Law_law_516 : decode code 516 = .ok (.istore 6, 2) := by decide +kernel
theorem d_Law_law_518 : decode code 518 = .ok (.aload_n 2, 1) := by decide +kernel
theorem d_Law_law_519 : decode code 519 = .ok (.aload_n 0, 1) := by decide +kernel
theorem d_Law_law_520 : decode code 520 = .ok (.iload 5, 2) := by decide +kernel
theorem d_Law_law_522 : decode code 522 = .ok (.iconst 1, 1) := by decide +kernel
theorem d_Law_law_523 : decode code 523 = .ok (.iadd, 1) := by decide +kernel
theorem d_Law_law_524 : decode code 524 = .ok (.iaload, 1) := by decide +kernel
theorem d_Law_law_525 : decode code 525 = .ok (.invokevirtual 180, 3) := by decide +kernel
theorem d_Law_law_528 : decode code 528 = .ok (.istore 7, 2) := by decide +kernel
theorem d_Law_law_530 : decode code 530 = .ok (.aload_n 2, 1) := by decide +kernel
theorem d_Law_law_531 : decode code 531 = .ok (.invokevirtual 163, 3) := by decide +kernel
theorem d_Law_law_534 : decode code 534 = .ok (.iload 6, 2) := by decide +kernel
theorem d_Law_law_536 : decode code 536 = .ok (.if_icmp .eq 5, 3) := by decide +kernel
theorem d_Law_law_539 : decode code 539 = .ok (.iconst 0, 1) := by decide +kernel
theorem d_Law_law_540 : decode code 540 = .ok (.ireturn, 1) := by decide +kernel
theorem d_Law_law_541 : decode code 541 = .ok (.iload 6, 2) := by decide +kernel
theorem d_Law_law_543 : decode code 543 = .ok (.ifCond .ne 15, 3) := by decide +kernel
theorem d_Law_law_546 : decode code 546 = .ok (.aload_n 3, 1) := by decide +kernel
theorem d_Law_law_547 : decode code 547 = .ok (.iconst 0, 1) := by decide +kernel
theorem d_Law_law_548 : decode code 548 = .ok (.laload, 1) := by decide +kernel
theorem d_Law_law_549 : decode code 549 = .ok (.iload 7, 2) := by decide +kernel
theorem d_Law_law_551 : decode code 551 = .ok (.i2l, 1) := by decide +kernel
theorem d_Law_law_552 : decode code 552 = .ok (.lcmp, 1) := by decide +kernel
theorem d_Law_law_553 : decode code 553 = .ok (.ifCond .eq 5, 3) := by decide +kernel
theorem d_Law_law_556 : decode code 556 = .ok (.iconst 0, 1) := by decide +kernel
theorem d_Law_law_557 : decode code 557 = .ok (.ireturn, 1) := by decide +kernel
theorem d_Law_law_558 : decode code 558 = .ok (.goto 2375, 3) := by decide +kernel
theorem d_Law_law_561 : decode code 561 = .ok (.aload_n 1, 1) := by decide +kernel
theorem d_Law_law_562 : decode code 562 = .ok (.aload_n 0, 1) := by decide +kernel
theorem d_Law_law_563 : decode code 563 = .ok (.iload 5, 2) := by decide +kernel
theorem d_Law_law_565 : decode code 565 = .ok (.iconst 1, 1) := by decide +kernel
theorem d_Law_law_566 : decode code 566 = .ok (.iadd, 1) := by decide +kernel
theorem d_Law_law_567 : decode code 567 = .ok (.iaload, 1) := by decide +kernel
theorem d_Law_law_568 : decode code 568 = .ok (.aload_n 0, 1) := by decide +kernel
theorem d_Law_law_569 : decode code 569 = .ok (.iload 5, 2) := by decide +kernel
theorem d_Law_law_571 : decode code 571 = .ok (.iconst 2, 1) := by decide +kernel
theorem d_Law_law_572 : decode code 572 = .ok (.iadd, 1) := by decide +kernel
theorem d_Law_law_573 : decode code 573 = .ok (.iaload, 1) := by decide +kernel
theorem d_Law_law_574 : decode code 574 = .ok (.aload_n 3, 1) := by decide +kernel
theorem d_Law_law_575 : decode code 575 = .ok (.invokestatic 181, 3) := by decide +kernel
theorem d_Law_law_578 : decode code 578 = .ok (.istore 6, 2) := by decide +kernel
theorem d_Law_law_580 : decode code 580 = .ok (.aload_n 2, 1) := by decide +kernel
theorem d_Law_law_581 : decode code 581 = .ok (.aload_n 0, 1) := by decide +kernel
theorem d_Law_law_582 : decode code 582 = .ok (.iload 5, 2) := by decide +kernel
theorem d_Law_law_584 : decode code 584 = .ok (.iconst 1, 1) := by decide +kernel
theorem d_Law_law_585 : decode code 585 = .ok (.iadd, 1) := by decide +kernel
theorem d_Law_law_586 : decode code 586 = .ok (.iaload, 1) := by decide +kernel
theorem d_Law_law_587 : decode code 587 = .ok (.aload_n 0, 1) := by decide +kernel
