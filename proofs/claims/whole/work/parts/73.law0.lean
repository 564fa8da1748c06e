/-! THE LAW: its instructions (by program, wip/gen/gen_l0.py) -/
theorem i0_0 : am_ins 0 0 = some (.new 8) := by decide +kernel
theorem i0_3 : am_ins 0 3 = some (.dup) := by decide +kernel
theorem i0_4 : am_ins 0 4 = some (.invokespecial 173) := by decide +kernel
theorem i0_7 : am_ins 0 7 = some (.astore_n 1) := by decide +kernel
theorem i0_8 : am_ins 0 8 = some (.new 174) := by decide +kernel
theorem i0_11 : am_ins 0 11 = some (.dup) := by decide +kernel
theorem i0_12 : am_ins 0 12 = some (.invokespecial 176) := by decide +kernel
theorem i0_15 : am_ins 0 15 = some (.astore_n 2) := by decide +kernel
theorem i0_16 : am_ins 0 16 = some (.iconst 1) := by decide +kernel
theorem i0_17 : am_ins 0 17 = some (.newarray .long) := by decide +kernel
theorem i0_19 : am_ins 0 19 = some (.astore_n 3) := by decide +kernel
theorem i0_20 : am_ins 0 20 = some (.iconst 1) := by decide +kernel
theorem i0_21 : am_ins 0 21 = some (.newarray .double) := by decide +kernel
theorem i0_23 : am_ins 0 23 = some (.astore 4) := by decide +kernel
theorem i0_25 : am_ins 0 25 = some (.iconst 0) := by decide +kernel
theorem i0_26 : am_ins 0 26 = some (.istore 5) := by decide +kernel
theorem i0_28 : am_ins 0 28 = some (.iload 5) := by decide +kernel
theorem i0_30 : am_ins 0 30 = some (.aload_n 0) := by decide +kernel
theorem i0_31 : am_ins 0 31 = some (.arraylength) := by decide +kernel
theorem i0_32 : am_ins 0 32 = some (.bipush 6) := by decide +kernel
theorem i0_34 : am_ins 0 34 = some (.isub) := by decide +kernel
theorem i0_35 : am_ins 0 35 = some (.if_icmp .gt 3300) := by decide +kernel
theorem i0_38 : am_ins 0 38 = some (.aload_n 0) := by decide +kernel
theorem i0_39 : am_ins 0 39 = some (.iload 5) := by decide +kernel
theorem i0_41 : am_ins 0 41 = some (.iaload) := by decide +kernel
theorem i0_42 : am_ins 0 42 = some (.bipush 63) := by decide +kernel
theorem i0_44 : am_ins 0 44 = some (.iand) := by decide +kernel
theorem i0_45 : am_ins 0 45 = some (.tableswitch 3284 0 56 #[243, 316, 372, 385, 398, 411, 424, 480, 564, 632, 700, 756, 824, 880, 924, 980, 1036, 1104, 1172, 1216, 1260, 1304, 1348, 1392, 1467, 1535, 1591, 1635, 1691, 1747, 1803, 1859, 1927, 1971, 2027, 2071, 2127, 2183, 2248, 2314, 2327, 2395, 2439, 2495, 2551, 2619, 2687, 2743, 2787, 2843, 2935, 2991, 3047, 3115, 3159, 3172, 3228]) := by decide +kernel
theorem i0_288 : am_ins 0 288 = some (.aload_n 1) := by decide +kernel
theorem i0_289 : am_ins 0 289 = some (.aload_n 0) := by decide +kernel
theorem i0_290 : am_ins 0 290 = some (.iload 5) := by decide +kernel
theorem i0_292 : am_ins 0 292 = some (.iconst 1) := by decide +kernel
theorem i0_293 : am_ins 0 293 = some (.iadd) := by decide +kernel
theorem i0_294 : am_ins 0 294 = some (.iaload) := by decide +kernel
theorem i0_295 : am_ins 0 295 = some (.aload_n 0) := by decide +kernel
theorem i0_296 : am_ins 0 296 = some (.iload 5) := by decide +kernel
theorem i0_298 : am_ins 0 298 = some (.iconst 2) := by decide +kernel
theorem i0_299 : am_ins 0 299 = some (.iadd) := by decide +kernel
theorem i0_300 : am_ins 0 300 = some (.iaload) := by decide +kernel
theorem i0_301 : am_ins 0 301 = some (.aload_n 0) := by decide +kernel
theorem i0_302 : am_ins 0 302 = some (.iload 5) := by decide +kernel
theorem i0_304 : am_ins 0 304 = some (.iconst 3) := by decide +kernel
theorem i0_305 : am_ins 0 305 = some (.iadd) := by decide +kernel
theorem i0_306 : am_ins 0 306 = some (.iaload) := by decide +kernel
theorem i0_307 : am_ins 0 307 = some (.aload_n 0) := by decide +kernel
theorem i0_308 : am_ins 0 308 = some (.iload 5) := by decide +kernel
theorem i0_310 : am_ins 0 310 = some (.iconst 4) := by decide +kernel
theorem i0_311 : am_ins 0 311 = some (.iadd) := by decide +kernel
theorem i0_312 : am_ins 0 312 = some (.iaload) := by decide +kernel
theorem i0_313 : am_ins 0 313 = some (.aload_n 0) := by decide +kernel
theorem i0_314 : am_ins 0 314 = some (.iload 5) := by decide +kernel
theorem i0_316 : am_ins 0 316 = some (.iconst 5) := by decide +kernel
theorem i0_317 : am_ins 0 317 = some (.iadd) := by decide +kernel
theorem i0_318 : am_ins 0 318 = some (.iaload) := by decide +kernel
theorem i0_319 : am_ins 0 319 = some (.invokevirtual 177) := by decide +kernel
theorem i0_322 : am_ins 0 322 = some (.aload_n 2) := by decide +kernel
theorem i0_323 : am_ins 0 323 = some (.aload_n 0) := by decide +kernel
theorem i0_324 : am_ins 0 324 = some (.iload 5) := by decide +kernel
theorem i0_326 : am_ins 0 326 = some (.iconst 1) := by decide +kernel
theorem i0_327 : am_ins 0 327 = some (.iadd) := by decide +kernel
theorem i0_328 : am_ins 0 328 = some (.iaload) := by decide +kernel
theorem i0_329 : am_ins 0 329 = some (.aload_n 0) := by decide +kernel
theorem i0_330 : am_ins 0 330 = some (.iload 5) := by decide +kernel
theorem i0_332 : am_ins 0 332 = some (.iconst 2) := by decide +kernel
theorem i0_333 : am_ins 0 333 = some (.iadd) := by decide +kernel
theorem i0_334 : am_ins 0 334 = some (.iaload) := by decide +kernel
theorem i0_335 : am_ins 0 335 = some (.aload_n 0) := by decide +kernel
theorem i0_336 : am_ins 0 336 = some (.iload 5) := by decide +kernel
theorem i0_338 : am_ins 0 338 = some (.iconst 3) := by decide +kernel
theorem i0_339 : am_ins 0 339 = some (.iadd) := by decide +kernel
theorem i0_340 : am_ins 0 340 = some (.iaload) := by decide +kernel
theorem i0_341 : am_ins 0 341 = some (.aload_n 0) := by decide +kernel
theorem i0_342 : am_ins 0 342 = some (.iload 5) := by decide +kernel
theorem i0_344 : am_ins 0 344 = some (.iconst 4) := by decide +kernel
theorem i0_345 : am_ins 0 345 = some (.iadd) := by decide +kernel
theorem i0_346 : am_ins 0 346 = some (.iaload) := by decide +kernel
theorem i0_347 : am_ins 0 347 = some (.aload_n 0) := by decide +kernel
theorem i0_348 : am_ins 0 348 = some (.iload 5) := by decide +kernel
theorem i0_350 : am_ins 0 350 = some (.iconst 5) := by decide +kernel
theorem i0_351 : am_ins 0 351 = some (.iadd) := by decide +kernel
theorem i0_352 : am_ins 0 352 = some (.iaload) := by decide +kernel
theorem i0_353 : am_ins 0 353 = some (.invokevirtual 181) := by decide +kernel
theorem i0_356 : am_ins 0 356 = some (.if_icmp .eq 2973) := by decide +kernel
theorem i0_359 : am_ins 0 359 = some (.iconst 0) := by decide +kernel
theorem i0_360 : am_ins 0 360 = some (.ireturn) := by decide +kernel
theorem i0_361 : am_ins 0 361 = some (.aload_n 1) := by decide +kernel
theorem i0_362 : am_ins 0 362 = some (.aload_n 0) := by decide +kernel
theorem i0_363 : am_ins 0 363 = some (.iload 5) := by decide +kernel
theorem i0_365 : am_ins 0 365 = some (.iconst 1) := by decide +kernel
theorem i0_366 : am_ins 0 366 = some (.iadd) := by decide +kernel
theorem i0_367 : am_ins 0 367 = some (.iaload) := by decide +kernel
theorem i0_368 : am_ins 0 368 = some (.aload_n 3) := by decide +kernel
theorem i0_369 : am_ins 0 369 = some (.invokestatic 182) := by decide +kernel
theorem i0_372 : am_ins 0 372 = some (.istore 6) := by decide +kernel
theorem i0_374 : am_ins 0 374 = some (.aload_n 2) := by decide +kernel
theorem i0_375 : am_ins 0 375 = some (.aload_n 0) := by decide +kernel
theorem i0_376 : am_ins 0 376 = some (.iload 5) := by decide +kernel
theorem i0_378 : am_ins 0 378 = some (.iconst 1) := by decide +kernel
theorem i0_379 : am_ins 0 379 = some (.iadd) := by decide +kernel
theorem i0_380 : am_ins 0 380 = some (.iaload) := by decide +kernel
theorem i0_381 : am_ins 0 381 = some (.invokevirtual 187) := by decide +kernel
theorem i0_384 : am_ins 0 384 = some (.istore 7) := by decide +kernel
theorem i0_386 : am_ins 0 386 = some (.aload_n 2) := by decide +kernel
theorem i0_387 : am_ins 0 387 = some (.invokevirtual 188) := by decide +kernel
theorem i0_390 : am_ins 0 390 = some (.iload 6) := by decide +kernel
theorem i0_392 : am_ins 0 392 = some (.if_icmp .eq 5) := by decide +kernel
theorem i0_395 : am_ins 0 395 = some (.iconst 0) := by decide +kernel
theorem i0_396 : am_ins 0 396 = some (.ireturn) := by decide +kernel
theorem i0_397 : am_ins 0 397 = some (.iload 6) := by decide +kernel
theorem i0_399 : am_ins 0 399 = some (.ifCond .ne 15) := by decide +kernel
theorem i0_402 : am_ins 0 402 = some (.aload_n 3) := by decide +kernel
theorem i0_403 : am_ins 0 403 = some (.iconst 0) := by decide +kernel
theorem i0_404 : am_ins 0 404 = some (.laload) := by decide +kernel
theorem i0_405 : am_ins 0 405 = some (.iload 7) := by decide +kernel
theorem i0_407 : am_ins 0 407 = some (.i2l) := by decide +kernel
theorem i0_408 : am_ins 0 408 = some (.lcmp) := by decide +kernel
theorem i0_409 : am_ins 0 409 = some (.ifCond .eq 5) := by decide +kernel
theorem i0_412 : am_ins 0 412 = some (.iconst 0) := by decide +kernel
theorem i0_413 : am_ins 0 413 = some (.ireturn) := by decide +kernel
theorem i0_414 : am_ins 0 414 = some (.goto 2915) := by decide +kernel
theorem i0_417 : am_ins 0 417 = some (.aload_n 1) := by decide +kernel
theorem i0_418 : am_ins 0 418 = some (.invokevirtual 191) := by decide +kernel
theorem i0_421 : am_ins 0 421 = some (.aload_n 2) := by decide +kernel
theorem i0_422 : am_ins 0 422 = some (.invokevirtual 194) := by decide +kernel
theorem i0_425 : am_ins 0 425 = some (.if_icmp .eq 2904) := by decide +kernel
theorem i0_428 : am_ins 0 428 = some (.iconst 0) := by decide +kernel
theorem i0_429 : am_ins 0 429 = some (.ireturn) := by decide +kernel
theorem i0_430 : am_ins 0 430 = some (.aload_n 1) := by decide +kernel
theorem i0_431 : am_ins 0 431 = some (.invokevirtual 195) := by decide +kernel
theorem i0_434 : am_ins 0 434 = some (.aload_n 2) := by decide +kernel
theorem i0_435 : am_ins 0 435 = some (.invokevirtual 198) := by decide +kernel
theorem i0_438 : am_ins 0 438 = some (.if_icmp .eq 2891) := by decide +kernel
theorem i0_441 : am_ins 0 441 = some (.iconst 0) := by decide +kernel
theorem i0_442 : am_ins 0 442 = some (.ireturn) := by decide +kernel
theorem i0_443 : am_ins 0 443 = some (.aload_n 1) := by decide +kernel
theorem i0_444 : am_ins 0 444 = some (.invokevirtual 199) := by decide +kernel
theorem i0_447 : am_ins 0 447 = some (.aload_n 2) := by decide +kernel
theorem i0_448 : am_ins 0 448 = some (.invokevirtual 202) := by decide +kernel
theorem i0_451 : am_ins 0 451 = some (.if_icmp .eq 2878) := by decide +kernel
theorem i0_454 : am_ins 0 454 = some (.iconst 0) := by decide +kernel
theorem i0_455 : am_ins 0 455 = some (.ireturn) := by decide +kernel
theorem i0_456 : am_ins 0 456 = some (.aload_n 1) := by decide +kernel
theorem i0_457 : am_ins 0 457 = some (.invokevirtual 203) := by decide +kernel
theorem i0_460 : am_ins 0 460 = some (.aload_n 2) := by decide +kernel
theorem i0_461 : am_ins 0 461 = some (.invokevirtual 206) := by decide +kernel
theorem i0_464 : am_ins 0 464 = some (.if_icmp .eq 2865) := by decide +kernel
theorem i0_467 : am_ins 0 467 = some (.iconst 0) := by decide +kernel
theorem i0_468 : am_ins 0 468 = some (.ireturn) := by decide +kernel
theorem i0_469 : am_ins 0 469 = some (.aload_n 1) := by decide +kernel
theorem i0_470 : am_ins 0 470 = some (.aload_n 0) := by decide +kernel
theorem i0_471 : am_ins 0 471 = some (.iload 5) := by decide +kernel
theorem i0_473 : am_ins 0 473 = some (.iconst 1) := by decide +kernel
theorem i0_474 : am_ins 0 474 = some (.iadd) := by decide +kernel
theorem i0_475 : am_ins 0 475 = some (.iaload) := by decide +kernel
theorem i0_476 : am_ins 0 476 = some (.aload_n 3) := by decide +kernel
theorem i0_477 : am_ins 0 477 = some (.invokestatic 207) := by decide +kernel
theorem i0_480 : am_ins 0 480 = some (.istore 6) := by decide +kernel
theorem i0_482 : am_ins 0 482 = some (.aload_n 2) := by decide +kernel
theorem i0_483 : am_ins 0 483 = some (.aload_n 0) := by decide +kernel
theorem i0_484 : am_ins 0 484 = some (.iload 5) := by decide +kernel
theorem i0_486 : am_ins 0 486 = some (.iconst 1) := by decide +kernel
theorem i0_487 : am_ins 0 487 = some (.iadd) := by decide +kernel
theorem i0_488 : am_ins 0 488 = some (.iaload) := by decide +kernel
theorem i0_489 : am_ins 0 489 = some (.invokevirtual 209) := by decide +kernel
theorem i0_492 : am_ins 0 492 = some (.istore 7) := by decide +kernel
theorem i0_494 : am_ins 0 494 = some (.aload_n 2) := by decide +kernel
theorem i0_495 : am_ins 0 495 = some (.invokevirtual 188) := by decide +kernel
theorem i0_498 : am_ins 0 498 = some (.iload 6) := by decide +kernel
theorem i0_500 : am_ins 0 500 = some (.if_icmp .eq 5) := by decide +kernel
theorem i0_503 : am_ins 0 503 = some (.iconst 0) := by decide +kernel
theorem i0_504 : am_ins 0 504 = some (.ireturn) := by decide +kernel
theorem i0_505 : am_ins 0 505 = some (.iload 6) := by decide +kernel
theorem i0_507 : am_ins 0 507 = some (.ifCond .ne 15) := by decide +kernel
theorem i0_510 : am_ins 0 510 = some (.aload_n 3) := by decide +kernel
theorem i0_511 : am_ins 0 511 = some (.iconst 0) := by decide +kernel
theorem i0_512 : am_ins 0 512 = some (.laload) := by decide +kernel
theorem i0_513 : am_ins 0 513 = some (.iload 7) := by decide +kernel
theorem i0_515 : am_ins 0 515 = some (.i2l) := by decide +kernel
theorem i0_516 : am_ins 0 516 = some (.lcmp) := by decide +kernel
theorem i0_517 : am_ins 0 517 = some (.ifCond .eq 5) := by decide +kernel
theorem i0_520 : am_ins 0 520 = some (.iconst 0) := by decide +kernel
theorem i0_521 : am_ins 0 521 = some (.ireturn) := by decide +kernel
theorem i0_522 : am_ins 0 522 = some (.goto 2807) := by decide +kernel
theorem i0_525 : am_ins 0 525 = some (.aload_n 1) := by decide +kernel
theorem i0_526 : am_ins 0 526 = some (.aload_n 0) := by decide +kernel
theorem i0_527 : am_ins 0 527 = some (.iload 5) := by decide +kernel
theorem i0_529 : am_ins 0 529 = some (.iconst 1) := by decide +kernel
theorem i0_530 : am_ins 0 530 = some (.iadd) := by decide +kernel
theorem i0_531 : am_ins 0 531 = some (.iaload) := by decide +kernel
theorem i0_532 : am_ins 0 532 = some (.aload_n 0) := by decide +kernel
theorem i0_533 : am_ins 0 533 = some (.iload 5) := by decide +kernel
theorem i0_535 : am_ins 0 535 = some (.iconst 2) := by decide +kernel
theorem i0_536 : am_ins 0 536 = some (.iadd) := by decide +kernel
theorem i0_537 : am_ins 0 537 = some (.iaload) := by decide +kernel
theorem i0_538 : am_ins 0 538 = some (.ifCond .eq 7) := by decide +kernel
theorem i0_541 : am_ins 0 541 = some (.iconst 1) := by decide +kernel
theorem i0_542 : am_ins 0 542 = some (.goto 4) := by decide +kernel
theorem i0_545 : am_ins 0 545 = some (.iconst 0) := by decide +kernel
theorem i0_546 : am_ins 0 546 = some (.aload_n 3) := by decide +kernel
theorem i0_547 : am_ins 0 547 = some (.invokestatic 210) := by decide +kernel
theorem i0_550 : am_ins 0 550 = some (.istore 6) := by decide +kernel
theorem i0_552 : am_ins 0 552 = some (.aload_n 2) := by decide +kernel
theorem i0_553 : am_ins 0 553 = some (.aload_n 0) := by decide +kernel
theorem i0_554 : am_ins 0 554 = some (.iload 5) := by decide +kernel
theorem i0_556 : am_ins 0 556 = some (.iconst 1) := by decide +kernel
theorem i0_557 : am_ins 0 557 = some (.iadd) := by decide +kernel
theorem i0_558 : am_ins 0 558 = some (.iaload) := by decide +kernel
theorem i0_559 : am_ins 0 559 = some (.aload_n 0) := by decide +kernel
theorem i0_560 : am_ins 0 560 = some (.iload 5) := by decide +kernel
theorem i0_562 : am_ins 0 562 = some (.iconst 2) := by decide +kernel
theorem i0_563 : am_ins 0 563 = some (.iadd) := by decide +kernel
theorem i0_564 : am_ins 0 564 = some (.iaload) := by decide +kernel
theorem i0_565 : am_ins 0 565 = some (.ifCond .eq 7) := by decide +kernel
theorem i0_568 : am_ins 0 568 = some (.iconst 1) := by decide +kernel
theorem i0_569 : am_ins 0 569 = some (.goto 4) := by decide +kernel
theorem i0_572 : am_ins 0 572 = some (.iconst 0) := by decide +kernel
theorem i0_573 : am_ins 0 573 = some (.invokevirtual 213) := by decide +kernel
theorem i0_576 : am_ins 0 576 = some (.istore 7) := by decide +kernel
theorem i0_578 : am_ins 0 578 = some (.aload_n 2) := by decide +kernel
theorem i0_579 : am_ins 0 579 = some (.invokevirtual 188) := by decide +kernel
theorem i0_582 : am_ins 0 582 = some (.iload 6) := by decide +kernel
theorem i0_584 : am_ins 0 584 = some (.if_icmp .eq 5) := by decide +kernel
theorem i0_587 : am_ins 0 587 = some (.iconst 0) := by decide +kernel
theorem i0_588 : am_ins 0 588 = some (.ireturn) := by decide +kernel
theorem i0_589 : am_ins 0 589 = some (.iload 6) := by decide +kernel
theorem i0_591 : am_ins 0 591 = some (.ifCond .ne 15) := by decide +kernel
theorem i0_594 : am_ins 0 594 = some (.aload_n 3) := by decide +kernel
theorem i0_595 : am_ins 0 595 = some (.iconst 0) := by decide +kernel
theorem i0_596 : am_ins 0 596 = some (.laload) := by decide +kernel
theorem i0_597 : am_ins 0 597 = some (.iload 7) := by decide +kernel
theorem i0_599 : am_ins 0 599 = some (.i2l) := by decide +kernel
theorem i0_600 : am_ins 0 600 = some (.lcmp) := by decide +kernel
theorem i0_601 : am_ins 0 601 = some (.ifCond .eq 5) := by decide +kernel
theorem i0_604 : am_ins 0 604 = some (.iconst 0) := by decide +kernel
theorem i0_605 : am_ins 0 605 = some (.ireturn) := by decide +kernel
theorem i0_606 : am_ins 0 606 = some (.goto 2723) := by decide +kernel
theorem i0_609 : am_ins 0 609 = some (.aload_n 1) := by decide +kernel
theorem i0_610 : am_ins 0 610 = some (.aload_n 0) := by decide +kernel
theorem i0_611 : am_ins 0 611 = some (.iload 5) := by decide +kernel
theorem i0_613 : am_ins 0 613 = some (.iconst 1) := by decide +kernel
theorem i0_614 : am_ins 0 614 = some (.iadd) := by decide +kernel
theorem i0_615 : am_ins 0 615 = some (.iaload) := by decide +kernel
theorem i0_616 : am_ins 0 616 = some (.aload_n 0) := by decide +kernel
theorem i0_617 : am_ins 0 617 = some (.iload 5) := by decide +kernel
theorem i0_619 : am_ins 0 619 = some (.iconst 2) := by decide +kernel
theorem i0_620 : am_ins 0 620 = some (.iadd) := by decide +kernel
theorem i0_621 : am_ins 0 621 = some (.iaload) := by decide +kernel
theorem i0_622 : am_ins 0 622 = some (.aload_n 3) := by decide +kernel
theorem i0_623 : am_ins 0 623 = some (.invokestatic 214) := by decide +kernel
theorem i0_626 : am_ins 0 626 = some (.istore 6) := by decide +kernel
theorem i0_628 : am_ins 0 628 = some (.aload_n 2) := by decide +kernel
theorem i0_629 : am_ins 0 629 = some (.aload_n 0) := by decide +kernel
theorem i0_630 : am_ins 0 630 = some (.iload 5) := by decide +kernel
theorem i0_632 : am_ins 0 632 = some (.iconst 1) := by decide +kernel
theorem i0_633 : am_ins 0 633 = some (.iadd) := by decide +kernel
theorem i0_634 : am_ins 0 634 = some (.iaload) := by decide +kernel
theorem i0_635 : am_ins 0 635 = some (.aload_n 0) := by decide +kernel
theorem i0_636 : am_ins 0 636 = some (.iload 5) := by decide +kernel
theorem i0_638 : am_ins 0 638 = some (.iconst 2) := by decide +kernel
theorem i0_639 : am_ins 0 639 = some (.iadd) := by decide +kernel
theorem i0_640 : am_ins 0 640 = some (.iaload) := by decide +kernel
theorem i0_641 : am_ins 0 641 = some (.invokevirtual 217) := by decide +kernel
theorem i0_644 : am_ins 0 644 = some (.istore 7) := by decide +kernel
theorem i0_646 : am_ins 0 646 = some (.aload_n 2) := by decide +kernel
theorem i0_647 : am_ins 0 647 = some (.invokevirtual 188) := by decide +kernel
theorem i0_650 : am_ins 0 650 = some (.iload 6) := by decide +kernel
theorem i0_652 : am_ins 0 652 = some (.if_icmp .eq 5) := by decide +kernel
theorem i0_655 : am_ins 0 655 = some (.iconst 0) := by decide +kernel
theorem i0_656 : am_ins 0 656 = some (.ireturn) := by decide +kernel
theorem i0_657 : am_ins 0 657 = some (.iload 6) := by decide +kernel
theorem i0_659 : am_ins 0 659 = some (.ifCond .ne 15) := by decide +kernel
theorem i0_662 : am_ins 0 662 = some (.aload_n 3) := by decide +kernel
theorem i0_663 : am_ins 0 663 = some (.iconst 0) := by decide +kernel
theorem i0_664 : am_ins 0 664 = some (.laload) := by decide +kernel
theorem i0_665 : am_ins 0 665 = some (.iload 7) := by decide +kernel
theorem i0_667 : am_ins 0 667 = some (.i2l) := by decide +kernel
theorem i0_668 : am_ins 0 668 = some (.lcmp) := by decide +kernel
theorem i0_669 : am_ins 0 669 = some (.ifCond .eq 5) := by decide +kernel
theorem i0_672 : am_ins 0 672 = some (.iconst 0) := by decide +kernel
theorem i0_673 : am_ins 0 673 = some (.ireturn) := by decide +kernel
theorem i0_674 : am_ins 0 674 = some (.goto 2655) := by decide +kernel
theorem i0_677 : am_ins 0 677 = some (.aload_n 1) := by decide +kernel
theorem i0_678 : am_ins 0 678 = some (.aload_n 0) := by decide +kernel
theorem i0_679 : am_ins 0 679 = some (.iload 5) := by decide +kernel
theorem i0_681 : am_ins 0 681 = some (.iconst 1) := by decide +kernel
theorem i0_682 : am_ins 0 682 = some (.iadd) := by decide +kernel
theorem i0_683 : am_ins 0 683 = some (.iaload) := by decide +kernel
theorem i0_684 : am_ins 0 684 = some (.aload_n 0) := by decide +kernel
theorem i0_685 : am_ins 0 685 = some (.iload 5) := by decide +kernel
theorem i0_687 : am_ins 0 687 = some (.iconst 2) := by decide +kernel
theorem i0_688 : am_ins 0 688 = some (.iadd) := by decide +kernel
theorem i0_689 : am_ins 0 689 = some (.iaload) := by decide +kernel
theorem i0_690 : am_ins 0 690 = some (.aload_n 3) := by decide +kernel
theorem i0_691 : am_ins 0 691 = some (.invokestatic 218) := by decide +kernel
theorem i0_694 : am_ins 0 694 = some (.istore 6) := by decide +kernel
theorem i0_696 : am_ins 0 696 = some (.aload_n 2) := by decide +kernel
theorem i0_697 : am_ins 0 697 = some (.aload_n 0) := by decide +kernel
theorem i0_698 : am_ins 0 698 = some (.iload 5) := by decide +kernel
theorem i0_700 : am_ins 0 700 = some (.iconst 1) := by decide +kernel
theorem i0_701 : am_ins 0 701 = some (.iadd) := by decide +kernel
theorem i0_702 : am_ins 0 702 = some (.iaload) := by decide +kernel
theorem i0_703 : am_ins 0 703 = some (.aload_n 0) := by decide +kernel
theorem i0_704 : am_ins 0 704 = some (.iload 5) := by decide +kernel
theorem i0_706 : am_ins 0 706 = some (.iconst 2) := by decide +kernel
theorem i0_707 : am_ins 0 707 = some (.iadd) := by decide +kernel
theorem i0_708 : am_ins 0 708 = some (.iaload) := by decide +kernel
theorem i0_709 : am_ins 0 709 = some (.invokevirtual 220) := by decide +kernel
theorem i0_712 : am_ins 0 712 = some (.istore 7) := by decide +kernel
theorem i0_714 : am_ins 0 714 = some (.aload_n 2) := by decide +kernel
theorem i0_715 : am_ins 0 715 = some (.invokevirtual 188) := by decide +kernel
theorem i0_718 : am_ins 0 718 = some (.iload 6) := by decide +kernel
theorem i0_720 : am_ins 0 720 = some (.if_icmp .eq 5) := by decide +kernel
theorem i0_723 : am_ins 0 723 = some (.iconst 0) := by decide +kernel
theorem i0_724 : am_ins 0 724 = some (.ireturn) := by decide +kernel
theorem i0_725 : am_ins 0 725 = some (.iload 6) := by decide +kernel
theorem i0_727 : am_ins 0 727 = some (.ifCond .ne 15) := by decide +kernel
theorem i0_730 : am_ins 0 730 = some (.aload_n 3) := by decide +kernel
theorem i0_731 : am_ins 0 731 = some (.iconst 0) := by decide +kernel
theorem i0_732 : am_ins 0 732 = some (.laload) := by decide +kernel
theorem i0_733 : am_ins 0 733 = some (.iload 7) := by decide +kernel
theorem i0_735 : am_ins 0 735 = some (.i2l) := by decide +kernel
theorem i0_736 : am_ins 0 736 = some (.lcmp) := by decide +kernel
theorem i0_737 : am_ins 0 737 = some (.ifCond .eq 5) := by decide +kernel
theorem i0_740 : am_ins 0 740 = some (.iconst 0) := by decide +kernel
theorem i0_741 : am_ins 0 741 = some (.ireturn) := by decide +kernel
theorem i0_742 : am_ins 0 742 = some (.goto 2587) := by decide +kernel
theorem i0_745 : am_ins 0 745 = some (.aload_n 1) := by decide +kernel
theorem i0_746 : am_ins 0 746 = some (.aload_n 0) := by decide +kernel
theorem i0_747 : am_ins 0 747 = some (.iload 5) := by decide +kernel
theorem i0_749 : am_ins 0 749 = some (.iconst 1) := by decide +kernel
theorem i0_750 : am_ins 0 750 = some (.iadd) := by decide +kernel
theorem i0_751 : am_ins 0 751 = some (.iaload) := by decide +kernel
theorem i0_752 : am_ins 0 752 = some (.aload_n 3) := by decide +kernel
theorem i0_753 : am_ins 0 753 = some (.invokestatic 221) := by decide +kernel
theorem i0_756 : am_ins 0 756 = some (.istore 6) := by decide +kernel
theorem i0_758 : am_ins 0 758 = some (.aload_n 2) := by decide +kernel
theorem i0_759 : am_ins 0 759 = some (.aload_n 0) := by decide +kernel
theorem i0_760 : am_ins 0 760 = some (.iload 5) := by decide +kernel
theorem i0_762 : am_ins 0 762 = some (.iconst 1) := by decide +kernel
theorem i0_763 : am_ins 0 763 = some (.iadd) := by decide +kernel
theorem i0_764 : am_ins 0 764 = some (.iaload) := by decide +kernel
theorem i0_765 : am_ins 0 765 = some (.invokevirtual 223) := by decide +kernel
theorem i0_768 : am_ins 0 768 = some (.istore 7) := by decide +kernel
theorem i0_770 : am_ins 0 770 = some (.aload_n 2) := by decide +kernel
theorem i0_771 : am_ins 0 771 = some (.invokevirtual 188) := by decide +kernel
theorem i0_774 : am_ins 0 774 = some (.iload 6) := by decide +kernel
theorem i0_776 : am_ins 0 776 = some (.if_icmp .eq 5) := by decide +kernel
theorem i0_779 : am_ins 0 779 = some (.iconst 0) := by decide +kernel
theorem i0_780 : am_ins 0 780 = some (.ireturn) := by decide +kernel
theorem i0_781 : am_ins 0 781 = some (.iload 6) := by decide +kernel
theorem i0_783 : am_ins 0 783 = some (.ifCond .ne 15) := by decide +kernel
theorem i0_786 : am_ins 0 786 = some (.aload_n 3) := by decide +kernel
theorem i0_787 : am_ins 0 787 = some (.iconst 0) := by decide +kernel
theorem i0_788 : am_ins 0 788 = some (.laload) := by decide +kernel
theorem i0_789 : am_ins 0 789 = some (.iload 7) := by decide +kernel
theorem i0_791 : am_ins 0 791 = some (.i2l) := by decide +kernel
theorem i0_792 : am_ins 0 792 = some (.lcmp) := by decide +kernel
theorem i0_793 : am_ins 0 793 = some (.ifCond .eq 5) := by decide +kernel
theorem i0_796 : am_ins 0 796 = some (.iconst 0) := by decide +kernel
theorem i0_797 : am_ins 0 797 = some (.ireturn) := by decide +kernel
theorem i0_798 : am_ins 0 798 = some (.goto 2531) := by decide +kernel
theorem i0_801 : am_ins 0 801 = some (.aload_n 1) := by decide +kernel
theorem i0_802 : am_ins 0 802 = some (.aload_n 0) := by decide +kernel
theorem i0_803 : am_ins 0 803 = some (.iload 5) := by decide +kernel
theorem i0_805 : am_ins 0 805 = some (.iconst 1) := by decide +kernel
theorem i0_806 : am_ins 0 806 = some (.iadd) := by decide +kernel
theorem i0_807 : am_ins 0 807 = some (.iaload) := by decide +kernel
theorem i0_808 : am_ins 0 808 = some (.aload_n 0) := by decide +kernel
theorem i0_809 : am_ins 0 809 = some (.iload 5) := by decide +kernel
theorem i0_811 : am_ins 0 811 = some (.iconst 2) := by decide +kernel
theorem i0_812 : am_ins 0 812 = some (.iadd) := by decide +kernel
theorem i0_813 : am_ins 0 813 = some (.iaload) := by decide +kernel
theorem i0_814 : am_ins 0 814 = some (.aload_n 3) := by decide +kernel
theorem i0_815 : am_ins 0 815 = some (.invokestatic 224) := by decide +kernel
theorem i0_818 : am_ins 0 818 = some (.istore 6) := by decide +kernel
theorem i0_820 : am_ins 0 820 = some (.aload_n 2) := by decide +kernel
theorem i0_821 : am_ins 0 821 = some (.aload_n 0) := by decide +kernel
theorem i0_822 : am_ins 0 822 = some (.iload 5) := by decide +kernel
theorem i0_824 : am_ins 0 824 = some (.iconst 1) := by decide +kernel
theorem i0_825 : am_ins 0 825 = some (.iadd) := by decide +kernel
theorem i0_826 : am_ins 0 826 = some (.iaload) := by decide +kernel
theorem i0_827 : am_ins 0 827 = some (.aload_n 0) := by decide +kernel
theorem i0_828 : am_ins 0 828 = some (.iload 5) := by decide +kernel
theorem i0_830 : am_ins 0 830 = some (.iconst 2) := by decide +kernel
theorem i0_831 : am_ins 0 831 = some (.iadd) := by decide +kernel
theorem i0_832 : am_ins 0 832 = some (.iaload) := by decide +kernel
theorem i0_833 : am_ins 0 833 = some (.invokevirtual 226) := by decide +kernel
theorem i0_836 : am_ins 0 836 = some (.istore 7) := by decide +kernel
theorem i0_838 : am_ins 0 838 = some (.aload_n 2) := by decide +kernel
theorem i0_839 : am_ins 0 839 = some (.invokevirtual 188) := by decide +kernel
theorem i0_842 : am_ins 0 842 = some (.iload 6) := by decide +kernel
theorem i0_844 : am_ins 0 844 = some (.if_icmp .eq 5) := by decide +kernel
theorem i0_847 : am_ins 0 847 = some (.iconst 0) := by decide +kernel
theorem i0_848 : am_ins 0 848 = some (.ireturn) := by decide +kernel
theorem i0_849 : am_ins 0 849 = some (.iload 6) := by decide +kernel
theorem i0_851 : am_ins 0 851 = some (.ifCond .ne 15) := by decide +kernel
theorem i0_854 : am_ins 0 854 = some (.aload_n 3) := by decide +kernel
theorem i0_855 : am_ins 0 855 = some (.iconst 0) := by decide +kernel
theorem i0_856 : am_ins 0 856 = some (.laload) := by decide +kernel
theorem i0_857 : am_ins 0 857 = some (.iload 7) := by decide +kernel
theorem i0_859 : am_ins 0 859 = some (.i2l) := by decide +kernel
theorem i0_860 : am_ins 0 860 = some (.lcmp) := by decide +kernel
theorem i0_861 : am_ins 0 861 = some (.ifCond .eq 5) := by decide +kernel
theorem i0_864 : am_ins 0 864 = some (.iconst 0) := by decide +kernel
theorem i0_865 : am_ins 0 865 = some (.ireturn) := by decide +kernel
theorem i0_866 : am_ins 0 866 = some (.goto 2463) := by decide +kernel
theorem i0_869 : am_ins 0 869 = some (.aload_n 1) := by decide +kernel
theorem i0_870 : am_ins 0 870 = some (.aload_n 0) := by decide +kernel
theorem i0_871 : am_ins 0 871 = some (.iload 5) := by decide +kernel
theorem i0_873 : am_ins 0 873 = some (.iconst 1) := by decide +kernel
theorem i0_874 : am_ins 0 874 = some (.iadd) := by decide +kernel
theorem i0_875 : am_ins 0 875 = some (.iaload) := by decide +kernel
theorem i0_876 : am_ins 0 876 = some (.aload_n 3) := by decide +kernel
theorem i0_877 : am_ins 0 877 = some (.invokestatic 227) := by decide +kernel
theorem i0_880 : am_ins 0 880 = some (.istore 6) := by decide +kernel
theorem i0_882 : am_ins 0 882 = some (.aload_n 2) := by decide +kernel
theorem i0_883 : am_ins 0 883 = some (.aload_n 0) := by decide +kernel
theorem i0_884 : am_ins 0 884 = some (.iload 5) := by decide +kernel
theorem i0_886 : am_ins 0 886 = some (.iconst 1) := by decide +kernel
theorem i0_887 : am_ins 0 887 = some (.iadd) := by decide +kernel
theorem i0_888 : am_ins 0 888 = some (.iaload) := by decide +kernel
theorem i0_889 : am_ins 0 889 = some (.invokevirtual 229) := by decide +kernel
theorem i0_892 : am_ins 0 892 = some (.istore 7) := by decide +kernel
theorem i0_894 : am_ins 0 894 = some (.aload_n 2) := by decide +kernel
theorem i0_895 : am_ins 0 895 = some (.invokevirtual 188) := by decide +kernel
theorem i0_898 : am_ins 0 898 = some (.iload 6) := by decide +kernel
theorem i0_900 : am_ins 0 900 = some (.if_icmp .eq 5) := by decide +kernel
theorem i0_903 : am_ins 0 903 = some (.iconst 0) := by decide +kernel
theorem i0_904 : am_ins 0 904 = some (.ireturn) := by decide +kernel
theorem i0_905 : am_ins 0 905 = some (.iload 6) := by decide +kernel
theorem i0_907 : am_ins 0 907 = some (.ifCond .ne 15) := by decide +kernel
theorem i0_910 : am_ins 0 910 = some (.aload_n 3) := by decide +kernel
theorem i0_911 : am_ins 0 911 = some (.iconst 0) := by decide +kernel
theorem i0_912 : am_ins 0 912 = some (.laload) := by decide +kernel
theorem i0_913 : am_ins 0 913 = some (.iload 7) := by decide +kernel
theorem i0_915 : am_ins 0 915 = some (.i2l) := by decide +kernel
theorem i0_916 : am_ins 0 916 = some (.lcmp) := by decide +kernel
theorem i0_917 : am_ins 0 917 = some (.ifCond .eq 5) := by decide +kernel
theorem i0_920 : am_ins 0 920 = some (.iconst 0) := by decide +kernel
theorem i0_921 : am_ins 0 921 = some (.ireturn) := by decide +kernel
theorem i0_922 : am_ins 0 922 = some (.goto 2407) := by decide +kernel
theorem i0_925 : am_ins 0 925 = some (.aload_n 1) := by decide +kernel
theorem i0_926 : am_ins 0 926 = some (.aload_n 3) := by decide +kernel
theorem i0_927 : am_ins 0 927 = some (.invokestatic 230) := by decide +kernel
theorem i0_930 : am_ins 0 930 = some (.istore 6) := by decide +kernel
theorem i0_932 : am_ins 0 932 = some (.aload_n 2) := by decide +kernel
theorem i0_933 : am_ins 0 933 = some (.invokevirtual 233) := by decide +kernel
theorem i0_936 : am_ins 0 936 = some (.istore 7) := by decide +kernel
theorem i0_938 : am_ins 0 938 = some (.aload_n 2) := by decide +kernel
theorem i0_939 : am_ins 0 939 = some (.invokevirtual 188) := by decide +kernel
theorem i0_942 : am_ins 0 942 = some (.iload 6) := by decide +kernel
theorem i0_944 : am_ins 0 944 = some (.if_icmp .eq 5) := by decide +kernel
theorem i0_947 : am_ins 0 947 = some (.iconst 0) := by decide +kernel
theorem i0_948 : am_ins 0 948 = some (.ireturn) := by decide +kernel
theorem i0_949 : am_ins 0 949 = some (.iload 6) := by decide +kernel
theorem i0_951 : am_ins 0 951 = some (.ifCond .ne 15) := by decide +kernel
theorem i0_954 : am_ins 0 954 = some (.aload_n 3) := by decide +kernel
theorem i0_955 : am_ins 0 955 = some (.iconst 0) := by decide +kernel
theorem i0_956 : am_ins 0 956 = some (.laload) := by decide +kernel
theorem i0_957 : am_ins 0 957 = some (.iload 7) := by decide +kernel
theorem i0_959 : am_ins 0 959 = some (.i2l) := by decide +kernel
theorem i0_960 : am_ins 0 960 = some (.lcmp) := by decide +kernel
theorem i0_961 : am_ins 0 961 = some (.ifCond .eq 5) := by decide +kernel
theorem i0_964 : am_ins 0 964 = some (.iconst 0) := by decide +kernel
theorem i0_965 : am_ins 0 965 = some (.ireturn) := by decide +kernel
theorem i0_966 : am_ins 0 966 = some (.goto 2363) := by decide +kernel
theorem i0_969 : am_ins 0 969 = some (.aload_n 1) := by decide +kernel
theorem i0_970 : am_ins 0 970 = some (.aload_n 0) := by decide +kernel
theorem i0_971 : am_ins 0 971 = some (.iload 5) := by decide +kernel
theorem i0_973 : am_ins 0 973 = some (.iconst 1) := by decide +kernel
theorem i0_974 : am_ins 0 974 = some (.iadd) := by decide +kernel
theorem i0_975 : am_ins 0 975 = some (.iaload) := by decide +kernel
theorem i0_976 : am_ins 0 976 = some (.aload_n 3) := by decide +kernel
theorem i0_977 : am_ins 0 977 = some (.invokestatic 234) := by decide +kernel
theorem i0_980 : am_ins 0 980 = some (.istore 6) := by decide +kernel
theorem i0_982 : am_ins 0 982 = some (.aload_n 2) := by decide +kernel
theorem i0_983 : am_ins 0 983 = some (.aload_n 0) := by decide +kernel
theorem i0_984 : am_ins 0 984 = some (.iload 5) := by decide +kernel
theorem i0_986 : am_ins 0 986 = some (.iconst 1) := by decide +kernel
theorem i0_987 : am_ins 0 987 = some (.iadd) := by decide +kernel
theorem i0_988 : am_ins 0 988 = some (.iaload) := by decide +kernel
theorem i0_989 : am_ins 0 989 = some (.invokevirtual 236) := by decide +kernel
theorem i0_992 : am_ins 0 992 = some (.istore 7) := by decide +kernel
theorem i0_994 : am_ins 0 994 = some (.aload_n 2) := by decide +kernel
theorem i0_995 : am_ins 0 995 = some (.invokevirtual 188) := by decide +kernel
theorem i0_998 : am_ins 0 998 = some (.iload 6) := by decide +kernel
theorem i0_1000 : am_ins 0 1000 = some (.if_icmp .eq 5) := by decide +kernel
theorem i0_1003 : am_ins 0 1003 = some (.iconst 0) := by decide +kernel
theorem i0_1004 : am_ins 0 1004 = some (.ireturn) := by decide +kernel
theorem i0_1005 : am_ins 0 1005 = some (.iload 6) := by decide +kernel
theorem i0_1007 : am_ins 0 1007 = some (.ifCond .ne 15) := by decide +kernel
theorem i0_1010 : am_ins 0 1010 = some (.aload_n 3) := by decide +kernel
theorem i0_1011 : am_ins 0 1011 = some (.iconst 0) := by decide +kernel
theorem i0_1012 : am_ins 0 1012 = some (.laload) := by decide +kernel
theorem i0_1013 : am_ins 0 1013 = some (.iload 7) := by decide +kernel
theorem i0_1015 : am_ins 0 1015 = some (.i2l) := by decide +kernel
theorem i0_1016 : am_ins 0 1016 = some (.lcmp) := by decide +kernel
theorem i0_1017 : am_ins 0 1017 = some (.ifCond .eq 5) := by decide +kernel
theorem i0_1020 : am_ins 0 1020 = some (.iconst 0) := by decide +kernel
theorem i0_1021 : am_ins 0 1021 = some (.ireturn) := by decide +kernel
theorem i0_1022 : am_ins 0 1022 = some (.goto 2307) := by decide +kernel
theorem i0_1025 : am_ins 0 1025 = some (.aload_n 1) := by decide +kernel
theorem i0_1026 : am_ins 0 1026 = some (.aload_n 0) := by decide +kernel
theorem i0_1027 : am_ins 0 1027 = some (.iload 5) := by decide +kernel
theorem i0_1029 : am_ins 0 1029 = some (.iconst 1) := by decide +kernel
theorem i0_1030 : am_ins 0 1030 = some (.iadd) := by decide +kernel
theorem i0_1031 : am_ins 0 1031 = some (.iaload) := by decide +kernel
theorem i0_1032 : am_ins 0 1032 = some (.aload_n 3) := by decide +kernel
theorem i0_1033 : am_ins 0 1033 = some (.invokestatic 237) := by decide +kernel
theorem i0_1036 : am_ins 0 1036 = some (.istore 6) := by decide +kernel
theorem i0_1038 : am_ins 0 1038 = some (.aload_n 2) := by decide +kernel
theorem i0_1039 : am_ins 0 1039 = some (.aload_n 0) := by decide +kernel
theorem i0_1040 : am_ins 0 1040 = some (.iload 5) := by decide +kernel
theorem i0_1042 : am_ins 0 1042 = some (.iconst 1) := by decide +kernel
theorem i0_1043 : am_ins 0 1043 = some (.iadd) := by decide +kernel
theorem i0_1044 : am_ins 0 1044 = some (.iaload) := by decide +kernel
theorem i0_1045 : am_ins 0 1045 = some (.invokevirtual 239) := by decide +kernel
theorem i0_1048 : am_ins 0 1048 = some (.istore 7) := by decide +kernel
theorem i0_1050 : am_ins 0 1050 = some (.aload_n 2) := by decide +kernel
theorem i0_1051 : am_ins 0 1051 = some (.invokevirtual 188) := by decide +kernel
theorem i0_1054 : am_ins 0 1054 = some (.iload 6) := by decide +kernel
theorem i0_1056 : am_ins 0 1056 = some (.if_icmp .eq 5) := by decide +kernel
theorem i0_1059 : am_ins 0 1059 = some (.iconst 0) := by decide +kernel
theorem i0_1060 : am_ins 0 1060 = some (.ireturn) := by decide +kernel
theorem i0_1061 : am_ins 0 1061 = some (.iload 6) := by decide +kernel
theorem i0_1063 : am_ins 0 1063 = some (.ifCond .ne 15) := by decide +kernel
theorem i0_1066 : am_ins 0 1066 = some (.aload_n 3) := by decide +kernel
theorem i0_1067 : am_ins 0 1067 = some (.iconst 0) := by decide +kernel
theorem i0_1068 : am_ins 0 1068 = some (.laload) := by decide +kernel
theorem i0_1069 : am_ins 0 1069 = some (.iload 7) := by decide +kernel
theorem i0_1071 : am_ins 0 1071 = some (.i2l) := by decide +kernel
theorem i0_1072 : am_ins 0 1072 = some (.lcmp) := by decide +kernel
theorem i0_1073 : am_ins 0 1073 = some (.ifCond .eq 5) := by decide +kernel
theorem i0_1076 : am_ins 0 1076 = some (.iconst 0) := by decide +kernel
theorem i0_1077 : am_ins 0 1077 = some (.ireturn) := by decide +kernel
theorem i0_1078 : am_ins 0 1078 = some (.goto 2251) := by decide +kernel
theorem i0_1081 : am_ins 0 1081 = some (.aload_n 1) := by decide +kernel
theorem i0_1082 : am_ins 0 1082 = some (.aload_n 0) := by decide +kernel
theorem i0_1083 : am_ins 0 1083 = some (.iload 5) := by decide +kernel
theorem i0_1085 : am_ins 0 1085 = some (.iconst 1) := by decide +kernel
theorem i0_1086 : am_ins 0 1086 = some (.iadd) := by decide +kernel
theorem i0_1087 : am_ins 0 1087 = some (.iaload) := by decide +kernel
theorem i0_1088 : am_ins 0 1088 = some (.aload_n 0) := by decide +kernel
theorem i0_1089 : am_ins 0 1089 = some (.iload 5) := by decide +kernel
theorem i0_1091 : am_ins 0 1091 = some (.iconst 2) := by decide +kernel
theorem i0_1092 : am_ins 0 1092 = some (.iadd) := by decide +kernel
theorem i0_1093 : am_ins 0 1093 = some (.iaload) := by decide +kernel
theorem i0_1094 : am_ins 0 1094 = some (.aload_n 3) := by decide +kernel
theorem i0_1095 : am_ins 0 1095 = some (.invokestatic 240) := by decide +kernel
theorem i0_1098 : am_ins 0 1098 = some (.istore 6) := by decide +kernel
theorem i0_1100 : am_ins 0 1100 = some (.aload_n 2) := by decide +kernel
theorem i0_1101 : am_ins 0 1101 = some (.aload_n 0) := by decide +kernel
theorem i0_1102 : am_ins 0 1102 = some (.iload 5) := by decide +kernel
theorem i0_1104 : am_ins 0 1104 = some (.iconst 1) := by decide +kernel
theorem i0_1105 : am_ins 0 1105 = some (.iadd) := by decide +kernel
theorem i0_1106 : am_ins 0 1106 = some (.iaload) := by decide +kernel
theorem i0_1107 : am_ins 0 1107 = some (.aload_n 0) := by decide +kernel
theorem i0_1108 : am_ins 0 1108 = some (.iload 5) := by decide +kernel
theorem i0_1110 : am_ins 0 1110 = some (.iconst 2) := by decide +kernel
theorem i0_1111 : am_ins 0 1111 = some (.iadd) := by decide +kernel
theorem i0_1112 : am_ins 0 1112 = some (.iaload) := by decide +kernel
theorem i0_1113 : am_ins 0 1113 = some (.invokevirtual 242) := by decide +kernel
theorem i0_1116 : am_ins 0 1116 = some (.istore 7) := by decide +kernel
theorem i0_1118 : am_ins 0 1118 = some (.aload_n 2) := by decide +kernel
theorem i0_1119 : am_ins 0 1119 = some (.invokevirtual 188) := by decide +kernel
theorem i0_1122 : am_ins 0 1122 = some (.iload 6) := by decide +kernel
theorem i0_1124 : am_ins 0 1124 = some (.if_icmp .eq 5) := by decide +kernel
theorem i0_1127 : am_ins 0 1127 = some (.iconst 0) := by decide +kernel
theorem i0_1128 : am_ins 0 1128 = some (.ireturn) := by decide +kernel
theorem i0_1129 : am_ins 0 1129 = some (.iload 6) := by decide +kernel
theorem i0_1131 : am_ins 0 1131 = some (.ifCond .ne 15) := by decide +kernel
theorem i0_1134 : am_ins 0 1134 = some (.aload_n 3) := by decide +kernel
theorem i0_1135 : am_ins 0 1135 = some (.iconst 0) := by decide +kernel
theorem i0_1136 : am_ins 0 1136 = some (.laload) := by decide +kernel
theorem i0_1137 : am_ins 0 1137 = some (.iload 7) := by decide +kernel
theorem i0_1139 : am_ins 0 1139 = some (.i2l) := by decide +kernel
theorem i0_1140 : am_ins 0 1140 = some (.lcmp) := by decide +kernel
theorem i0_1141 : am_ins 0 1141 = some (.ifCond .eq 5) := by decide +kernel
theorem i0_1144 : am_ins 0 1144 = some (.iconst 0) := by decide +kernel
theorem i0_1145 : am_ins 0 1145 = some (.ireturn) := by decide +kernel
theorem i0_1146 : am_ins 0 1146 = some (.goto 2183) := by decide +kernel
theorem i0_1149 : am_ins 0 1149 = some (.aload_n 1) := by decide +kernel
theorem i0_1150 : am_ins 0 1150 = some (.aload_n 0) := by decide +kernel
theorem i0_1151 : am_ins 0 1151 = some (.iload 5) := by decide +kernel
theorem i0_1153 : am_ins 0 1153 = some (.iconst 1) := by decide +kernel
theorem i0_1154 : am_ins 0 1154 = some (.iadd) := by decide +kernel
theorem i0_1155 : am_ins 0 1155 = some (.iaload) := by decide +kernel
theorem i0_1156 : am_ins 0 1156 = some (.aload_n 0) := by decide +kernel
theorem i0_1157 : am_ins 0 1157 = some (.iload 5) := by decide +kernel
theorem i0_1159 : am_ins 0 1159 = some (.iconst 2) := by decide +kernel
theorem i0_1160 : am_ins 0 1160 = some (.iadd) := by decide +kernel
theorem i0_1161 : am_ins 0 1161 = some (.iaload) := by decide +kernel
theorem i0_1162 : am_ins 0 1162 = some (.aload_n 3) := by decide +kernel
theorem i0_1163 : am_ins 0 1163 = some (.invokestatic 243) := by decide +kernel
theorem i0_1166 : am_ins 0 1166 = some (.istore 6) := by decide +kernel
theorem i0_1168 : am_ins 0 1168 = some (.aload_n 2) := by decide +kernel
theorem i0_1169 : am_ins 0 1169 = some (.aload_n 0) := by decide +kernel
theorem i0_1170 : am_ins 0 1170 = some (.iload 5) := by decide +kernel
theorem i0_1172 : am_ins 0 1172 = some (.iconst 1) := by decide +kernel
theorem i0_1173 : am_ins 0 1173 = some (.iadd) := by decide +kernel
theorem i0_1174 : am_ins 0 1174 = some (.iaload) := by decide +kernel
theorem i0_1175 : am_ins 0 1175 = some (.aload_n 0) := by decide +kernel
theorem i0_1176 : am_ins 0 1176 = some (.iload 5) := by decide +kernel
theorem i0_1178 : am_ins 0 1178 = some (.iconst 2) := by decide +kernel
theorem i0_1179 : am_ins 0 1179 = some (.iadd) := by decide +kernel
theorem i0_1180 : am_ins 0 1180 = some (.iaload) := by decide +kernel
theorem i0_1181 : am_ins 0 1181 = some (.invokevirtual 245) := by decide +kernel
theorem i0_1184 : am_ins 0 1184 = some (.istore 7) := by decide +kernel
theorem i0_1186 : am_ins 0 1186 = some (.aload_n 2) := by decide +kernel
theorem i0_1187 : am_ins 0 1187 = some (.invokevirtual 188) := by decide +kernel
theorem i0_1190 : am_ins 0 1190 = some (.iload 6) := by decide +kernel
theorem i0_1192 : am_ins 0 1192 = some (.if_icmp .eq 5) := by decide +kernel
theorem i0_1195 : am_ins 0 1195 = some (.iconst 0) := by decide +kernel
theorem i0_1196 : am_ins 0 1196 = some (.ireturn) := by decide +kernel
theorem i0_1197 : am_ins 0 1197 = some (.iload 6) := by decide +kernel
theorem i0_1199 : am_ins 0 1199 = some (.ifCond .ne 15) := by decide +kernel
theorem i0_1202 : am_ins 0 1202 = some (.aload_n 3) := by decide +kernel
theorem i0_1203 : am_ins 0 1203 = some (.iconst 0) := by decide +kernel
theorem i0_1204 : am_ins 0 1204 = some (.laload) := by decide +kernel
theorem i0_1205 : am_ins 0 1205 = some (.iload 7) := by decide +kernel
theorem i0_1207 : am_ins 0 1207 = some (.i2l) := by decide +kernel
theorem i0_1208 : am_ins 0 1208 = some (.lcmp) := by decide +kernel
theorem i0_1209 : am_ins 0 1209 = some (.ifCond .eq 5) := by decide +kernel
theorem i0_1212 : am_ins 0 1212 = some (.iconst 0) := by decide +kernel
theorem i0_1213 : am_ins 0 1213 = some (.ireturn) := by decide +kernel
theorem i0_1214 : am_ins 0 1214 = some (.goto 2115) := by decide +kernel
theorem i0_1217 : am_ins 0 1217 = some (.aload_n 1) := by decide +kernel
theorem i0_1218 : am_ins 0 1218 = some (.aload_n 3) := by decide +kernel
theorem i0_1219 : am_ins 0 1219 = some (.invokestatic 246) := by decide +kernel
theorem i0_1222 : am_ins 0 1222 = some (.istore 6) := by decide +kernel
theorem i0_1224 : am_ins 0 1224 = some (.aload_n 2) := by decide +kernel
theorem i0_1225 : am_ins 0 1225 = some (.invokevirtual 248) := by decide +kernel
theorem i0_1228 : am_ins 0 1228 = some (.istore 7) := by decide +kernel
theorem i0_1230 : am_ins 0 1230 = some (.aload_n 2) := by decide +kernel
theorem i0_1231 : am_ins 0 1231 = some (.invokevirtual 188) := by decide +kernel
theorem i0_1234 : am_ins 0 1234 = some (.iload 6) := by decide +kernel
theorem i0_1236 : am_ins 0 1236 = some (.if_icmp .eq 5) := by decide +kernel
theorem i0_1239 : am_ins 0 1239 = some (.iconst 0) := by decide +kernel
theorem i0_1240 : am_ins 0 1240 = some (.ireturn) := by decide +kernel
theorem i0_1241 : am_ins 0 1241 = some (.iload 6) := by decide +kernel
theorem i0_1243 : am_ins 0 1243 = some (.ifCond .ne 15) := by decide +kernel
theorem i0_1246 : am_ins 0 1246 = some (.aload_n 3) := by decide +kernel
theorem i0_1247 : am_ins 0 1247 = some (.iconst 0) := by decide +kernel
theorem i0_1248 : am_ins 0 1248 = some (.laload) := by decide +kernel
theorem i0_1249 : am_ins 0 1249 = some (.iload 7) := by decide +kernel
theorem i0_1251 : am_ins 0 1251 = some (.i2l) := by decide +kernel
theorem i0_1252 : am_ins 0 1252 = some (.lcmp) := by decide +kernel
theorem i0_1253 : am_ins 0 1253 = some (.ifCond .eq 5) := by decide +kernel
theorem i0_1256 : am_ins 0 1256 = some (.iconst 0) := by decide +kernel
theorem i0_1257 : am_ins 0 1257 = some (.ireturn) := by decide +kernel
theorem i0_1258 : am_ins 0 1258 = some (.goto 2071) := by decide +kernel
theorem i0_1261 : am_ins 0 1261 = some (.aload_n 1) := by decide +kernel
theorem i0_1262 : am_ins 0 1262 = some (.aload_n 3) := by decide +kernel
theorem i0_1263 : am_ins 0 1263 = some (.invokestatic 249) := by decide +kernel
theorem i0_1266 : am_ins 0 1266 = some (.istore 6) := by decide +kernel
theorem i0_1268 : am_ins 0 1268 = some (.aload_n 2) := by decide +kernel
theorem i0_1269 : am_ins 0 1269 = some (.invokevirtual 251) := by decide +kernel
theorem i0_1272 : am_ins 0 1272 = some (.istore 7) := by decide +kernel
theorem i0_1274 : am_ins 0 1274 = some (.aload_n 2) := by decide +kernel
theorem i0_1275 : am_ins 0 1275 = some (.invokevirtual 188) := by decide +kernel
theorem i0_1278 : am_ins 0 1278 = some (.iload 6) := by decide +kernel
theorem i0_1280 : am_ins 0 1280 = some (.if_icmp .eq 5) := by decide +kernel
theorem i0_1283 : am_ins 0 1283 = some (.iconst 0) := by decide +kernel
theorem i0_1284 : am_ins 0 1284 = some (.ireturn) := by decide +kernel
theorem i0_1285 : am_ins 0 1285 = some (.iload 6) := by decide +kernel
theorem i0_1287 : am_ins 0 1287 = some (.ifCond .ne 15) := by decide +kernel
theorem i0_1290 : am_ins 0 1290 = some (.aload_n 3) := by decide +kernel
theorem i0_1291 : am_ins 0 1291 = some (.iconst 0) := by decide +kernel
theorem i0_1292 : am_ins 0 1292 = some (.laload) := by decide +kernel
theorem i0_1293 : am_ins 0 1293 = some (.iload 7) := by decide +kernel
theorem i0_1295 : am_ins 0 1295 = some (.i2l) := by decide +kernel
theorem i0_1296 : am_ins 0 1296 = some (.lcmp) := by decide +kernel
theorem i0_1297 : am_ins 0 1297 = some (.ifCond .eq 5) := by decide +kernel
theorem i0_1300 : am_ins 0 1300 = some (.iconst 0) := by decide +kernel
theorem i0_1301 : am_ins 0 1301 = some (.ireturn) := by decide +kernel
theorem i0_1302 : am_ins 0 1302 = some (.goto 2027) := by decide +kernel
theorem i0_1305 : am_ins 0 1305 = some (.aload_n 1) := by decide +kernel
theorem i0_1306 : am_ins 0 1306 = some (.aload_n 3) := by decide +kernel
theorem i0_1307 : am_ins 0 1307 = some (.invokestatic 252) := by decide +kernel
theorem i0_1310 : am_ins 0 1310 = some (.istore 6) := by decide +kernel
theorem i0_1312 : am_ins 0 1312 = some (.aload_n 2) := by decide +kernel
theorem i0_1313 : am_ins 0 1313 = some (.invokevirtual 254) := by decide +kernel
theorem i0_1316 : am_ins 0 1316 = some (.istore 7) := by decide +kernel
theorem i0_1318 : am_ins 0 1318 = some (.aload_n 2) := by decide +kernel
theorem i0_1319 : am_ins 0 1319 = some (.invokevirtual 188) := by decide +kernel
theorem i0_1322 : am_ins 0 1322 = some (.iload 6) := by decide +kernel
theorem i0_1324 : am_ins 0 1324 = some (.if_icmp .eq 5) := by decide +kernel
theorem i0_1327 : am_ins 0 1327 = some (.iconst 0) := by decide +kernel
theorem i0_1328 : am_ins 0 1328 = some (.ireturn) := by decide +kernel
theorem i0_1329 : am_ins 0 1329 = some (.iload 6) := by decide +kernel
theorem i0_1331 : am_ins 0 1331 = some (.ifCond .ne 15) := by decide +kernel
theorem i0_1334 : am_ins 0 1334 = some (.aload_n 3) := by decide +kernel
theorem i0_1335 : am_ins 0 1335 = some (.iconst 0) := by decide +kernel
theorem i0_1336 : am_ins 0 1336 = some (.laload) := by decide +kernel
theorem i0_1337 : am_ins 0 1337 = some (.iload 7) := by decide +kernel
theorem i0_1339 : am_ins 0 1339 = some (.i2l) := by decide +kernel
theorem i0_1340 : am_ins 0 1340 = some (.lcmp) := by decide +kernel
theorem i0_1341 : am_ins 0 1341 = some (.ifCond .eq 5) := by decide +kernel
theorem i0_1344 : am_ins 0 1344 = some (.iconst 0) := by decide +kernel
theorem i0_1345 : am_ins 0 1345 = some (.ireturn) := by decide +kernel
theorem i0_1346 : am_ins 0 1346 = some (.goto 1983) := by decide +kernel
theorem i0_1349 : am_ins 0 1349 = some (.aload_n 1) := by decide +kernel
theorem i0_1350 : am_ins 0 1350 = some (.aload_n 3) := by decide +kernel
theorem i0_1351 : am_ins 0 1351 = some (.invokestatic 255) := by decide +kernel
theorem i0_1354 : am_ins 0 1354 = some (.istore 6) := by decide +kernel
theorem i0_1356 : am_ins 0 1356 = some (.aload_n 2) := by decide +kernel
theorem i0_1357 : am_ins 0 1357 = some (.invokevirtual 257) := by decide +kernel
theorem i0_1360 : am_ins 0 1360 = some (.istore 7) := by decide +kernel
theorem i0_1362 : am_ins 0 1362 = some (.aload_n 2) := by decide +kernel
theorem i0_1363 : am_ins 0 1363 = some (.invokevirtual 188) := by decide +kernel
theorem i0_1366 : am_ins 0 1366 = some (.iload 6) := by decide +kernel
theorem i0_1368 : am_ins 0 1368 = some (.if_icmp .eq 5) := by decide +kernel
theorem i0_1371 : am_ins 0 1371 = some (.iconst 0) := by decide +kernel
theorem i0_1372 : am_ins 0 1372 = some (.ireturn) := by decide +kernel
theorem i0_1373 : am_ins 0 1373 = some (.iload 6) := by decide +kernel
theorem i0_1375 : am_ins 0 1375 = some (.ifCond .ne 15) := by decide +kernel
theorem i0_1378 : am_ins 0 1378 = some (.aload_n 3) := by decide +kernel
theorem i0_1379 : am_ins 0 1379 = some (.iconst 0) := by decide +kernel
theorem i0_1380 : am_ins 0 1380 = some (.laload) := by decide +kernel
theorem i0_1381 : am_ins 0 1381 = some (.iload 7) := by decide +kernel
theorem i0_1383 : am_ins 0 1383 = some (.i2l) := by decide +kernel
theorem i0_1384 : am_ins 0 1384 = some (.lcmp) := by decide +kernel
theorem i0_1385 : am_ins 0 1385 = some (.ifCond .eq 5) := by decide +kernel
theorem i0_1388 : am_ins 0 1388 = some (.iconst 0) := by decide +kernel
theorem i0_1389 : am_ins 0 1389 = some (.ireturn) := by decide +kernel
theorem i0_1390 : am_ins 0 1390 = some (.goto 1939) := by decide +kernel
theorem i0_1393 : am_ins 0 1393 = some (.aload_n 1) := by decide +kernel
theorem i0_1394 : am_ins 0 1394 = some (.aload_n 3) := by decide +kernel
theorem i0_1395 : am_ins 0 1395 = some (.invokestatic 258) := by decide +kernel
theorem i0_1398 : am_ins 0 1398 = some (.istore 6) := by decide +kernel
theorem i0_1400 : am_ins 0 1400 = some (.aload_n 2) := by decide +kernel
theorem i0_1401 : am_ins 0 1401 = some (.invokevirtual 260) := by decide +kernel
theorem i0_1404 : am_ins 0 1404 = some (.istore 7) := by decide +kernel
theorem i0_1406 : am_ins 0 1406 = some (.aload_n 2) := by decide +kernel
theorem i0_1407 : am_ins 0 1407 = some (.invokevirtual 188) := by decide +kernel
theorem i0_1410 : am_ins 0 1410 = some (.iload 6) := by decide +kernel
theorem i0_1412 : am_ins 0 1412 = some (.if_icmp .eq 5) := by decide +kernel
theorem i0_1415 : am_ins 0 1415 = some (.iconst 0) := by decide +kernel
theorem i0_1416 : am_ins 0 1416 = some (.ireturn) := by decide +kernel
theorem i0_1417 : am_ins 0 1417 = some (.iload 6) := by decide +kernel
theorem i0_1419 : am_ins 0 1419 = some (.ifCond .ne 15) := by decide +kernel
theorem i0_1422 : am_ins 0 1422 = some (.aload_n 3) := by decide +kernel
theorem i0_1423 : am_ins 0 1423 = some (.iconst 0) := by decide +kernel
theorem i0_1424 : am_ins 0 1424 = some (.laload) := by decide +kernel
theorem i0_1425 : am_ins 0 1425 = some (.iload 7) := by decide +kernel
theorem i0_1427 : am_ins 0 1427 = some (.i2l) := by decide +kernel
theorem i0_1428 : am_ins 0 1428 = some (.lcmp) := by decide +kernel
theorem i0_1429 : am_ins 0 1429 = some (.ifCond .eq 5) := by decide +kernel
theorem i0_1432 : am_ins 0 1432 = some (.iconst 0) := by decide +kernel
theorem i0_1433 : am_ins 0 1433 = some (.ireturn) := by decide +kernel
theorem i0_1434 : am_ins 0 1434 = some (.goto 1895) := by decide +kernel
theorem i0_1437 : am_ins 0 1437 = some (.aload_n 1) := by decide +kernel
theorem i0_1438 : am_ins 0 1438 = some (.aload_n 0) := by decide +kernel
theorem i0_1439 : am_ins 0 1439 = some (.iload 5) := by decide +kernel
theorem i0_1441 : am_ins 0 1441 = some (.iconst 1) := by decide +kernel
theorem i0_1442 : am_ins 0 1442 = some (.iadd) := by decide +kernel
theorem i0_1443 : am_ins 0 1443 = some (.iaload) := by decide +kernel
theorem i0_1444 : am_ins 0 1444 = some (.aload_n 0) := by decide +kernel
theorem i0_1445 : am_ins 0 1445 = some (.iload 5) := by decide +kernel
theorem i0_1447 : am_ins 0 1447 = some (.iconst 2) := by decide +kernel
theorem i0_1448 : am_ins 0 1448 = some (.iadd) := by decide +kernel
theorem i0_1449 : am_ins 0 1449 = some (.iaload) := by decide +kernel
theorem i0_1450 : am_ins 0 1450 = some (.aload_n 3) := by decide +kernel
theorem i0_1451 : am_ins 0 1451 = some (.invokestatic 261) := by decide +kernel
theorem i0_1454 : am_ins 0 1454 = some (.istore 6) := by decide +kernel
theorem i0_1456 : am_ins 0 1456 = some (.aload_n 2) := by decide +kernel
theorem i0_1457 : am_ins 0 1457 = some (.aload_n 0) := by decide +kernel
theorem i0_1458 : am_ins 0 1458 = some (.iload 5) := by decide +kernel
theorem i0_1460 : am_ins 0 1460 = some (.iconst 1) := by decide +kernel
theorem i0_1461 : am_ins 0 1461 = some (.iadd) := by decide +kernel
theorem i0_1462 : am_ins 0 1462 = some (.iaload) := by decide +kernel
theorem i0_1463 : am_ins 0 1463 = some (.aload_n 0) := by decide +kernel
theorem i0_1464 : am_ins 0 1464 = some (.iload 5) := by decide +kernel
theorem i0_1466 : am_ins 0 1466 = some (.iconst 2) := by decide +kernel
theorem i0_1467 : am_ins 0 1467 = some (.iadd) := by decide +kernel
theorem i0_1468 : am_ins 0 1468 = some (.iaload) := by decide +kernel
theorem i0_1469 : am_ins 0 1469 = some (.invokevirtual 263) := by decide +kernel
theorem i0_1472 : am_ins 0 1472 = some (.istore 7) := by decide +kernel
theorem i0_1474 : am_ins 0 1474 = some (.aload_n 2) := by decide +kernel
theorem i0_1475 : am_ins 0 1475 = some (.invokevirtual 188) := by decide +kernel
theorem i0_1478 : am_ins 0 1478 = some (.iload 6) := by decide +kernel
theorem i0_1480 : am_ins 0 1480 = some (.if_icmp .eq 5) := by decide +kernel
theorem i0_1483 : am_ins 0 1483 = some (.iconst 0) := by decide +kernel
theorem i0_1484 : am_ins 0 1484 = some (.ireturn) := by decide +kernel
theorem i0_1485 : am_ins 0 1485 = some (.iload 6) := by decide +kernel
theorem i0_1487 : am_ins 0 1487 = some (.ifCond .ne 22) := by decide +kernel
theorem i0_1490 : am_ins 0 1490 = some (.aload_n 3) := by decide +kernel
theorem i0_1491 : am_ins 0 1491 = some (.iconst 0) := by decide +kernel
theorem i0_1492 : am_ins 0 1492 = some (.laload) := by decide +kernel
theorem i0_1493 : am_ins 0 1493 = some (.iload 7) := by decide +kernel
theorem i0_1495 : am_ins 0 1495 = some (.ifCond .eq 7) := by decide +kernel
theorem i0_1498 : am_ins 0 1498 = some (.lconst 1) := by decide +kernel
theorem i0_1499 : am_ins 0 1499 = some (.goto 4) := by decide +kernel
theorem i0_1502 : am_ins 0 1502 = some (.lconst 0) := by decide +kernel
theorem i0_1503 : am_ins 0 1503 = some (.lcmp) := by decide +kernel
theorem i0_1504 : am_ins 0 1504 = some (.ifCond .eq 5) := by decide +kernel
theorem i0_1507 : am_ins 0 1507 = some (.iconst 0) := by decide +kernel
theorem i0_1508 : am_ins 0 1508 = some (.ireturn) := by decide +kernel
theorem i0_1509 : am_ins 0 1509 = some (.goto 1820) := by decide +kernel
theorem i0_1512 : am_ins 0 1512 = some (.aload_n 1) := by decide +kernel
theorem i0_1513 : am_ins 0 1513 = some (.aload_n 0) := by decide +kernel
theorem i0_1514 : am_ins 0 1514 = some (.iload 5) := by decide +kernel
theorem i0_1516 : am_ins 0 1516 = some (.iconst 1) := by decide +kernel
theorem i0_1517 : am_ins 0 1517 = some (.iadd) := by decide +kernel
theorem i0_1518 : am_ins 0 1518 = some (.iaload) := by decide +kernel
theorem i0_1519 : am_ins 0 1519 = some (.aload_n 0) := by decide +kernel
theorem i0_1520 : am_ins 0 1520 = some (.iload 5) := by decide +kernel
theorem i0_1522 : am_ins 0 1522 = some (.iconst 2) := by decide +kernel
theorem i0_1523 : am_ins 0 1523 = some (.iadd) := by decide +kernel
theorem i0_1524 : am_ins 0 1524 = some (.iaload) := by decide +kernel
theorem i0_1525 : am_ins 0 1525 = some (.aload_n 3) := by decide +kernel
theorem i0_1526 : am_ins 0 1526 = some (.invokestatic 264) := by decide +kernel
theorem i0_1529 : am_ins 0 1529 = some (.istore 6) := by decide +kernel
theorem i0_1531 : am_ins 0 1531 = some (.aload_n 2) := by decide +kernel
theorem i0_1532 : am_ins 0 1532 = some (.aload_n 0) := by decide +kernel
theorem i0_1533 : am_ins 0 1533 = some (.iload 5) := by decide +kernel
theorem i0_1535 : am_ins 0 1535 = some (.iconst 1) := by decide +kernel
theorem i0_1536 : am_ins 0 1536 = some (.iadd) := by decide +kernel
theorem i0_1537 : am_ins 0 1537 = some (.iaload) := by decide +kernel
theorem i0_1538 : am_ins 0 1538 = some (.aload_n 0) := by decide +kernel
theorem i0_1539 : am_ins 0 1539 = some (.iload 5) := by decide +kernel
theorem i0_1541 : am_ins 0 1541 = some (.iconst 2) := by decide +kernel
theorem i0_1542 : am_ins 0 1542 = some (.iadd) := by decide +kernel
theorem i0_1543 : am_ins 0 1543 = some (.iaload) := by decide +kernel
theorem i0_1544 : am_ins 0 1544 = some (.invokevirtual 266) := by decide +kernel
theorem i0_1547 : am_ins 0 1547 = some (.istore 7) := by decide +kernel
theorem i0_1549 : am_ins 0 1549 = some (.aload_n 2) := by decide +kernel
theorem i0_1550 : am_ins 0 1550 = some (.invokevirtual 188) := by decide +kernel
theorem i0_1553 : am_ins 0 1553 = some (.iload 6) := by decide +kernel
theorem i0_1555 : am_ins 0 1555 = some (.if_icmp .eq 5) := by decide +kernel
theorem i0_1558 : am_ins 0 1558 = some (.iconst 0) := by decide +kernel
theorem i0_1559 : am_ins 0 1559 = some (.ireturn) := by decide +kernel
theorem i0_1560 : am_ins 0 1560 = some (.iload 6) := by decide +kernel
theorem i0_1562 : am_ins 0 1562 = some (.ifCond .ne 15) := by decide +kernel
theorem i0_1565 : am_ins 0 1565 = some (.aload_n 3) := by decide +kernel
theorem i0_1566 : am_ins 0 1566 = some (.iconst 0) := by decide +kernel
theorem i0_1567 : am_ins 0 1567 = some (.laload) := by decide +kernel
theorem i0_1568 : am_ins 0 1568 = some (.iload 7) := by decide +kernel
theorem i0_1570 : am_ins 0 1570 = some (.i2l) := by decide +kernel
theorem i0_1571 : am_ins 0 1571 = some (.lcmp) := by decide +kernel
theorem i0_1572 : am_ins 0 1572 = some (.ifCond .eq 5) := by decide +kernel
theorem i0_1575 : am_ins 0 1575 = some (.iconst 0) := by decide +kernel
theorem i0_1576 : am_ins 0 1576 = some (.ireturn) := by decide +kernel
theorem i0_1577 : am_ins 0 1577 = some (.goto 1752) := by decide +kernel
theorem i0_1580 : am_ins 0 1580 = some (.aload_n 1) := by decide +kernel
theorem i0_1581 : am_ins 0 1581 = some (.aload_n 0) := by decide +kernel
theorem i0_1582 : am_ins 0 1582 = some (.iload 5) := by decide +kernel
theorem i0_1584 : am_ins 0 1584 = some (.iconst 1) := by decide +kernel
theorem i0_1585 : am_ins 0 1585 = some (.iadd) := by decide +kernel
theorem i0_1586 : am_ins 0 1586 = some (.iaload) := by decide +kernel
theorem i0_1587 : am_ins 0 1587 = some (.aload_n 3) := by decide +kernel
theorem i0_1588 : am_ins 0 1588 = some (.invokestatic 267) := by decide +kernel
theorem i0_1591 : am_ins 0 1591 = some (.istore 6) := by decide +kernel
theorem i0_1593 : am_ins 0 1593 = some (.aload_n 2) := by decide +kernel
theorem i0_1594 : am_ins 0 1594 = some (.aload_n 0) := by decide +kernel
theorem i0_1595 : am_ins 0 1595 = some (.iload 5) := by decide +kernel
theorem i0_1597 : am_ins 0 1597 = some (.iconst 1) := by decide +kernel
theorem i0_1598 : am_ins 0 1598 = some (.iadd) := by decide +kernel
theorem i0_1599 : am_ins 0 1599 = some (.iaload) := by decide +kernel
theorem i0_1600 : am_ins 0 1600 = some (.invokevirtual 269) := by decide +kernel
theorem i0_1603 : am_ins 0 1603 = some (.istore 7) := by decide +kernel
theorem i0_1605 : am_ins 0 1605 = some (.aload_n 2) := by decide +kernel
theorem i0_1606 : am_ins 0 1606 = some (.invokevirtual 188) := by decide +kernel
theorem i0_1609 : am_ins 0 1609 = some (.iload 6) := by decide +kernel
theorem i0_1611 : am_ins 0 1611 = some (.if_icmp .eq 5) := by decide +kernel
theorem i0_1614 : am_ins 0 1614 = some (.iconst 0) := by decide +kernel
theorem i0_1615 : am_ins 0 1615 = some (.ireturn) := by decide +kernel
theorem i0_1616 : am_ins 0 1616 = some (.iload 6) := by decide +kernel
theorem i0_1618 : am_ins 0 1618 = some (.ifCond .ne 15) := by decide +kernel
theorem i0_1621 : am_ins 0 1621 = some (.aload_n 3) := by decide +kernel
theorem i0_1622 : am_ins 0 1622 = some (.iconst 0) := by decide +kernel
theorem i0_1623 : am_ins 0 1623 = some (.laload) := by decide +kernel
theorem i0_1624 : am_ins 0 1624 = some (.iload 7) := by decide +kernel
theorem i0_1626 : am_ins 0 1626 = some (.i2l) := by decide +kernel
theorem i0_1627 : am_ins 0 1627 = some (.lcmp) := by decide +kernel
theorem i0_1628 : am_ins 0 1628 = some (.ifCond .eq 5) := by decide +kernel
theorem i0_1631 : am_ins 0 1631 = some (.iconst 0) := by decide +kernel
theorem i0_1632 : am_ins 0 1632 = some (.ireturn) := by decide +kernel
theorem i0_1633 : am_ins 0 1633 = some (.goto 1696) := by decide +kernel
theorem i0_1636 : am_ins 0 1636 = some (.aload_n 1) := by decide +kernel
theorem i0_1637 : am_ins 0 1637 = some (.aload_n 3) := by decide +kernel
theorem i0_1638 : am_ins 0 1638 = some (.invokestatic 270) := by decide +kernel
theorem i0_1641 : am_ins 0 1641 = some (.istore 6) := by decide +kernel
theorem i0_1643 : am_ins 0 1643 = some (.aload_n 2) := by decide +kernel
theorem i0_1644 : am_ins 0 1644 = some (.invokevirtual 272) := by decide +kernel
theorem i0_1647 : am_ins 0 1647 = some (.istore 7) := by decide +kernel
theorem i0_1649 : am_ins 0 1649 = some (.aload_n 2) := by decide +kernel
theorem i0_1650 : am_ins 0 1650 = some (.invokevirtual 188) := by decide +kernel
theorem i0_1653 : am_ins 0 1653 = some (.iload 6) := by decide +kernel
theorem i0_1655 : am_ins 0 1655 = some (.if_icmp .eq 5) := by decide +kernel
theorem i0_1658 : am_ins 0 1658 = some (.iconst 0) := by decide +kernel
theorem i0_1659 : am_ins 0 1659 = some (.ireturn) := by decide +kernel
theorem i0_1660 : am_ins 0 1660 = some (.iload 6) := by decide +kernel
theorem i0_1662 : am_ins 0 1662 = some (.ifCond .ne 15) := by decide +kernel
theorem i0_1665 : am_ins 0 1665 = some (.aload_n 3) := by decide +kernel
theorem i0_1666 : am_ins 0 1666 = some (.iconst 0) := by decide +kernel
theorem i0_1667 : am_ins 0 1667 = some (.laload) := by decide +kernel
theorem i0_1668 : am_ins 0 1668 = some (.iload 7) := by decide +kernel
theorem i0_1670 : am_ins 0 1670 = some (.i2l) := by decide +kernel
theorem i0_1671 : am_ins 0 1671 = some (.lcmp) := by decide +kernel
theorem i0_1672 : am_ins 0 1672 = some (.ifCond .eq 5) := by decide +kernel
theorem i0_1675 : am_ins 0 1675 = some (.iconst 0) := by decide +kernel
theorem i0_1676 : am_ins 0 1676 = some (.ireturn) := by decide +kernel
theorem i0_1677 : am_ins 0 1677 = some (.goto 1652) := by decide +kernel
theorem i0_1680 : am_ins 0 1680 = some (.aload_n 1) := by decide +kernel
theorem i0_1681 : am_ins 0 1681 = some (.aload_n 0) := by decide +kernel
theorem i0_1682 : am_ins 0 1682 = some (.iload 5) := by decide +kernel
theorem i0_1684 : am_ins 0 1684 = some (.iconst 1) := by decide +kernel
theorem i0_1685 : am_ins 0 1685 = some (.iadd) := by decide +kernel
theorem i0_1686 : am_ins 0 1686 = some (.iaload) := by decide +kernel
theorem i0_1687 : am_ins 0 1687 = some (.aload_n 3) := by decide +kernel
theorem i0_1688 : am_ins 0 1688 = some (.invokestatic 273) := by decide +kernel
theorem i0_1691 : am_ins 0 1691 = some (.istore 6) := by decide +kernel
theorem i0_1693 : am_ins 0 1693 = some (.aload_n 2) := by decide +kernel
theorem i0_1694 : am_ins 0 1694 = some (.aload_n 0) := by decide +kernel
theorem i0_1695 : am_ins 0 1695 = some (.iload 5) := by decide +kernel
theorem i0_1697 : am_ins 0 1697 = some (.iconst 1) := by decide +kernel
theorem i0_1698 : am_ins 0 1698 = some (.iadd) := by decide +kernel
theorem i0_1699 : am_ins 0 1699 = some (.iaload) := by decide +kernel
theorem i0_1700 : am_ins 0 1700 = some (.invokevirtual 275) := by decide +kernel
theorem i0_1703 : am_ins 0 1703 = some (.istore 7) := by decide +kernel
theorem i0_1705 : am_ins 0 1705 = some (.aload_n 2) := by decide +kernel
theorem i0_1706 : am_ins 0 1706 = some (.invokevirtual 188) := by decide +kernel
theorem i0_1709 : am_ins 0 1709 = some (.iload 6) := by decide +kernel
theorem i0_1711 : am_ins 0 1711 = some (.if_icmp .eq 5) := by decide +kernel
theorem i0_1714 : am_ins 0 1714 = some (.iconst 0) := by decide +kernel
theorem i0_1715 : am_ins 0 1715 = some (.ireturn) := by decide +kernel
theorem i0_1716 : am_ins 0 1716 = some (.iload 6) := by decide +kernel
theorem i0_1718 : am_ins 0 1718 = some (.ifCond .ne 15) := by decide +kernel
theorem i0_1721 : am_ins 0 1721 = some (.aload_n 3) := by decide +kernel
theorem i0_1722 : am_ins 0 1722 = some (.iconst 0) := by decide +kernel
theorem i0_1723 : am_ins 0 1723 = some (.laload) := by decide +kernel
theorem i0_1724 : am_ins 0 1724 = some (.iload 7) := by decide +kernel
theorem i0_1726 : am_ins 0 1726 = some (.i2l) := by decide +kernel
theorem i0_1727 : am_ins 0 1727 = some (.lcmp) := by decide +kernel
theorem i0_1728 : am_ins 0 1728 = some (.ifCond .eq 5) := by decide +kernel
theorem i0_1731 : am_ins 0 1731 = some (.iconst 0) := by decide +kernel
theorem i0_1732 : am_ins 0 1732 = some (.ireturn) := by decide +kernel
theorem i0_1733 : am_ins 0 1733 = some (.goto 1596) := by decide +kernel
theorem i0_1736 : am_ins 0 1736 = some (.aload_n 1) := by decide +kernel
theorem i0_1737 : am_ins 0 1737 = some (.aload_n 0) := by decide +kernel
theorem i0_1738 : am_ins 0 1738 = some (.iload 5) := by decide +kernel
theorem i0_1740 : am_ins 0 1740 = some (.iconst 1) := by decide +kernel
theorem i0_1741 : am_ins 0 1741 = some (.iadd) := by decide +kernel
theorem i0_1742 : am_ins 0 1742 = some (.iaload) := by decide +kernel
theorem i0_1743 : am_ins 0 1743 = some (.aload_n 3) := by decide +kernel
theorem i0_1744 : am_ins 0 1744 = some (.invokestatic 276) := by decide +kernel
theorem i0_1747 : am_ins 0 1747 = some (.istore 6) := by decide +kernel
theorem i0_1749 : am_ins 0 1749 = some (.aload_n 2) := by decide +kernel
theorem i0_1750 : am_ins 0 1750 = some (.aload_n 0) := by decide +kernel
theorem i0_1751 : am_ins 0 1751 = some (.iload 5) := by decide +kernel
theorem i0_1753 : am_ins 0 1753 = some (.iconst 1) := by decide +kernel
theorem i0_1754 : am_ins 0 1754 = some (.iadd) := by decide +kernel
theorem i0_1755 : am_ins 0 1755 = some (.iaload) := by decide +kernel
theorem i0_1756 : am_ins 0 1756 = some (.invokevirtual 278) := by decide +kernel
theorem i0_1759 : am_ins 0 1759 = some (.istore 7) := by decide +kernel
theorem i0_1761 : am_ins 0 1761 = some (.aload_n 2) := by decide +kernel
theorem i0_1762 : am_ins 0 1762 = some (.invokevirtual 188) := by decide +kernel
theorem i0_1765 : am_ins 0 1765 = some (.iload 6) := by decide +kernel
theorem i0_1767 : am_ins 0 1767 = some (.if_icmp .eq 5) := by decide +kernel
theorem i0_1770 : am_ins 0 1770 = some (.iconst 0) := by decide +kernel
theorem i0_1771 : am_ins 0 1771 = some (.ireturn) := by decide +kernel
theorem i0_1772 : am_ins 0 1772 = some (.iload 6) := by decide +kernel
theorem i0_1774 : am_ins 0 1774 = some (.ifCond .ne 15) := by decide +kernel
theorem i0_1777 : am_ins 0 1777 = some (.aload_n 3) := by decide +kernel
theorem i0_1778 : am_ins 0 1778 = some (.iconst 0) := by decide +kernel
theorem i0_1779 : am_ins 0 1779 = some (.laload) := by decide +kernel
theorem i0_1780 : am_ins 0 1780 = some (.iload 7) := by decide +kernel
theorem i0_1782 : am_ins 0 1782 = some (.i2l) := by decide +kernel
theorem i0_1783 : am_ins 0 1783 = some (.lcmp) := by decide +kernel
theorem i0_1784 : am_ins 0 1784 = some (.ifCond .eq 5) := by decide +kernel
theorem i0_1787 : am_ins 0 1787 = some (.iconst 0) := by decide +kernel
theorem i0_1788 : am_ins 0 1788 = some (.ireturn) := by decide +kernel
theorem i0_1789 : am_ins 0 1789 = some (.goto 1540) := by decide +kernel
theorem i0_1792 : am_ins 0 1792 = some (.aload_n 1) := by decide +kernel
theorem i0_1793 : am_ins 0 1793 = some (.aload_n 0) := by decide +kernel
theorem i0_1794 : am_ins 0 1794 = some (.iload 5) := by decide +kernel
theorem i0_1796 : am_ins 0 1796 = some (.iconst 1) := by decide +kernel
theorem i0_1797 : am_ins 0 1797 = some (.iadd) := by decide +kernel
theorem i0_1798 : am_ins 0 1798 = some (.iaload) := by decide +kernel
theorem i0_1799 : am_ins 0 1799 = some (.aload_n 3) := by decide +kernel
theorem i0_1800 : am_ins 0 1800 = some (.invokestatic 279) := by decide +kernel
theorem i0_1803 : am_ins 0 1803 = some (.istore 6) := by decide +kernel
theorem i0_1805 : am_ins 0 1805 = some (.aload_n 2) := by decide +kernel
theorem i0_1806 : am_ins 0 1806 = some (.aload_n 0) := by decide +kernel
theorem i0_1807 : am_ins 0 1807 = some (.iload 5) := by decide +kernel
theorem i0_1809 : am_ins 0 1809 = some (.iconst 1) := by decide +kernel
theorem i0_1810 : am_ins 0 1810 = some (.iadd) := by decide +kernel
theorem i0_1811 : am_ins 0 1811 = some (.iaload) := by decide +kernel
theorem i0_1812 : am_ins 0 1812 = some (.invokevirtual 281) := by decide +kernel
theorem i0_1815 : am_ins 0 1815 = some (.istore 7) := by decide +kernel
theorem i0_1817 : am_ins 0 1817 = some (.aload_n 2) := by decide +kernel
theorem i0_1818 : am_ins 0 1818 = some (.invokevirtual 188) := by decide +kernel
theorem i0_1821 : am_ins 0 1821 = some (.iload 6) := by decide +kernel
theorem i0_1823 : am_ins 0 1823 = some (.if_icmp .eq 5) := by decide +kernel
theorem i0_1826 : am_ins 0 1826 = some (.iconst 0) := by decide +kernel
theorem i0_1827 : am_ins 0 1827 = some (.ireturn) := by decide +kernel
theorem i0_1828 : am_ins 0 1828 = some (.iload 6) := by decide +kernel
theorem i0_1830 : am_ins 0 1830 = some (.ifCond .ne 15) := by decide +kernel
theorem i0_1833 : am_ins 0 1833 = some (.aload_n 3) := by decide +kernel
theorem i0_1834 : am_ins 0 1834 = some (.iconst 0) := by decide +kernel
theorem i0_1835 : am_ins 0 1835 = some (.laload) := by decide +kernel
theorem i0_1836 : am_ins 0 1836 = some (.iload 7) := by decide +kernel
theorem i0_1838 : am_ins 0 1838 = some (.i2l) := by decide +kernel
theorem i0_1839 : am_ins 0 1839 = some (.lcmp) := by decide +kernel
theorem i0_1840 : am_ins 0 1840 = some (.ifCond .eq 5) := by decide +kernel
theorem i0_1843 : am_ins 0 1843 = some (.iconst 0) := by decide +kernel
theorem i0_1844 : am_ins 0 1844 = some (.ireturn) := by decide +kernel
theorem i0_1845 : am_ins 0 1845 = some (.goto 1484) := by decide +kernel
theorem i0_1848 : am_ins 0 1848 = some (.aload_n 1) := by decide +kernel
theorem i0_1849 : am_ins 0 1849 = some (.aload_n 0) := by decide +kernel
theorem i0_1850 : am_ins 0 1850 = some (.iload 5) := by decide +kernel
theorem i0_1852 : am_ins 0 1852 = some (.iconst 1) := by decide +kernel
theorem i0_1853 : am_ins 0 1853 = some (.iadd) := by decide +kernel
theorem i0_1854 : am_ins 0 1854 = some (.iaload) := by decide +kernel
theorem i0_1855 : am_ins 0 1855 = some (.aload_n 3) := by decide +kernel
theorem i0_1856 : am_ins 0 1856 = some (.invokestatic 282) := by decide +kernel
theorem i0_1859 : am_ins 0 1859 = some (.istore 6) := by decide +kernel
theorem i0_1861 : am_ins 0 1861 = some (.aload_n 2) := by decide +kernel
theorem i0_1862 : am_ins 0 1862 = some (.aload_n 0) := by decide +kernel
theorem i0_1863 : am_ins 0 1863 = some (.iload 5) := by decide +kernel
theorem i0_1865 : am_ins 0 1865 = some (.iconst 1) := by decide +kernel
theorem i0_1866 : am_ins 0 1866 = some (.iadd) := by decide +kernel
theorem i0_1867 : am_ins 0 1867 = some (.iaload) := by decide +kernel
theorem i0_1868 : am_ins 0 1868 = some (.invokevirtual 284) := by decide +kernel
theorem i0_1871 : am_ins 0 1871 = some (.istore 7) := by decide +kernel
theorem i0_1873 : am_ins 0 1873 = some (.aload_n 2) := by decide +kernel
theorem i0_1874 : am_ins 0 1874 = some (.invokevirtual 188) := by decide +kernel
theorem i0_1877 : am_ins 0 1877 = some (.iload 6) := by decide +kernel
theorem i0_1879 : am_ins 0 1879 = some (.if_icmp .eq 5) := by decide +kernel
theorem i0_1882 : am_ins 0 1882 = some (.iconst 0) := by decide +kernel
theorem i0_1883 : am_ins 0 1883 = some (.ireturn) := by decide +kernel
theorem i0_1884 : am_ins 0 1884 = some (.iload 6) := by decide +kernel
theorem i0_1886 : am_ins 0 1886 = some (.ifCond .ne 15) := by decide +kernel
theorem i0_1889 : am_ins 0 1889 = some (.aload_n 3) := by decide +kernel
theorem i0_1890 : am_ins 0 1890 = some (.iconst 0) := by decide +kernel
theorem i0_1891 : am_ins 0 1891 = some (.laload) := by decide +kernel
theorem i0_1892 : am_ins 0 1892 = some (.iload 7) := by decide +kernel
theorem i0_1894 : am_ins 0 1894 = some (.i2l) := by decide +kernel
theorem i0_1895 : am_ins 0 1895 = some (.lcmp) := by decide +kernel
theorem i0_1896 : am_ins 0 1896 = some (.ifCond .eq 5) := by decide +kernel
theorem i0_1899 : am_ins 0 1899 = some (.iconst 0) := by decide +kernel
theorem i0_1900 : am_ins 0 1900 = some (.ireturn) := by decide +kernel
theorem i0_1901 : am_ins 0 1901 = some (.goto 1428) := by decide +kernel
theorem i0_1904 : am_ins 0 1904 = some (.aload_n 1) := by decide +kernel
theorem i0_1905 : am_ins 0 1905 = some (.aload_n 0) := by decide +kernel
theorem i0_1906 : am_ins 0 1906 = some (.iload 5) := by decide +kernel
theorem i0_1908 : am_ins 0 1908 = some (.iconst 1) := by decide +kernel
theorem i0_1909 : am_ins 0 1909 = some (.iadd) := by decide +kernel
theorem i0_1910 : am_ins 0 1910 = some (.iaload) := by decide +kernel
theorem i0_1911 : am_ins 0 1911 = some (.aload_n 0) := by decide +kernel
theorem i0_1912 : am_ins 0 1912 = some (.iload 5) := by decide +kernel
theorem i0_1914 : am_ins 0 1914 = some (.iconst 2) := by decide +kernel
theorem i0_1915 : am_ins 0 1915 = some (.iadd) := by decide +kernel
theorem i0_1916 : am_ins 0 1916 = some (.iaload) := by decide +kernel
theorem i0_1917 : am_ins 0 1917 = some (.aload_n 3) := by decide +kernel
theorem i0_1918 : am_ins 0 1918 = some (.invokestatic 285) := by decide +kernel
theorem i0_1921 : am_ins 0 1921 = some (.istore 6) := by decide +kernel
theorem i0_1923 : am_ins 0 1923 = some (.aload_n 2) := by decide +kernel
theorem i0_1924 : am_ins 0 1924 = some (.aload_n 0) := by decide +kernel
theorem i0_1925 : am_ins 0 1925 = some (.iload 5) := by decide +kernel
theorem i0_1927 : am_ins 0 1927 = some (.iconst 1) := by decide +kernel
theorem i0_1928 : am_ins 0 1928 = some (.iadd) := by decide +kernel
theorem i0_1929 : am_ins 0 1929 = some (.iaload) := by decide +kernel
theorem i0_1930 : am_ins 0 1930 = some (.aload_n 0) := by decide +kernel
theorem i0_1931 : am_ins 0 1931 = some (.iload 5) := by decide +kernel
theorem i0_1933 : am_ins 0 1933 = some (.iconst 2) := by decide +kernel
theorem i0_1934 : am_ins 0 1934 = some (.iadd) := by decide +kernel
theorem i0_1935 : am_ins 0 1935 = some (.iaload) := by decide +kernel
theorem i0_1936 : am_ins 0 1936 = some (.invokevirtual 287) := by decide +kernel
theorem i0_1939 : am_ins 0 1939 = some (.istore 7) := by decide +kernel
theorem i0_1941 : am_ins 0 1941 = some (.aload_n 2) := by decide +kernel
theorem i0_1942 : am_ins 0 1942 = some (.invokevirtual 188) := by decide +kernel
theorem i0_1945 : am_ins 0 1945 = some (.iload 6) := by decide +kernel
theorem i0_1947 : am_ins 0 1947 = some (.if_icmp .eq 5) := by decide +kernel
theorem i0_1950 : am_ins 0 1950 = some (.iconst 0) := by decide +kernel
theorem i0_1951 : am_ins 0 1951 = some (.ireturn) := by decide +kernel
theorem i0_1952 : am_ins 0 1952 = some (.iload 6) := by decide +kernel
theorem i0_1954 : am_ins 0 1954 = some (.ifCond .ne 15) := by decide +kernel
theorem i0_1957 : am_ins 0 1957 = some (.aload_n 3) := by decide +kernel
theorem i0_1958 : am_ins 0 1958 = some (.iconst 0) := by decide +kernel
theorem i0_1959 : am_ins 0 1959 = some (.laload) := by decide +kernel
theorem i0_1960 : am_ins 0 1960 = some (.iload 7) := by decide +kernel
theorem i0_1962 : am_ins 0 1962 = some (.i2l) := by decide +kernel
theorem i0_1963 : am_ins 0 1963 = some (.lcmp) := by decide +kernel
theorem i0_1964 : am_ins 0 1964 = some (.ifCond .eq 5) := by decide +kernel
theorem i0_1967 : am_ins 0 1967 = some (.iconst 0) := by decide +kernel
theorem i0_1968 : am_ins 0 1968 = some (.ireturn) := by decide +kernel
theorem i0_1969 : am_ins 0 1969 = some (.goto 1360) := by decide +kernel
theorem i0_1972 : am_ins 0 1972 = some (.aload_n 1) := by decide +kernel
theorem i0_1973 : am_ins 0 1973 = some (.aload_n 3) := by decide +kernel
theorem i0_1974 : am_ins 0 1974 = some (.invokestatic 288) := by decide +kernel
theorem i0_1977 : am_ins 0 1977 = some (.istore 6) := by decide +kernel
theorem i0_1979 : am_ins 0 1979 = some (.aload_n 2) := by decide +kernel
theorem i0_1980 : am_ins 0 1980 = some (.invokevirtual 290) := by decide +kernel
theorem i0_1983 : am_ins 0 1983 = some (.istore 7) := by decide +kernel
theorem i0_1985 : am_ins 0 1985 = some (.aload_n 2) := by decide +kernel
theorem i0_1986 : am_ins 0 1986 = some (.invokevirtual 188) := by decide +kernel
theorem i0_1989 : am_ins 0 1989 = some (.iload 6) := by decide +kernel
theorem i0_1991 : am_ins 0 1991 = some (.if_icmp .eq 5) := by decide +kernel
theorem i0_1994 : am_ins 0 1994 = some (.iconst 0) := by decide +kernel
theorem i0_1995 : am_ins 0 1995 = some (.ireturn) := by decide +kernel
theorem i0_1996 : am_ins 0 1996 = some (.iload 6) := by decide +kernel
theorem i0_1998 : am_ins 0 1998 = some (.ifCond .ne 15) := by decide +kernel
theorem i0_2001 : am_ins 0 2001 = some (.aload_n 3) := by decide +kernel
theorem i0_2002 : am_ins 0 2002 = some (.iconst 0) := by decide +kernel
theorem i0_2003 : am_ins 0 2003 = some (.laload) := by decide +kernel
theorem i0_2004 : am_ins 0 2004 = some (.iload 7) := by decide +kernel
theorem i0_2006 : am_ins 0 2006 = some (.i2l) := by decide +kernel
theorem i0_2007 : am_ins 0 2007 = some (.lcmp) := by decide +kernel
theorem i0_2008 : am_ins 0 2008 = some (.ifCond .eq 5) := by decide +kernel
theorem i0_2011 : am_ins 0 2011 = some (.iconst 0) := by decide +kernel
theorem i0_2012 : am_ins 0 2012 = some (.ireturn) := by decide +kernel
theorem i0_2013 : am_ins 0 2013 = some (.goto 1316) := by decide +kernel
theorem i0_2016 : am_ins 0 2016 = some (.aload_n 1) := by decide +kernel
theorem i0_2017 : am_ins 0 2017 = some (.aload_n 0) := by decide +kernel
theorem i0_2018 : am_ins 0 2018 = some (.iload 5) := by decide +kernel
theorem i0_2020 : am_ins 0 2020 = some (.iconst 1) := by decide +kernel
theorem i0_2021 : am_ins 0 2021 = some (.iadd) := by decide +kernel
theorem i0_2022 : am_ins 0 2022 = some (.iaload) := by decide +kernel
theorem i0_2023 : am_ins 0 2023 = some (.aload_n 3) := by decide +kernel
theorem i0_2024 : am_ins 0 2024 = some (.invokestatic 291) := by decide +kernel
theorem i0_2027 : am_ins 0 2027 = some (.istore 6) := by decide +kernel
theorem i0_2029 : am_ins 0 2029 = some (.aload_n 2) := by decide +kernel
theorem i0_2030 : am_ins 0 2030 = some (.aload_n 0) := by decide +kernel
theorem i0_2031 : am_ins 0 2031 = some (.iload 5) := by decide +kernel
theorem i0_2033 : am_ins 0 2033 = some (.iconst 1) := by decide +kernel
theorem i0_2034 : am_ins 0 2034 = some (.iadd) := by decide +kernel
theorem i0_2035 : am_ins 0 2035 = some (.iaload) := by decide +kernel
theorem i0_2036 : am_ins 0 2036 = some (.invokevirtual 293) := by decide +kernel
theorem i0_2039 : am_ins 0 2039 = some (.istore 7) := by decide +kernel
theorem i0_2041 : am_ins 0 2041 = some (.aload_n 2) := by decide +kernel
theorem i0_2042 : am_ins 0 2042 = some (.invokevirtual 188) := by decide +kernel
theorem i0_2045 : am_ins 0 2045 = some (.iload 6) := by decide +kernel
theorem i0_2047 : am_ins 0 2047 = some (.if_icmp .eq 5) := by decide +kernel
theorem i0_2050 : am_ins 0 2050 = some (.iconst 0) := by decide +kernel
theorem i0_2051 : am_ins 0 2051 = some (.ireturn) := by decide +kernel
theorem i0_2052 : am_ins 0 2052 = some (.iload 6) := by decide +kernel
theorem i0_2054 : am_ins 0 2054 = some (.ifCond .ne 15) := by decide +kernel
theorem i0_2057 : am_ins 0 2057 = some (.aload_n 3) := by decide +kernel
theorem i0_2058 : am_ins 0 2058 = some (.iconst 0) := by decide +kernel
theorem i0_2059 : am_ins 0 2059 = some (.laload) := by decide +kernel
theorem i0_2060 : am_ins 0 2060 = some (.iload 7) := by decide +kernel
theorem i0_2062 : am_ins 0 2062 = some (.i2l) := by decide +kernel
theorem i0_2063 : am_ins 0 2063 = some (.lcmp) := by decide +kernel
theorem i0_2064 : am_ins 0 2064 = some (.ifCond .eq 5) := by decide +kernel
theorem i0_2067 : am_ins 0 2067 = some (.iconst 0) := by decide +kernel
theorem i0_2068 : am_ins 0 2068 = some (.ireturn) := by decide +kernel
theorem i0_2069 : am_ins 0 2069 = some (.goto 1260) := by decide +kernel
theorem i0_2072 : am_ins 0 2072 = some (.aload_n 1) := by decide +kernel
theorem i0_2073 : am_ins 0 2073 = some (.aload_n 3) := by decide +kernel
theorem i0_2074 : am_ins 0 2074 = some (.invokestatic 294) := by decide +kernel
theorem i0_2077 : am_ins 0 2077 = some (.istore 6) := by decide +kernel
theorem i0_2079 : am_ins 0 2079 = some (.aload_n 2) := by decide +kernel
theorem i0_2080 : am_ins 0 2080 = some (.invokevirtual 296) := by decide +kernel
theorem i0_2083 : am_ins 0 2083 = some (.istore 7) := by decide +kernel
theorem i0_2085 : am_ins 0 2085 = some (.aload_n 2) := by decide +kernel
theorem i0_2086 : am_ins 0 2086 = some (.invokevirtual 188) := by decide +kernel
theorem i0_2089 : am_ins 0 2089 = some (.iload 6) := by decide +kernel
theorem i0_2091 : am_ins 0 2091 = some (.if_icmp .eq 5) := by decide +kernel
theorem i0_2094 : am_ins 0 2094 = some (.iconst 0) := by decide +kernel
theorem i0_2095 : am_ins 0 2095 = some (.ireturn) := by decide +kernel
theorem i0_2096 : am_ins 0 2096 = some (.iload 6) := by decide +kernel
theorem i0_2098 : am_ins 0 2098 = some (.ifCond .ne 15) := by decide +kernel
theorem i0_2101 : am_ins 0 2101 = some (.aload_n 3) := by decide +kernel
theorem i0_2102 : am_ins 0 2102 = some (.iconst 0) := by decide +kernel
theorem i0_2103 : am_ins 0 2103 = some (.laload) := by decide +kernel
theorem i0_2104 : am_ins 0 2104 = some (.iload 7) := by decide +kernel
theorem i0_2106 : am_ins 0 2106 = some (.i2l) := by decide +kernel
theorem i0_2107 : am_ins 0 2107 = some (.lcmp) := by decide +kernel
theorem i0_2108 : am_ins 0 2108 = some (.ifCond .eq 5) := by decide +kernel
theorem i0_2111 : am_ins 0 2111 = some (.iconst 0) := by decide +kernel
theorem i0_2112 : am_ins 0 2112 = some (.ireturn) := by decide +kernel
theorem i0_2113 : am_ins 0 2113 = some (.goto 1216) := by decide +kernel
theorem i0_2116 : am_ins 0 2116 = some (.aload_n 1) := by decide +kernel
theorem i0_2117 : am_ins 0 2117 = some (.aload_n 0) := by decide +kernel
theorem i0_2118 : am_ins 0 2118 = some (.iload 5) := by decide +kernel
theorem i0_2120 : am_ins 0 2120 = some (.iconst 1) := by decide +kernel
theorem i0_2121 : am_ins 0 2121 = some (.iadd) := by decide +kernel
theorem i0_2122 : am_ins 0 2122 = some (.iaload) := by decide +kernel
theorem i0_2123 : am_ins 0 2123 = some (.aload_n 3) := by decide +kernel
theorem i0_2124 : am_ins 0 2124 = some (.invokestatic 297) := by decide +kernel
theorem i0_2127 : am_ins 0 2127 = some (.istore 6) := by decide +kernel
theorem i0_2129 : am_ins 0 2129 = some (.aload_n 2) := by decide +kernel
theorem i0_2130 : am_ins 0 2130 = some (.aload_n 0) := by decide +kernel
theorem i0_2131 : am_ins 0 2131 = some (.iload 5) := by decide +kernel
theorem i0_2133 : am_ins 0 2133 = some (.iconst 1) := by decide +kernel
theorem i0_2134 : am_ins 0 2134 = some (.iadd) := by decide +kernel
theorem i0_2135 : am_ins 0 2135 = some (.iaload) := by decide +kernel
theorem i0_2136 : am_ins 0 2136 = some (.invokevirtual 299) := by decide +kernel
theorem i0_2139 : am_ins 0 2139 = some (.istore 7) := by decide +kernel
theorem i0_2141 : am_ins 0 2141 = some (.aload_n 2) := by decide +kernel
theorem i0_2142 : am_ins 0 2142 = some (.invokevirtual 188) := by decide +kernel
theorem i0_2145 : am_ins 0 2145 = some (.iload 6) := by decide +kernel
theorem i0_2147 : am_ins 0 2147 = some (.if_icmp .eq 5) := by decide +kernel
theorem i0_2150 : am_ins 0 2150 = some (.iconst 0) := by decide +kernel
theorem i0_2151 : am_ins 0 2151 = some (.ireturn) := by decide +kernel
theorem i0_2152 : am_ins 0 2152 = some (.iload 6) := by decide +kernel
theorem i0_2154 : am_ins 0 2154 = some (.ifCond .ne 15) := by decide +kernel
theorem i0_2157 : am_ins 0 2157 = some (.aload_n 3) := by decide +kernel
theorem i0_2158 : am_ins 0 2158 = some (.iconst 0) := by decide +kernel
theorem i0_2159 : am_ins 0 2159 = some (.laload) := by decide +kernel
theorem i0_2160 : am_ins 0 2160 = some (.iload 7) := by decide +kernel
theorem i0_2162 : am_ins 0 2162 = some (.i2l) := by decide +kernel
theorem i0_2163 : am_ins 0 2163 = some (.lcmp) := by decide +kernel
theorem i0_2164 : am_ins 0 2164 = some (.ifCond .eq 5) := by decide +kernel
theorem i0_2167 : am_ins 0 2167 = some (.iconst 0) := by decide +kernel
theorem i0_2168 : am_ins 0 2168 = some (.ireturn) := by decide +kernel
theorem i0_2169 : am_ins 0 2169 = some (.goto 1160) := by decide +kernel
theorem i0_2172 : am_ins 0 2172 = some (.aload_n 1) := by decide +kernel
theorem i0_2173 : am_ins 0 2173 = some (.aload_n 0) := by decide +kernel
theorem i0_2174 : am_ins 0 2174 = some (.iload 5) := by decide +kernel
theorem i0_2176 : am_ins 0 2176 = some (.iconst 1) := by decide +kernel
theorem i0_2177 : am_ins 0 2177 = some (.iadd) := by decide +kernel
theorem i0_2178 : am_ins 0 2178 = some (.iaload) := by decide +kernel
theorem i0_2179 : am_ins 0 2179 = some (.aload_n 3) := by decide +kernel
theorem i0_2180 : am_ins 0 2180 = some (.invokestatic 300) := by decide +kernel
theorem i0_2183 : am_ins 0 2183 = some (.istore 6) := by decide +kernel
theorem i0_2185 : am_ins 0 2185 = some (.aload_n 2) := by decide +kernel
theorem i0_2186 : am_ins 0 2186 = some (.aload_n 0) := by decide +kernel
theorem i0_2187 : am_ins 0 2187 = some (.iload 5) := by decide +kernel
theorem i0_2189 : am_ins 0 2189 = some (.iconst 1) := by decide +kernel
theorem i0_2190 : am_ins 0 2190 = some (.iadd) := by decide +kernel
theorem i0_2191 : am_ins 0 2191 = some (.iaload) := by decide +kernel
theorem i0_2192 : am_ins 0 2192 = some (.invokevirtual 302) := by decide +kernel
theorem i0_2195 : am_ins 0 2195 = some (.istore 7) := by decide +kernel
theorem i0_2197 : am_ins 0 2197 = some (.aload_n 2) := by decide +kernel
theorem i0_2198 : am_ins 0 2198 = some (.invokevirtual 188) := by decide +kernel
theorem i0_2201 : am_ins 0 2201 = some (.iload 6) := by decide +kernel
theorem i0_2203 : am_ins 0 2203 = some (.if_icmp .eq 5) := by decide +kernel
theorem i0_2206 : am_ins 0 2206 = some (.iconst 0) := by decide +kernel
theorem i0_2207 : am_ins 0 2207 = some (.ireturn) := by decide +kernel
theorem i0_2208 : am_ins 0 2208 = some (.iload 6) := by decide +kernel
theorem i0_2210 : am_ins 0 2210 = some (.ifCond .ne 15) := by decide +kernel
theorem i0_2213 : am_ins 0 2213 = some (.aload_n 3) := by decide +kernel
theorem i0_2214 : am_ins 0 2214 = some (.iconst 0) := by decide +kernel
theorem i0_2215 : am_ins 0 2215 = some (.laload) := by decide +kernel
theorem i0_2216 : am_ins 0 2216 = some (.iload 7) := by decide +kernel
theorem i0_2218 : am_ins 0 2218 = some (.i2l) := by decide +kernel
theorem i0_2219 : am_ins 0 2219 = some (.lcmp) := by decide +kernel
theorem i0_2220 : am_ins 0 2220 = some (.ifCond .eq 5) := by decide +kernel
theorem i0_2223 : am_ins 0 2223 = some (.iconst 0) := by decide +kernel
theorem i0_2224 : am_ins 0 2224 = some (.ireturn) := by decide +kernel
theorem i0_2225 : am_ins 0 2225 = some (.goto 1104) := by decide +kernel
theorem i0_2228 : am_ins 0 2228 = some (.aload_n 1) := by decide +kernel
theorem i0_2229 : am_ins 0 2229 = some (.aload 4) := by decide +kernel
theorem i0_2231 : am_ins 0 2231 = some (.invokestatic 303) := by decide +kernel
theorem i0_2234 : am_ins 0 2234 = some (.istore 6) := by decide +kernel
theorem i0_2236 : am_ins 0 2236 = some (.aload_n 2) := by decide +kernel
theorem i0_2237 : am_ins 0 2237 = some (.invokevirtual 306) := by decide +kernel
theorem i0_2240 : am_ins 0 2240 = some (.dstore 7) := by decide +kernel
theorem i0_2242 : am_ins 0 2242 = some (.aload_n 2) := by decide +kernel
theorem i0_2243 : am_ins 0 2243 = some (.invokevirtual 188) := by decide +kernel
theorem i0_2246 : am_ins 0 2246 = some (.iload 6) := by decide +kernel
theorem i0_2248 : am_ins 0 2248 = some (.if_icmp .eq 5) := by decide +kernel
theorem i0_2251 : am_ins 0 2251 = some (.iconst 0) := by decide +kernel
theorem i0_2252 : am_ins 0 2252 = some (.ireturn) := by decide +kernel
theorem i0_2253 : am_ins 0 2253 = some (.iload 6) := by decide +kernel
theorem i0_2255 : am_ins 0 2255 = some (.ifCond .ne 35) := by decide +kernel
theorem i0_2258 : am_ins 0 2258 = some (.aload 4) := by decide +kernel
theorem i0_2260 : am_ins 0 2260 = some (.iconst 0) := by decide +kernel
theorem i0_2261 : am_ins 0 2261 = some (.daload) := by decide +kernel
theorem i0_2262 : am_ins 0 2262 = some (.dload 7) := by decide +kernel
theorem i0_2264 : am_ins 0 2264 = some (.dcmp .l) := by decide +kernel
theorem i0_2265 : am_ins 0 2265 = some (.ifCond .eq 25) := by decide +kernel
theorem i0_2268 : am_ins 0 2268 = some (.aload 4) := by decide +kernel
theorem i0_2270 : am_ins 0 2270 = some (.iconst 0) := by decide +kernel
theorem i0_2271 : am_ins 0 2271 = some (.daload) := by decide +kernel
theorem i0_2272 : am_ins 0 2272 = some (.aload 4) := by decide +kernel
theorem i0_2274 : am_ins 0 2274 = some (.iconst 0) := by decide +kernel
theorem i0_2275 : am_ins 0 2275 = some (.daload) := by decide +kernel
theorem i0_2276 : am_ins 0 2276 = some (.dcmp .l) := by decide +kernel
theorem i0_2277 : am_ins 0 2277 = some (.ifCond .eq 11) := by decide +kernel
theorem i0_2280 : am_ins 0 2280 = some (.dload 7) := by decide +kernel
theorem i0_2282 : am_ins 0 2282 = some (.dload 7) := by decide +kernel
theorem i0_2284 : am_ins 0 2284 = some (.dcmp .l) := by decide +kernel
theorem i0_2285 : am_ins 0 2285 = some (.ifCond .ne 5) := by decide +kernel
theorem i0_2288 : am_ins 0 2288 = some (.iconst 0) := by decide +kernel
theorem i0_2289 : am_ins 0 2289 = some (.ireturn) := by decide +kernel
theorem i0_2290 : am_ins 0 2290 = some (.goto 1039) := by decide +kernel
theorem i0_2293 : am_ins 0 2293 = some (.aload_n 1) := by decide +kernel
theorem i0_2294 : am_ins 0 2294 = some (.aload 4) := by decide +kernel
theorem i0_2296 : am_ins 0 2296 = some (.invokestatic 307) := by decide +kernel
theorem i0_2299 : am_ins 0 2299 = some (.istore 6) := by decide +kernel
theorem i0_2301 : am_ins 0 2301 = some (.aload_n 2) := by decide +kernel
theorem i0_2302 : am_ins 0 2302 = some (.invokevirtual 309) := by decide +kernel
theorem i0_2305 : am_ins 0 2305 = some (.fstore 7) := by decide +kernel
theorem i0_2307 : am_ins 0 2307 = some (.aload_n 2) := by decide +kernel
theorem i0_2308 : am_ins 0 2308 = some (.invokevirtual 188) := by decide +kernel
theorem i0_2311 : am_ins 0 2311 = some (.iload 6) := by decide +kernel
theorem i0_2313 : am_ins 0 2313 = some (.if_icmp .eq 5) := by decide +kernel
theorem i0_2316 : am_ins 0 2316 = some (.iconst 0) := by decide +kernel
theorem i0_2317 : am_ins 0 2317 = some (.ireturn) := by decide +kernel
theorem i0_2318 : am_ins 0 2318 = some (.iload 6) := by decide +kernel
theorem i0_2320 : am_ins 0 2320 = some (.ifCond .ne 36) := by decide +kernel
theorem i0_2323 : am_ins 0 2323 = some (.aload 4) := by decide +kernel
theorem i0_2325 : am_ins 0 2325 = some (.iconst 0) := by decide +kernel
theorem i0_2326 : am_ins 0 2326 = some (.daload) := by decide +kernel
theorem i0_2327 : am_ins 0 2327 = some (.fload 7) := by decide +kernel
theorem i0_2329 : am_ins 0 2329 = some (.f2d) := by decide +kernel
theorem i0_2330 : am_ins 0 2330 = some (.dcmp .l) := by decide +kernel
theorem i0_2331 : am_ins 0 2331 = some (.ifCond .eq 25) := by decide +kernel
theorem i0_2334 : am_ins 0 2334 = some (.aload 4) := by decide +kernel
theorem i0_2336 : am_ins 0 2336 = some (.iconst 0) := by decide +kernel
theorem i0_2337 : am_ins 0 2337 = some (.daload) := by decide +kernel
theorem i0_2338 : am_ins 0 2338 = some (.aload 4) := by decide +kernel
theorem i0_2340 : am_ins 0 2340 = some (.iconst 0) := by decide +kernel
theorem i0_2341 : am_ins 0 2341 = some (.daload) := by decide +kernel
theorem i0_2342 : am_ins 0 2342 = some (.dcmp .l) := by decide +kernel
theorem i0_2343 : am_ins 0 2343 = some (.ifCond .eq 11) := by decide +kernel
theorem i0_2346 : am_ins 0 2346 = some (.fload 7) := by decide +kernel
theorem i0_2348 : am_ins 0 2348 = some (.fload 7) := by decide +kernel
theorem i0_2350 : am_ins 0 2350 = some (.fcmp .l) := by decide +kernel
theorem i0_2351 : am_ins 0 2351 = some (.ifCond .ne 5) := by decide +kernel
theorem i0_2354 : am_ins 0 2354 = some (.iconst 0) := by decide +kernel
theorem i0_2355 : am_ins 0 2355 = some (.ireturn) := by decide +kernel
theorem i0_2356 : am_ins 0 2356 = some (.goto 973) := by decide +kernel
theorem i0_2359 : am_ins 0 2359 = some (.aload_n 1) := by decide +kernel
theorem i0_2360 : am_ins 0 2360 = some (.invokevirtual 310) := by decide +kernel
theorem i0_2363 : am_ins 0 2363 = some (.aload_n 2) := by decide +kernel
theorem i0_2364 : am_ins 0 2364 = some (.invokevirtual 313) := by decide +kernel
theorem i0_2367 : am_ins 0 2367 = some (.if_icmp .eq 962) := by decide +kernel
theorem i0_2370 : am_ins 0 2370 = some (.iconst 0) := by decide +kernel
theorem i0_2371 : am_ins 0 2371 = some (.ireturn) := by decide +kernel
theorem i0_2372 : am_ins 0 2372 = some (.aload_n 1) := by decide +kernel
theorem i0_2373 : am_ins 0 2373 = some (.aload_n 0) := by decide +kernel
theorem i0_2374 : am_ins 0 2374 = some (.iload 5) := by decide +kernel
theorem i0_2376 : am_ins 0 2376 = some (.iconst 1) := by decide +kernel
theorem i0_2377 : am_ins 0 2377 = some (.iadd) := by decide +kernel
theorem i0_2378 : am_ins 0 2378 = some (.iaload) := by decide +kernel
theorem i0_2379 : am_ins 0 2379 = some (.aload_n 0) := by decide +kernel
theorem i0_2380 : am_ins 0 2380 = some (.iload 5) := by decide +kernel
theorem i0_2382 : am_ins 0 2382 = some (.iconst 2) := by decide +kernel
theorem i0_2383 : am_ins 0 2383 = some (.iadd) := by decide +kernel
theorem i0_2384 : am_ins 0 2384 = some (.iaload) := by decide +kernel
theorem i0_2385 : am_ins 0 2385 = some (.aload_n 3) := by decide +kernel
theorem i0_2386 : am_ins 0 2386 = some (.invokestatic 314) := by decide +kernel
theorem i0_2389 : am_ins 0 2389 = some (.istore 6) := by decide +kernel
theorem i0_2391 : am_ins 0 2391 = some (.aload_n 2) := by decide +kernel
theorem i0_2392 : am_ins 0 2392 = some (.aload_n 0) := by decide +kernel
theorem i0_2393 : am_ins 0 2393 = some (.iload 5) := by decide +kernel
theorem i0_2395 : am_ins 0 2395 = some (.iconst 1) := by decide +kernel
theorem i0_2396 : am_ins 0 2396 = some (.iadd) := by decide +kernel
theorem i0_2397 : am_ins 0 2397 = some (.iaload) := by decide +kernel
theorem i0_2398 : am_ins 0 2398 = some (.aload_n 0) := by decide +kernel
theorem i0_2399 : am_ins 0 2399 = some (.iload 5) := by decide +kernel
theorem i0_2401 : am_ins 0 2401 = some (.iconst 2) := by decide +kernel
theorem i0_2402 : am_ins 0 2402 = some (.iadd) := by decide +kernel
theorem i0_2403 : am_ins 0 2403 = some (.iaload) := by decide +kernel
theorem i0_2404 : am_ins 0 2404 = some (.invokevirtual 316) := by decide +kernel
theorem i0_2407 : am_ins 0 2407 = some (.istore 7) := by decide +kernel
theorem i0_2409 : am_ins 0 2409 = some (.aload_n 2) := by decide +kernel
theorem i0_2410 : am_ins 0 2410 = some (.invokevirtual 188) := by decide +kernel
theorem i0_2413 : am_ins 0 2413 = some (.iload 6) := by decide +kernel
theorem i0_2415 : am_ins 0 2415 = some (.if_icmp .eq 5) := by decide +kernel
theorem i0_2418 : am_ins 0 2418 = some (.iconst 0) := by decide +kernel
theorem i0_2419 : am_ins 0 2419 = some (.ireturn) := by decide +kernel
theorem i0_2420 : am_ins 0 2420 = some (.iload 6) := by decide +kernel
theorem i0_2422 : am_ins 0 2422 = some (.ifCond .ne 15) := by decide +kernel
theorem i0_2425 : am_ins 0 2425 = some (.aload_n 3) := by decide +kernel
theorem i0_2426 : am_ins 0 2426 = some (.iconst 0) := by decide +kernel
theorem i0_2427 : am_ins 0 2427 = some (.laload) := by decide +kernel
theorem i0_2428 : am_ins 0 2428 = some (.iload 7) := by decide +kernel
theorem i0_2430 : am_ins 0 2430 = some (.i2l) := by decide +kernel
theorem i0_2431 : am_ins 0 2431 = some (.lcmp) := by decide +kernel
theorem i0_2432 : am_ins 0 2432 = some (.ifCond .eq 5) := by decide +kernel
theorem i0_2435 : am_ins 0 2435 = some (.iconst 0) := by decide +kernel
theorem i0_2436 : am_ins 0 2436 = some (.ireturn) := by decide +kernel
theorem i0_2437 : am_ins 0 2437 = some (.goto 892) := by decide +kernel
theorem i0_2440 : am_ins 0 2440 = some (.aload_n 1) := by decide +kernel
theorem i0_2441 : am_ins 0 2441 = some (.aload_n 3) := by decide +kernel
theorem i0_2442 : am_ins 0 2442 = some (.invokestatic 317) := by decide +kernel
theorem i0_2445 : am_ins 0 2445 = some (.istore 6) := by decide +kernel
theorem i0_2447 : am_ins 0 2447 = some (.aload_n 2) := by decide +kernel
theorem i0_2448 : am_ins 0 2448 = some (.invokevirtual 319) := by decide +kernel
theorem i0_2451 : am_ins 0 2451 = some (.istore 7) := by decide +kernel
theorem i0_2453 : am_ins 0 2453 = some (.aload_n 2) := by decide +kernel
theorem i0_2454 : am_ins 0 2454 = some (.invokevirtual 188) := by decide +kernel
theorem i0_2457 : am_ins 0 2457 = some (.iload 6) := by decide +kernel
theorem i0_2459 : am_ins 0 2459 = some (.if_icmp .eq 5) := by decide +kernel
theorem i0_2462 : am_ins 0 2462 = some (.iconst 0) := by decide +kernel
theorem i0_2463 : am_ins 0 2463 = some (.ireturn) := by decide +kernel
theorem i0_2464 : am_ins 0 2464 = some (.iload 6) := by decide +kernel
theorem i0_2466 : am_ins 0 2466 = some (.ifCond .ne 15) := by decide +kernel
theorem i0_2469 : am_ins 0 2469 = some (.aload_n 3) := by decide +kernel
theorem i0_2470 : am_ins 0 2470 = some (.iconst 0) := by decide +kernel
theorem i0_2471 : am_ins 0 2471 = some (.laload) := by decide +kernel
theorem i0_2472 : am_ins 0 2472 = some (.iload 7) := by decide +kernel
theorem i0_2474 : am_ins 0 2474 = some (.i2l) := by decide +kernel
theorem i0_2475 : am_ins 0 2475 = some (.lcmp) := by decide +kernel
theorem i0_2476 : am_ins 0 2476 = some (.ifCond .eq 5) := by decide +kernel
theorem i0_2479 : am_ins 0 2479 = some (.iconst 0) := by decide +kernel
theorem i0_2480 : am_ins 0 2480 = some (.ireturn) := by decide +kernel
theorem i0_2481 : am_ins 0 2481 = some (.goto 848) := by decide +kernel
theorem i0_2484 : am_ins 0 2484 = some (.aload_n 1) := by decide +kernel
theorem i0_2485 : am_ins 0 2485 = some (.aload_n 0) := by decide +kernel
theorem i0_2486 : am_ins 0 2486 = some (.iload 5) := by decide +kernel
theorem i0_2488 : am_ins 0 2488 = some (.iconst 1) := by decide +kernel
theorem i0_2489 : am_ins 0 2489 = some (.iadd) := by decide +kernel
theorem i0_2490 : am_ins 0 2490 = some (.iaload) := by decide +kernel
theorem i0_2491 : am_ins 0 2491 = some (.aload_n 3) := by decide +kernel
theorem i0_2492 : am_ins 0 2492 = some (.invokestatic 320) := by decide +kernel
theorem i0_2495 : am_ins 0 2495 = some (.istore 6) := by decide +kernel
theorem i0_2497 : am_ins 0 2497 = some (.aload_n 2) := by decide +kernel
theorem i0_2498 : am_ins 0 2498 = some (.aload_n 0) := by decide +kernel
theorem i0_2499 : am_ins 0 2499 = some (.iload 5) := by decide +kernel
theorem i0_2501 : am_ins 0 2501 = some (.iconst 1) := by decide +kernel
theorem i0_2502 : am_ins 0 2502 = some (.iadd) := by decide +kernel
theorem i0_2503 : am_ins 0 2503 = some (.iaload) := by decide +kernel
theorem i0_2504 : am_ins 0 2504 = some (.invokevirtual 322) := by decide +kernel
theorem i0_2507 : am_ins 0 2507 = some (.istore 7) := by decide +kernel
theorem i0_2509 : am_ins 0 2509 = some (.aload_n 2) := by decide +kernel
theorem i0_2510 : am_ins 0 2510 = some (.invokevirtual 188) := by decide +kernel
theorem i0_2513 : am_ins 0 2513 = some (.iload 6) := by decide +kernel
theorem i0_2515 : am_ins 0 2515 = some (.if_icmp .eq 5) := by decide +kernel
theorem i0_2518 : am_ins 0 2518 = some (.iconst 0) := by decide +kernel
theorem i0_2519 : am_ins 0 2519 = some (.ireturn) := by decide +kernel
theorem i0_2520 : am_ins 0 2520 = some (.iload 6) := by decide +kernel
theorem i0_2522 : am_ins 0 2522 = some (.ifCond .ne 15) := by decide +kernel
theorem i0_2525 : am_ins 0 2525 = some (.aload_n 3) := by decide +kernel
theorem i0_2526 : am_ins 0 2526 = some (.iconst 0) := by decide +kernel
theorem i0_2527 : am_ins 0 2527 = some (.laload) := by decide +kernel
theorem i0_2528 : am_ins 0 2528 = some (.iload 7) := by decide +kernel
theorem i0_2530 : am_ins 0 2530 = some (.i2l) := by decide +kernel
theorem i0_2531 : am_ins 0 2531 = some (.lcmp) := by decide +kernel
theorem i0_2532 : am_ins 0 2532 = some (.ifCond .eq 5) := by decide +kernel
theorem i0_2535 : am_ins 0 2535 = some (.iconst 0) := by decide +kernel
theorem i0_2536 : am_ins 0 2536 = some (.ireturn) := by decide +kernel
theorem i0_2537 : am_ins 0 2537 = some (.goto 792) := by decide +kernel
theorem i0_2540 : am_ins 0 2540 = some (.aload_n 1) := by decide +kernel
theorem i0_2541 : am_ins 0 2541 = some (.aload_n 0) := by decide +kernel
theorem i0_2542 : am_ins 0 2542 = some (.iload 5) := by decide +kernel
theorem i0_2544 : am_ins 0 2544 = some (.iconst 1) := by decide +kernel
theorem i0_2545 : am_ins 0 2545 = some (.iadd) := by decide +kernel
theorem i0_2546 : am_ins 0 2546 = some (.iaload) := by decide +kernel
theorem i0_2547 : am_ins 0 2547 = some (.aload_n 3) := by decide +kernel
theorem i0_2548 : am_ins 0 2548 = some (.invokestatic 323) := by decide +kernel
theorem i0_2551 : am_ins 0 2551 = some (.istore 6) := by decide +kernel
theorem i0_2553 : am_ins 0 2553 = some (.aload_n 2) := by decide +kernel
theorem i0_2554 : am_ins 0 2554 = some (.aload_n 0) := by decide +kernel
theorem i0_2555 : am_ins 0 2555 = some (.iload 5) := by decide +kernel
theorem i0_2557 : am_ins 0 2557 = some (.iconst 1) := by decide +kernel
theorem i0_2558 : am_ins 0 2558 = some (.iadd) := by decide +kernel
theorem i0_2559 : am_ins 0 2559 = some (.iaload) := by decide +kernel
theorem i0_2560 : am_ins 0 2560 = some (.invokevirtual 325) := by decide +kernel
theorem i0_2563 : am_ins 0 2563 = some (.istore 7) := by decide +kernel
theorem i0_2565 : am_ins 0 2565 = some (.aload_n 2) := by decide +kernel
theorem i0_2566 : am_ins 0 2566 = some (.invokevirtual 188) := by decide +kernel
theorem i0_2569 : am_ins 0 2569 = some (.iload 6) := by decide +kernel
theorem i0_2571 : am_ins 0 2571 = some (.if_icmp .eq 5) := by decide +kernel
theorem i0_2574 : am_ins 0 2574 = some (.iconst 0) := by decide +kernel
theorem i0_2575 : am_ins 0 2575 = some (.ireturn) := by decide +kernel
theorem i0_2576 : am_ins 0 2576 = some (.iload 6) := by decide +kernel
theorem i0_2578 : am_ins 0 2578 = some (.ifCond .ne 15) := by decide +kernel
theorem i0_2581 : am_ins 0 2581 = some (.aload_n 3) := by decide +kernel
theorem i0_2582 : am_ins 0 2582 = some (.iconst 0) := by decide +kernel
theorem i0_2583 : am_ins 0 2583 = some (.laload) := by decide +kernel
theorem i0_2584 : am_ins 0 2584 = some (.iload 7) := by decide +kernel
theorem i0_2586 : am_ins 0 2586 = some (.i2l) := by decide +kernel
theorem i0_2587 : am_ins 0 2587 = some (.lcmp) := by decide +kernel
theorem i0_2588 : am_ins 0 2588 = some (.ifCond .eq 5) := by decide +kernel
theorem i0_2591 : am_ins 0 2591 = some (.iconst 0) := by decide +kernel
theorem i0_2592 : am_ins 0 2592 = some (.ireturn) := by decide +kernel
theorem i0_2593 : am_ins 0 2593 = some (.goto 736) := by decide +kernel
theorem i0_2596 : am_ins 0 2596 = some (.aload_n 1) := by decide +kernel
theorem i0_2597 : am_ins 0 2597 = some (.aload_n 0) := by decide +kernel
theorem i0_2598 : am_ins 0 2598 = some (.iload 5) := by decide +kernel
theorem i0_2600 : am_ins 0 2600 = some (.iconst 1) := by decide +kernel
theorem i0_2601 : am_ins 0 2601 = some (.iadd) := by decide +kernel
theorem i0_2602 : am_ins 0 2602 = some (.iaload) := by decide +kernel
theorem i0_2603 : am_ins 0 2603 = some (.aload_n 0) := by decide +kernel
theorem i0_2604 : am_ins 0 2604 = some (.iload 5) := by decide +kernel
theorem i0_2606 : am_ins 0 2606 = some (.iconst 2) := by decide +kernel
theorem i0_2607 : am_ins 0 2607 = some (.iadd) := by decide +kernel
theorem i0_2608 : am_ins 0 2608 = some (.iaload) := by decide +kernel
theorem i0_2609 : am_ins 0 2609 = some (.aload_n 3) := by decide +kernel
theorem i0_2610 : am_ins 0 2610 = some (.invokestatic 326) := by decide +kernel
theorem i0_2613 : am_ins 0 2613 = some (.istore 6) := by decide +kernel
theorem i0_2615 : am_ins 0 2615 = some (.aload_n 2) := by decide +kernel
theorem i0_2616 : am_ins 0 2616 = some (.aload_n 0) := by decide +kernel
theorem i0_2617 : am_ins 0 2617 = some (.iload 5) := by decide +kernel
theorem i0_2619 : am_ins 0 2619 = some (.iconst 1) := by decide +kernel
theorem i0_2620 : am_ins 0 2620 = some (.iadd) := by decide +kernel
theorem i0_2621 : am_ins 0 2621 = some (.iaload) := by decide +kernel
theorem i0_2622 : am_ins 0 2622 = some (.aload_n 0) := by decide +kernel
theorem i0_2623 : am_ins 0 2623 = some (.iload 5) := by decide +kernel
theorem i0_2625 : am_ins 0 2625 = some (.iconst 2) := by decide +kernel
theorem i0_2626 : am_ins 0 2626 = some (.iadd) := by decide +kernel
theorem i0_2627 : am_ins 0 2627 = some (.iaload) := by decide +kernel
theorem i0_2628 : am_ins 0 2628 = some (.invokevirtual 328) := by decide +kernel
theorem i0_2631 : am_ins 0 2631 = some (.istore 7) := by decide +kernel
theorem i0_2633 : am_ins 0 2633 = some (.aload_n 2) := by decide +kernel
theorem i0_2634 : am_ins 0 2634 = some (.invokevirtual 188) := by decide +kernel
theorem i0_2637 : am_ins 0 2637 = some (.iload 6) := by decide +kernel
theorem i0_2639 : am_ins 0 2639 = some (.if_icmp .eq 5) := by decide +kernel
theorem i0_2642 : am_ins 0 2642 = some (.iconst 0) := by decide +kernel
theorem i0_2643 : am_ins 0 2643 = some (.ireturn) := by decide +kernel
theorem i0_2644 : am_ins 0 2644 = some (.iload 6) := by decide +kernel
theorem i0_2646 : am_ins 0 2646 = some (.ifCond .ne 15) := by decide +kernel
theorem i0_2649 : am_ins 0 2649 = some (.aload_n 3) := by decide +kernel
theorem i0_2650 : am_ins 0 2650 = some (.iconst 0) := by decide +kernel
theorem i0_2651 : am_ins 0 2651 = some (.laload) := by decide +kernel
theorem i0_2652 : am_ins 0 2652 = some (.iload 7) := by decide +kernel
theorem i0_2654 : am_ins 0 2654 = some (.i2l) := by decide +kernel
theorem i0_2655 : am_ins 0 2655 = some (.lcmp) := by decide +kernel
theorem i0_2656 : am_ins 0 2656 = some (.ifCond .eq 5) := by decide +kernel
theorem i0_2659 : am_ins 0 2659 = some (.iconst 0) := by decide +kernel
theorem i0_2660 : am_ins 0 2660 = some (.ireturn) := by decide +kernel
theorem i0_2661 : am_ins 0 2661 = some (.goto 668) := by decide +kernel
theorem i0_2664 : am_ins 0 2664 = some (.aload_n 1) := by decide +kernel
theorem i0_2665 : am_ins 0 2665 = some (.aload_n 0) := by decide +kernel
theorem i0_2666 : am_ins 0 2666 = some (.iload 5) := by decide +kernel
theorem i0_2668 : am_ins 0 2668 = some (.iconst 1) := by decide +kernel
theorem i0_2669 : am_ins 0 2669 = some (.iadd) := by decide +kernel
theorem i0_2670 : am_ins 0 2670 = some (.iaload) := by decide +kernel
theorem i0_2671 : am_ins 0 2671 = some (.aload_n 0) := by decide +kernel
theorem i0_2672 : am_ins 0 2672 = some (.iload 5) := by decide +kernel
theorem i0_2674 : am_ins 0 2674 = some (.iconst 2) := by decide +kernel
theorem i0_2675 : am_ins 0 2675 = some (.iadd) := by decide +kernel
theorem i0_2676 : am_ins 0 2676 = some (.iaload) := by decide +kernel
theorem i0_2677 : am_ins 0 2677 = some (.aload_n 3) := by decide +kernel
theorem i0_2678 : am_ins 0 2678 = some (.invokestatic 329) := by decide +kernel
theorem i0_2681 : am_ins 0 2681 = some (.istore 6) := by decide +kernel
theorem i0_2683 : am_ins 0 2683 = some (.aload_n 2) := by decide +kernel
theorem i0_2684 : am_ins 0 2684 = some (.aload_n 0) := by decide +kernel
theorem i0_2685 : am_ins 0 2685 = some (.iload 5) := by decide +kernel
theorem i0_2687 : am_ins 0 2687 = some (.iconst 1) := by decide +kernel
theorem i0_2688 : am_ins 0 2688 = some (.iadd) := by decide +kernel
theorem i0_2689 : am_ins 0 2689 = some (.iaload) := by decide +kernel
theorem i0_2690 : am_ins 0 2690 = some (.aload_n 0) := by decide +kernel
theorem i0_2691 : am_ins 0 2691 = some (.iload 5) := by decide +kernel
theorem i0_2693 : am_ins 0 2693 = some (.iconst 2) := by decide +kernel
theorem i0_2694 : am_ins 0 2694 = some (.iadd) := by decide +kernel
theorem i0_2695 : am_ins 0 2695 = some (.iaload) := by decide +kernel
theorem i0_2696 : am_ins 0 2696 = some (.invokevirtual 331) := by decide +kernel
theorem i0_2699 : am_ins 0 2699 = some (.istore 7) := by decide +kernel
theorem i0_2701 : am_ins 0 2701 = some (.aload_n 2) := by decide +kernel
theorem i0_2702 : am_ins 0 2702 = some (.invokevirtual 188) := by decide +kernel
theorem i0_2705 : am_ins 0 2705 = some (.iload 6) := by decide +kernel
theorem i0_2707 : am_ins 0 2707 = some (.if_icmp .eq 5) := by decide +kernel
theorem i0_2710 : am_ins 0 2710 = some (.iconst 0) := by decide +kernel
theorem i0_2711 : am_ins 0 2711 = some (.ireturn) := by decide +kernel
theorem i0_2712 : am_ins 0 2712 = some (.iload 6) := by decide +kernel
theorem i0_2714 : am_ins 0 2714 = some (.ifCond .ne 15) := by decide +kernel
theorem i0_2717 : am_ins 0 2717 = some (.aload_n 3) := by decide +kernel
theorem i0_2718 : am_ins 0 2718 = some (.iconst 0) := by decide +kernel
theorem i0_2719 : am_ins 0 2719 = some (.laload) := by decide +kernel
theorem i0_2720 : am_ins 0 2720 = some (.iload 7) := by decide +kernel
theorem i0_2722 : am_ins 0 2722 = some (.i2l) := by decide +kernel
theorem i0_2723 : am_ins 0 2723 = some (.lcmp) := by decide +kernel
theorem i0_2724 : am_ins 0 2724 = some (.ifCond .eq 5) := by decide +kernel
theorem i0_2727 : am_ins 0 2727 = some (.iconst 0) := by decide +kernel
theorem i0_2728 : am_ins 0 2728 = some (.ireturn) := by decide +kernel
theorem i0_2729 : am_ins 0 2729 = some (.goto 600) := by decide +kernel
theorem i0_2732 : am_ins 0 2732 = some (.aload_n 1) := by decide +kernel
theorem i0_2733 : am_ins 0 2733 = some (.aload_n 0) := by decide +kernel
theorem i0_2734 : am_ins 0 2734 = some (.iload 5) := by decide +kernel
theorem i0_2736 : am_ins 0 2736 = some (.iconst 1) := by decide +kernel
theorem i0_2737 : am_ins 0 2737 = some (.iadd) := by decide +kernel
theorem i0_2738 : am_ins 0 2738 = some (.iaload) := by decide +kernel
theorem i0_2739 : am_ins 0 2739 = some (.aload_n 3) := by decide +kernel
theorem i0_2740 : am_ins 0 2740 = some (.invokestatic 332) := by decide +kernel
theorem i0_2743 : am_ins 0 2743 = some (.istore 6) := by decide +kernel
theorem i0_2745 : am_ins 0 2745 = some (.aload_n 2) := by decide +kernel
theorem i0_2746 : am_ins 0 2746 = some (.aload_n 0) := by decide +kernel
theorem i0_2747 : am_ins 0 2747 = some (.iload 5) := by decide +kernel
theorem i0_2749 : am_ins 0 2749 = some (.iconst 1) := by decide +kernel
theorem i0_2750 : am_ins 0 2750 = some (.iadd) := by decide +kernel
theorem i0_2751 : am_ins 0 2751 = some (.iaload) := by decide +kernel
theorem i0_2752 : am_ins 0 2752 = some (.invokevirtual 334) := by decide +kernel
theorem i0_2755 : am_ins 0 2755 = some (.istore 7) := by decide +kernel
theorem i0_2757 : am_ins 0 2757 = some (.aload_n 2) := by decide +kernel
theorem i0_2758 : am_ins 0 2758 = some (.invokevirtual 188) := by decide +kernel
theorem i0_2761 : am_ins 0 2761 = some (.iload 6) := by decide +kernel
theorem i0_2763 : am_ins 0 2763 = some (.if_icmp .eq 5) := by decide +kernel
theorem i0_2766 : am_ins 0 2766 = some (.iconst 0) := by decide +kernel
theorem i0_2767 : am_ins 0 2767 = some (.ireturn) := by decide +kernel
theorem i0_2768 : am_ins 0 2768 = some (.iload 6) := by decide +kernel
theorem i0_2770 : am_ins 0 2770 = some (.ifCond .ne 15) := by decide +kernel
theorem i0_2773 : am_ins 0 2773 = some (.aload_n 3) := by decide +kernel
theorem i0_2774 : am_ins 0 2774 = some (.iconst 0) := by decide +kernel
theorem i0_2775 : am_ins 0 2775 = some (.laload) := by decide +kernel
theorem i0_2776 : am_ins 0 2776 = some (.iload 7) := by decide +kernel
theorem i0_2778 : am_ins 0 2778 = some (.i2l) := by decide +kernel
theorem i0_2779 : am_ins 0 2779 = some (.lcmp) := by decide +kernel
theorem i0_2780 : am_ins 0 2780 = some (.ifCond .eq 5) := by decide +kernel
theorem i0_2783 : am_ins 0 2783 = some (.iconst 0) := by decide +kernel
theorem i0_2784 : am_ins 0 2784 = some (.ireturn) := by decide +kernel
theorem i0_2785 : am_ins 0 2785 = some (.goto 544) := by decide +kernel
theorem i0_2788 : am_ins 0 2788 = some (.aload_n 1) := by decide +kernel
theorem i0_2789 : am_ins 0 2789 = some (.aload_n 3) := by decide +kernel
theorem i0_2790 : am_ins 0 2790 = some (.invokestatic 335) := by decide +kernel
theorem i0_2793 : am_ins 0 2793 = some (.istore 6) := by decide +kernel
theorem i0_2795 : am_ins 0 2795 = some (.aload_n 2) := by decide +kernel
theorem i0_2796 : am_ins 0 2796 = some (.invokevirtual 337) := by decide +kernel
theorem i0_2799 : am_ins 0 2799 = some (.istore 7) := by decide +kernel
theorem i0_2801 : am_ins 0 2801 = some (.aload_n 2) := by decide +kernel
theorem i0_2802 : am_ins 0 2802 = some (.invokevirtual 188) := by decide +kernel
theorem i0_2805 : am_ins 0 2805 = some (.iload 6) := by decide +kernel
theorem i0_2807 : am_ins 0 2807 = some (.if_icmp .eq 5) := by decide +kernel
theorem i0_2810 : am_ins 0 2810 = some (.iconst 0) := by decide +kernel
theorem i0_2811 : am_ins 0 2811 = some (.ireturn) := by decide +kernel
theorem i0_2812 : am_ins 0 2812 = some (.iload 6) := by decide +kernel
theorem i0_2814 : am_ins 0 2814 = some (.ifCond .ne 15) := by decide +kernel
theorem i0_2817 : am_ins 0 2817 = some (.aload_n 3) := by decide +kernel
theorem i0_2818 : am_ins 0 2818 = some (.iconst 0) := by decide +kernel
theorem i0_2819 : am_ins 0 2819 = some (.laload) := by decide +kernel
theorem i0_2820 : am_ins 0 2820 = some (.iload 7) := by decide +kernel
theorem i0_2822 : am_ins 0 2822 = some (.i2l) := by decide +kernel
theorem i0_2823 : am_ins 0 2823 = some (.lcmp) := by decide +kernel
theorem i0_2824 : am_ins 0 2824 = some (.ifCond .eq 5) := by decide +kernel
theorem i0_2827 : am_ins 0 2827 = some (.iconst 0) := by decide +kernel
theorem i0_2828 : am_ins 0 2828 = some (.ireturn) := by decide +kernel
theorem i0_2829 : am_ins 0 2829 = some (.goto 500) := by decide +kernel
theorem i0_2832 : am_ins 0 2832 = some (.aload_n 1) := by decide +kernel
theorem i0_2833 : am_ins 0 2833 = some (.aload_n 0) := by decide +kernel
theorem i0_2834 : am_ins 0 2834 = some (.iload 5) := by decide +kernel
theorem i0_2836 : am_ins 0 2836 = some (.iconst 1) := by decide +kernel
theorem i0_2837 : am_ins 0 2837 = some (.iadd) := by decide +kernel
theorem i0_2838 : am_ins 0 2838 = some (.iaload) := by decide +kernel
theorem i0_2839 : am_ins 0 2839 = some (.aload_n 3) := by decide +kernel
theorem i0_2840 : am_ins 0 2840 = some (.invokestatic 338) := by decide +kernel
theorem i0_2843 : am_ins 0 2843 = some (.istore 6) := by decide +kernel
theorem i0_2845 : am_ins 0 2845 = some (.aload_n 2) := by decide +kernel
theorem i0_2846 : am_ins 0 2846 = some (.aload_n 0) := by decide +kernel
theorem i0_2847 : am_ins 0 2847 = some (.iload 5) := by decide +kernel
theorem i0_2849 : am_ins 0 2849 = some (.iconst 1) := by decide +kernel
theorem i0_2850 : am_ins 0 2850 = some (.iadd) := by decide +kernel
theorem i0_2851 : am_ins 0 2851 = some (.iaload) := by decide +kernel
theorem i0_2852 : am_ins 0 2852 = some (.invokevirtual 340) := by decide +kernel
theorem i0_2855 : am_ins 0 2855 = some (.istore 7) := by decide +kernel
theorem i0_2857 : am_ins 0 2857 = some (.aload_n 2) := by decide +kernel
theorem i0_2858 : am_ins 0 2858 = some (.invokevirtual 188) := by decide +kernel
theorem i0_2861 : am_ins 0 2861 = some (.iload 6) := by decide +kernel
theorem i0_2863 : am_ins 0 2863 = some (.if_icmp .eq 5) := by decide +kernel
theorem i0_2866 : am_ins 0 2866 = some (.iconst 0) := by decide +kernel
theorem i0_2867 : am_ins 0 2867 = some (.ireturn) := by decide +kernel
theorem i0_2868 : am_ins 0 2868 = some (.iload 6) := by decide +kernel
theorem i0_2870 : am_ins 0 2870 = some (.ifCond .ne 15) := by decide +kernel
theorem i0_2873 : am_ins 0 2873 = some (.aload_n 3) := by decide +kernel
theorem i0_2874 : am_ins 0 2874 = some (.iconst 0) := by decide +kernel
theorem i0_2875 : am_ins 0 2875 = some (.laload) := by decide +kernel
theorem i0_2876 : am_ins 0 2876 = some (.iload 7) := by decide +kernel
theorem i0_2878 : am_ins 0 2878 = some (.i2l) := by decide +kernel
theorem i0_2879 : am_ins 0 2879 = some (.lcmp) := by decide +kernel
theorem i0_2880 : am_ins 0 2880 = some (.ifCond .eq 5) := by decide +kernel
theorem i0_2883 : am_ins 0 2883 = some (.iconst 0) := by decide +kernel
theorem i0_2884 : am_ins 0 2884 = some (.ireturn) := by decide +kernel
theorem i0_2885 : am_ins 0 2885 = some (.goto 444) := by decide +kernel
theorem i0_2888 : am_ins 0 2888 = some (.aload_n 1) := by decide +kernel
theorem i0_2889 : am_ins 0 2889 = some (.aload_n 0) := by decide +kernel
theorem i0_2890 : am_ins 0 2890 = some (.iload 5) := by decide +kernel
theorem i0_2892 : am_ins 0 2892 = some (.iconst 1) := by decide +kernel
theorem i0_2893 : am_ins 0 2893 = some (.iadd) := by decide +kernel
theorem i0_2894 : am_ins 0 2894 = some (.iaload) := by decide +kernel
theorem i0_2895 : am_ins 0 2895 = some (.aload_n 0) := by decide +kernel
theorem i0_2896 : am_ins 0 2896 = some (.iload 5) := by decide +kernel
theorem i0_2898 : am_ins 0 2898 = some (.iconst 2) := by decide +kernel
theorem i0_2899 : am_ins 0 2899 = some (.iadd) := by decide +kernel
theorem i0_2900 : am_ins 0 2900 = some (.iaload) := by decide +kernel
theorem i0_2901 : am_ins 0 2901 = some (.aload_n 0) := by decide +kernel
theorem i0_2902 : am_ins 0 2902 = some (.iload 5) := by decide +kernel
theorem i0_2904 : am_ins 0 2904 = some (.iconst 3) := by decide +kernel
theorem i0_2905 : am_ins 0 2905 = some (.iadd) := by decide +kernel
theorem i0_2906 : am_ins 0 2906 = some (.iaload) := by decide +kernel
theorem i0_2907 : am_ins 0 2907 = some (.aload_n 0) := by decide +kernel
theorem i0_2908 : am_ins 0 2908 = some (.iload 5) := by decide +kernel
theorem i0_2910 : am_ins 0 2910 = some (.iconst 4) := by decide +kernel
theorem i0_2911 : am_ins 0 2911 = some (.iadd) := by decide +kernel
theorem i0_2912 : am_ins 0 2912 = some (.iaload) := by decide +kernel
theorem i0_2913 : am_ins 0 2913 = some (.aload_n 3) := by decide +kernel
theorem i0_2914 : am_ins 0 2914 = some (.invokestatic 341) := by decide +kernel
theorem i0_2917 : am_ins 0 2917 = some (.istore 6) := by decide +kernel
theorem i0_2919 : am_ins 0 2919 = some (.aload_n 2) := by decide +kernel
theorem i0_2920 : am_ins 0 2920 = some (.aload_n 0) := by decide +kernel
theorem i0_2921 : am_ins 0 2921 = some (.iload 5) := by decide +kernel
theorem i0_2923 : am_ins 0 2923 = some (.iconst 1) := by decide +kernel
theorem i0_2924 : am_ins 0 2924 = some (.iadd) := by decide +kernel
theorem i0_2925 : am_ins 0 2925 = some (.iaload) := by decide +kernel
theorem i0_2926 : am_ins 0 2926 = some (.aload_n 0) := by decide +kernel
theorem i0_2927 : am_ins 0 2927 = some (.iload 5) := by decide +kernel
theorem i0_2929 : am_ins 0 2929 = some (.iconst 2) := by decide +kernel
theorem i0_2930 : am_ins 0 2930 = some (.iadd) := by decide +kernel
theorem i0_2931 : am_ins 0 2931 = some (.iaload) := by decide +kernel
theorem i0_2932 : am_ins 0 2932 = some (.aload_n 0) := by decide +kernel
theorem i0_2933 : am_ins 0 2933 = some (.iload 5) := by decide +kernel
theorem i0_2935 : am_ins 0 2935 = some (.iconst 3) := by decide +kernel
theorem i0_2936 : am_ins 0 2936 = some (.iadd) := by decide +kernel
theorem i0_2937 : am_ins 0 2937 = some (.iaload) := by decide +kernel
theorem i0_2938 : am_ins 0 2938 = some (.aload_n 0) := by decide +kernel
theorem i0_2939 : am_ins 0 2939 = some (.iload 5) := by decide +kernel
theorem i0_2941 : am_ins 0 2941 = some (.iconst 4) := by decide +kernel
theorem i0_2942 : am_ins 0 2942 = some (.iadd) := by decide +kernel
theorem i0_2943 : am_ins 0 2943 = some (.iaload) := by decide +kernel
theorem i0_2944 : am_ins 0 2944 = some (.invokevirtual 344) := by decide +kernel
theorem i0_2947 : am_ins 0 2947 = some (.istore 7) := by decide +kernel
theorem i0_2949 : am_ins 0 2949 = some (.aload_n 2) := by decide +kernel
theorem i0_2950 : am_ins 0 2950 = some (.invokevirtual 188) := by decide +kernel
theorem i0_2953 : am_ins 0 2953 = some (.iload 6) := by decide +kernel
theorem i0_2955 : am_ins 0 2955 = some (.if_icmp .eq 5) := by decide +kernel
theorem i0_2958 : am_ins 0 2958 = some (.iconst 0) := by decide +kernel
theorem i0_2959 : am_ins 0 2959 = some (.ireturn) := by decide +kernel
theorem i0_2960 : am_ins 0 2960 = some (.iload 6) := by decide +kernel
theorem i0_2962 : am_ins 0 2962 = some (.ifCond .ne 15) := by decide +kernel
theorem i0_2965 : am_ins 0 2965 = some (.aload_n 3) := by decide +kernel
theorem i0_2966 : am_ins 0 2966 = some (.iconst 0) := by decide +kernel
theorem i0_2967 : am_ins 0 2967 = some (.laload) := by decide +kernel
theorem i0_2968 : am_ins 0 2968 = some (.iload 7) := by decide +kernel
theorem i0_2970 : am_ins 0 2970 = some (.i2l) := by decide +kernel
theorem i0_2971 : am_ins 0 2971 = some (.lcmp) := by decide +kernel
theorem i0_2972 : am_ins 0 2972 = some (.ifCond .eq 5) := by decide +kernel
theorem i0_2975 : am_ins 0 2975 = some (.iconst 0) := by decide +kernel
theorem i0_2976 : am_ins 0 2976 = some (.ireturn) := by decide +kernel
theorem i0_2977 : am_ins 0 2977 = some (.goto 352) := by decide +kernel
theorem i0_2980 : am_ins 0 2980 = some (.aload_n 1) := by decide +kernel
theorem i0_2981 : am_ins 0 2981 = some (.aload_n 0) := by decide +kernel
theorem i0_2982 : am_ins 0 2982 = some (.iload 5) := by decide +kernel
theorem i0_2984 : am_ins 0 2984 = some (.iconst 1) := by decide +kernel
theorem i0_2985 : am_ins 0 2985 = some (.iadd) := by decide +kernel
theorem i0_2986 : am_ins 0 2986 = some (.iaload) := by decide +kernel
theorem i0_2987 : am_ins 0 2987 = some (.aload_n 3) := by decide +kernel
theorem i0_2988 : am_ins 0 2988 = some (.invokestatic 345) := by decide +kernel
theorem i0_2991 : am_ins 0 2991 = some (.istore 6) := by decide +kernel
theorem i0_2993 : am_ins 0 2993 = some (.aload_n 2) := by decide +kernel
theorem i0_2994 : am_ins 0 2994 = some (.aload_n 0) := by decide +kernel
theorem i0_2995 : am_ins 0 2995 = some (.iload 5) := by decide +kernel
theorem i0_2997 : am_ins 0 2997 = some (.iconst 1) := by decide +kernel
theorem i0_2998 : am_ins 0 2998 = some (.iadd) := by decide +kernel
theorem i0_2999 : am_ins 0 2999 = some (.iaload) := by decide +kernel
theorem i0_3000 : am_ins 0 3000 = some (.invokevirtual 347) := by decide +kernel
theorem i0_3003 : am_ins 0 3003 = some (.istore 7) := by decide +kernel
theorem i0_3005 : am_ins 0 3005 = some (.aload_n 2) := by decide +kernel
theorem i0_3006 : am_ins 0 3006 = some (.invokevirtual 188) := by decide +kernel
theorem i0_3009 : am_ins 0 3009 = some (.iload 6) := by decide +kernel
theorem i0_3011 : am_ins 0 3011 = some (.if_icmp .eq 5) := by decide +kernel
theorem i0_3014 : am_ins 0 3014 = some (.iconst 0) := by decide +kernel
theorem i0_3015 : am_ins 0 3015 = some (.ireturn) := by decide +kernel
theorem i0_3016 : am_ins 0 3016 = some (.iload 6) := by decide +kernel
theorem i0_3018 : am_ins 0 3018 = some (.ifCond .ne 15) := by decide +kernel
theorem i0_3021 : am_ins 0 3021 = some (.aload_n 3) := by decide +kernel
theorem i0_3022 : am_ins 0 3022 = some (.iconst 0) := by decide +kernel
theorem i0_3023 : am_ins 0 3023 = some (.laload) := by decide +kernel
theorem i0_3024 : am_ins 0 3024 = some (.iload 7) := by decide +kernel
theorem i0_3026 : am_ins 0 3026 = some (.i2l) := by decide +kernel
theorem i0_3027 : am_ins 0 3027 = some (.lcmp) := by decide +kernel
theorem i0_3028 : am_ins 0 3028 = some (.ifCond .eq 5) := by decide +kernel
theorem i0_3031 : am_ins 0 3031 = some (.iconst 0) := by decide +kernel
theorem i0_3032 : am_ins 0 3032 = some (.ireturn) := by decide +kernel
theorem i0_3033 : am_ins 0 3033 = some (.goto 296) := by decide +kernel
theorem i0_3036 : am_ins 0 3036 = some (.aload_n 1) := by decide +kernel
theorem i0_3037 : am_ins 0 3037 = some (.aload_n 0) := by decide +kernel
theorem i0_3038 : am_ins 0 3038 = some (.iload 5) := by decide +kernel
theorem i0_3040 : am_ins 0 3040 = some (.iconst 1) := by decide +kernel
theorem i0_3041 : am_ins 0 3041 = some (.iadd) := by decide +kernel
theorem i0_3042 : am_ins 0 3042 = some (.iaload) := by decide +kernel
theorem i0_3043 : am_ins 0 3043 = some (.aload_n 3) := by decide +kernel
theorem i0_3044 : am_ins 0 3044 = some (.invokestatic 348) := by decide +kernel
theorem i0_3047 : am_ins 0 3047 = some (.istore 6) := by decide +kernel
theorem i0_3049 : am_ins 0 3049 = some (.aload_n 2) := by decide +kernel
theorem i0_3050 : am_ins 0 3050 = some (.aload_n 0) := by decide +kernel
theorem i0_3051 : am_ins 0 3051 = some (.iload 5) := by decide +kernel
theorem i0_3053 : am_ins 0 3053 = some (.iconst 1) := by decide +kernel
theorem i0_3054 : am_ins 0 3054 = some (.iadd) := by decide +kernel
theorem i0_3055 : am_ins 0 3055 = some (.iaload) := by decide +kernel
theorem i0_3056 : am_ins 0 3056 = some (.invokevirtual 350) := by decide +kernel
theorem i0_3059 : am_ins 0 3059 = some (.istore 7) := by decide +kernel
theorem i0_3061 : am_ins 0 3061 = some (.aload_n 2) := by decide +kernel
theorem i0_3062 : am_ins 0 3062 = some (.invokevirtual 188) := by decide +kernel
theorem i0_3065 : am_ins 0 3065 = some (.iload 6) := by decide +kernel
theorem i0_3067 : am_ins 0 3067 = some (.if_icmp .eq 5) := by decide +kernel
theorem i0_3070 : am_ins 0 3070 = some (.iconst 0) := by decide +kernel
theorem i0_3071 : am_ins 0 3071 = some (.ireturn) := by decide +kernel
theorem i0_3072 : am_ins 0 3072 = some (.iload 6) := by decide +kernel
theorem i0_3074 : am_ins 0 3074 = some (.ifCond .ne 15) := by decide +kernel
theorem i0_3077 : am_ins 0 3077 = some (.aload_n 3) := by decide +kernel
theorem i0_3078 : am_ins 0 3078 = some (.iconst 0) := by decide +kernel
theorem i0_3079 : am_ins 0 3079 = some (.laload) := by decide +kernel
theorem i0_3080 : am_ins 0 3080 = some (.iload 7) := by decide +kernel
theorem i0_3082 : am_ins 0 3082 = some (.i2l) := by decide +kernel
theorem i0_3083 : am_ins 0 3083 = some (.lcmp) := by decide +kernel
theorem i0_3084 : am_ins 0 3084 = some (.ifCond .eq 5) := by decide +kernel
theorem i0_3087 : am_ins 0 3087 = some (.iconst 0) := by decide +kernel
theorem i0_3088 : am_ins 0 3088 = some (.ireturn) := by decide +kernel
theorem i0_3089 : am_ins 0 3089 = some (.goto 240) := by decide +kernel
theorem i0_3092 : am_ins 0 3092 = some (.aload_n 1) := by decide +kernel
theorem i0_3093 : am_ins 0 3093 = some (.aload_n 0) := by decide +kernel
theorem i0_3094 : am_ins 0 3094 = some (.iload 5) := by decide +kernel
theorem i0_3096 : am_ins 0 3096 = some (.iconst 1) := by decide +kernel
theorem i0_3097 : am_ins 0 3097 = some (.iadd) := by decide +kernel
theorem i0_3098 : am_ins 0 3098 = some (.iaload) := by decide +kernel
theorem i0_3099 : am_ins 0 3099 = some (.aload_n 0) := by decide +kernel
theorem i0_3100 : am_ins 0 3100 = some (.iload 5) := by decide +kernel
theorem i0_3102 : am_ins 0 3102 = some (.iconst 2) := by decide +kernel
theorem i0_3103 : am_ins 0 3103 = some (.iadd) := by decide +kernel
theorem i0_3104 : am_ins 0 3104 = some (.iaload) := by decide +kernel
theorem i0_3105 : am_ins 0 3105 = some (.aload_n 3) := by decide +kernel
theorem i0_3106 : am_ins 0 3106 = some (.invokestatic 351) := by decide +kernel
theorem i0_3109 : am_ins 0 3109 = some (.istore 6) := by decide +kernel
theorem i0_3111 : am_ins 0 3111 = some (.aload_n 2) := by decide +kernel
theorem i0_3112 : am_ins 0 3112 = some (.aload_n 0) := by decide +kernel
theorem i0_3113 : am_ins 0 3113 = some (.iload 5) := by decide +kernel
theorem i0_3115 : am_ins 0 3115 = some (.iconst 1) := by decide +kernel
theorem i0_3116 : am_ins 0 3116 = some (.iadd) := by decide +kernel
theorem i0_3117 : am_ins 0 3117 = some (.iaload) := by decide +kernel
theorem i0_3118 : am_ins 0 3118 = some (.aload_n 0) := by decide +kernel
theorem i0_3119 : am_ins 0 3119 = some (.iload 5) := by decide +kernel
theorem i0_3121 : am_ins 0 3121 = some (.iconst 2) := by decide +kernel
theorem i0_3122 : am_ins 0 3122 = some (.iadd) := by decide +kernel
theorem i0_3123 : am_ins 0 3123 = some (.iaload) := by decide +kernel
theorem i0_3124 : am_ins 0 3124 = some (.invokevirtual 353) := by decide +kernel
theorem i0_3127 : am_ins 0 3127 = some (.istore 7) := by decide +kernel
theorem i0_3129 : am_ins 0 3129 = some (.aload_n 2) := by decide +kernel
theorem i0_3130 : am_ins 0 3130 = some (.invokevirtual 188) := by decide +kernel
theorem i0_3133 : am_ins 0 3133 = some (.iload 6) := by decide +kernel
theorem i0_3135 : am_ins 0 3135 = some (.if_icmp .eq 5) := by decide +kernel
theorem i0_3138 : am_ins 0 3138 = some (.iconst 0) := by decide +kernel
theorem i0_3139 : am_ins 0 3139 = some (.ireturn) := by decide +kernel
theorem i0_3140 : am_ins 0 3140 = some (.iload 6) := by decide +kernel
theorem i0_3142 : am_ins 0 3142 = some (.ifCond .ne 15) := by decide +kernel
theorem i0_3145 : am_ins 0 3145 = some (.aload_n 3) := by decide +kernel
theorem i0_3146 : am_ins 0 3146 = some (.iconst 0) := by decide +kernel
theorem i0_3147 : am_ins 0 3147 = some (.laload) := by decide +kernel
theorem i0_3148 : am_ins 0 3148 = some (.iload 7) := by decide +kernel
theorem i0_3150 : am_ins 0 3150 = some (.i2l) := by decide +kernel
theorem i0_3151 : am_ins 0 3151 = some (.lcmp) := by decide +kernel
theorem i0_3152 : am_ins 0 3152 = some (.ifCond .eq 5) := by decide +kernel
theorem i0_3155 : am_ins 0 3155 = some (.iconst 0) := by decide +kernel
theorem i0_3156 : am_ins 0 3156 = some (.ireturn) := by decide +kernel
theorem i0_3157 : am_ins 0 3157 = some (.goto 172) := by decide +kernel
theorem i0_3160 : am_ins 0 3160 = some (.aload_n 1) := by decide +kernel
theorem i0_3161 : am_ins 0 3161 = some (.aload_n 3) := by decide +kernel
theorem i0_3162 : am_ins 0 3162 = some (.invokestatic 354) := by decide +kernel
theorem i0_3165 : am_ins 0 3165 = some (.istore 6) := by decide +kernel
theorem i0_3167 : am_ins 0 3167 = some (.aload_n 2) := by decide +kernel
theorem i0_3168 : am_ins 0 3168 = some (.invokevirtual 356) := by decide +kernel
theorem i0_3171 : am_ins 0 3171 = some (.istore 7) := by decide +kernel
theorem i0_3173 : am_ins 0 3173 = some (.aload_n 2) := by decide +kernel
theorem i0_3174 : am_ins 0 3174 = some (.invokevirtual 188) := by decide +kernel
theorem i0_3177 : am_ins 0 3177 = some (.iload 6) := by decide +kernel
theorem i0_3179 : am_ins 0 3179 = some (.if_icmp .eq 5) := by decide +kernel
theorem i0_3182 : am_ins 0 3182 = some (.iconst 0) := by decide +kernel
theorem i0_3183 : am_ins 0 3183 = some (.ireturn) := by decide +kernel
theorem i0_3184 : am_ins 0 3184 = some (.iload 6) := by decide +kernel
theorem i0_3186 : am_ins 0 3186 = some (.ifCond .ne 15) := by decide +kernel
theorem i0_3189 : am_ins 0 3189 = some (.aload_n 3) := by decide +kernel
theorem i0_3190 : am_ins 0 3190 = some (.iconst 0) := by decide +kernel
theorem i0_3191 : am_ins 0 3191 = some (.laload) := by decide +kernel
theorem i0_3192 : am_ins 0 3192 = some (.iload 7) := by decide +kernel
theorem i0_3194 : am_ins 0 3194 = some (.i2l) := by decide +kernel
theorem i0_3195 : am_ins 0 3195 = some (.lcmp) := by decide +kernel
theorem i0_3196 : am_ins 0 3196 = some (.ifCond .eq 5) := by decide +kernel
theorem i0_3199 : am_ins 0 3199 = some (.iconst 0) := by decide +kernel
theorem i0_3200 : am_ins 0 3200 = some (.ireturn) := by decide +kernel
theorem i0_3201 : am_ins 0 3201 = some (.goto 128) := by decide +kernel
theorem i0_3204 : am_ins 0 3204 = some (.aload_n 1) := by decide +kernel
theorem i0_3205 : am_ins 0 3205 = some (.invokevirtual 357) := by decide +kernel
theorem i0_3208 : am_ins 0 3208 = some (.aload_n 2) := by decide +kernel
theorem i0_3209 : am_ins 0 3209 = some (.invokevirtual 360) := by decide +kernel
theorem i0_3212 : am_ins 0 3212 = some (.if_icmp .eq 117) := by decide +kernel
theorem i0_3215 : am_ins 0 3215 = some (.iconst 0) := by decide +kernel
theorem i0_3216 : am_ins 0 3216 = some (.ireturn) := by decide +kernel
theorem i0_3217 : am_ins 0 3217 = some (.aload_n 1) := by decide +kernel
theorem i0_3218 : am_ins 0 3218 = some (.aload_n 0) := by decide +kernel
theorem i0_3219 : am_ins 0 3219 = some (.iload 5) := by decide +kernel
theorem i0_3221 : am_ins 0 3221 = some (.iconst 1) := by decide +kernel
theorem i0_3222 : am_ins 0 3222 = some (.iadd) := by decide +kernel
theorem i0_3223 : am_ins 0 3223 = some (.iaload) := by decide +kernel
theorem i0_3224 : am_ins 0 3224 = some (.aload_n 3) := by decide +kernel
theorem i0_3225 : am_ins 0 3225 = some (.invokestatic 361) := by decide +kernel
theorem i0_3228 : am_ins 0 3228 = some (.istore 6) := by decide +kernel
theorem i0_3230 : am_ins 0 3230 = some (.aload_n 2) := by decide +kernel
theorem i0_3231 : am_ins 0 3231 = some (.aload_n 0) := by decide +kernel
theorem i0_3232 : am_ins 0 3232 = some (.iload 5) := by decide +kernel
theorem i0_3234 : am_ins 0 3234 = some (.iconst 1) := by decide +kernel
theorem i0_3235 : am_ins 0 3235 = some (.iadd) := by decide +kernel
theorem i0_3236 : am_ins 0 3236 = some (.iaload) := by decide +kernel
theorem i0_3237 : am_ins 0 3237 = some (.invokevirtual 363) := by decide +kernel
theorem i0_3240 : am_ins 0 3240 = some (.istore 7) := by decide +kernel
theorem i0_3242 : am_ins 0 3242 = some (.aload_n 2) := by decide +kernel
theorem i0_3243 : am_ins 0 3243 = some (.invokevirtual 188) := by decide +kernel
theorem i0_3246 : am_ins 0 3246 = some (.iload 6) := by decide +kernel
theorem i0_3248 : am_ins 0 3248 = some (.if_icmp .eq 5) := by decide +kernel
theorem i0_3251 : am_ins 0 3251 = some (.iconst 0) := by decide +kernel
theorem i0_3252 : am_ins 0 3252 = some (.ireturn) := by decide +kernel
theorem i0_3253 : am_ins 0 3253 = some (.iload 6) := by decide +kernel
theorem i0_3255 : am_ins 0 3255 = some (.ifCond .ne 15) := by decide +kernel
theorem i0_3258 : am_ins 0 3258 = some (.aload_n 3) := by decide +kernel
theorem i0_3259 : am_ins 0 3259 = some (.iconst 0) := by decide +kernel
theorem i0_3260 : am_ins 0 3260 = some (.laload) := by decide +kernel
theorem i0_3261 : am_ins 0 3261 = some (.iload 7) := by decide +kernel
theorem i0_3263 : am_ins 0 3263 = some (.i2l) := by decide +kernel
theorem i0_3264 : am_ins 0 3264 = some (.lcmp) := by decide +kernel
theorem i0_3265 : am_ins 0 3265 = some (.ifCond .eq 5) := by decide +kernel
theorem i0_3268 : am_ins 0 3268 = some (.iconst 0) := by decide +kernel
theorem i0_3269 : am_ins 0 3269 = some (.ireturn) := by decide +kernel
theorem i0_3270 : am_ins 0 3270 = some (.goto 59) := by decide +kernel
theorem i0_3273 : am_ins 0 3273 = some (.aload_n 1) := by decide +kernel
theorem i0_3274 : am_ins 0 3274 = some (.aload_n 0) := by decide +kernel
theorem i0_3275 : am_ins 0 3275 = some (.iload 5) := by decide +kernel
theorem i0_3277 : am_ins 0 3277 = some (.iconst 1) := by decide +kernel
theorem i0_3278 : am_ins 0 3278 = some (.iadd) := by decide +kernel
theorem i0_3279 : am_ins 0 3279 = some (.iaload) := by decide +kernel
theorem i0_3280 : am_ins 0 3280 = some (.aload_n 3) := by decide +kernel
theorem i0_3281 : am_ins 0 3281 = some (.invokestatic 364) := by decide +kernel
theorem i0_3284 : am_ins 0 3284 = some (.istore 6) := by decide +kernel
theorem i0_3286 : am_ins 0 3286 = some (.aload_n 2) := by decide +kernel
theorem i0_3287 : am_ins 0 3287 = some (.aload_n 0) := by decide +kernel
theorem i0_3288 : am_ins 0 3288 = some (.iload 5) := by decide +kernel
theorem i0_3290 : am_ins 0 3290 = some (.iconst 1) := by decide +kernel
theorem i0_3291 : am_ins 0 3291 = some (.iadd) := by decide +kernel
theorem i0_3292 : am_ins 0 3292 = some (.iaload) := by decide +kernel
theorem i0_3293 : am_ins 0 3293 = some (.invokevirtual 366) := by decide +kernel
theorem i0_3296 : am_ins 0 3296 = some (.istore 7) := by decide +kernel
theorem i0_3298 : am_ins 0 3298 = some (.aload_n 2) := by decide +kernel
theorem i0_3299 : am_ins 0 3299 = some (.invokevirtual 188) := by decide +kernel
theorem i0_3302 : am_ins 0 3302 = some (.iload 6) := by decide +kernel
theorem i0_3304 : am_ins 0 3304 = some (.if_icmp .eq 5) := by decide +kernel
theorem i0_3307 : am_ins 0 3307 = some (.iconst 0) := by decide +kernel
theorem i0_3308 : am_ins 0 3308 = some (.ireturn) := by decide +kernel
theorem i0_3309 : am_ins 0 3309 = some (.iload 6) := by decide +kernel
theorem i0_3311 : am_ins 0 3311 = some (.ifCond .ne 15) := by decide +kernel
theorem i0_3314 : am_ins 0 3314 = some (.aload_n 3) := by decide +kernel
theorem i0_3315 : am_ins 0 3315 = some (.iconst 0) := by decide +kernel
theorem i0_3316 : am_ins 0 3316 = some (.laload) := by decide +kernel
theorem i0_3317 : am_ins 0 3317 = some (.iload 7) := by decide +kernel
theorem i0_3319 : am_ins 0 3319 = some (.i2l) := by decide +kernel
theorem i0_3320 : am_ins 0 3320 = some (.lcmp) := by decide +kernel
theorem i0_3321 : am_ins 0 3321 = some (.ifCond .eq 5) := by decide +kernel
theorem i0_3324 : am_ins 0 3324 = some (.iconst 0) := by decide +kernel
theorem i0_3325 : am_ins 0 3325 = some (.ireturn) := by decide +kernel
theorem i0_3326 : am_ins 0 3326 = some (.goto 3) := by decide +kernel
theorem i0_3329 : am_ins 0 3329 = some (.iinc 5 6) := by decide +kernel
theorem i0_3332 : am_ins 0 3332 = some (.goto (-3304)) := by decide +kernel
theorem i0_3335 : am_ins 0 3335 = some (.iconst 1) := by decide +kernel
theorem i0_3336 : am_ins 0 3336 = some (.ireturn) := by decide +kernel
