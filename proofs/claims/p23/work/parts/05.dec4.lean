theorem dL_acts_345 : decode cL_acts 345 = .ok (.aload_n 3, 1) := by decide +kernel
theorem dL_acts_346 : decode cL_acts 346 = .ok (.iload 8, 2) := by decide +kernel
theorem dL_acts_348 : decode cL_acts 348 = .ok (.invokestatic 64, 3) := by decide +kernel
theorem dL_acts_351 : decode cL_acts 351 = .ok (.aload_n 0, 1) := by decide +kernel
theorem dL_acts_352 : decode cL_acts 352 = .ok (.iload 8, 2) := by decide +kernel
theorem dL_acts_354 : decode cL_acts 354 = .ok (.invokevirtual 61, 3) := by decide +kernel
theorem dL_acts_357 : decode cL_acts 357 = .ok (.iload 7, 2) := by decide +kernel
theorem dL_acts_359 : decode cL_acts 359 = .ok (.if_icmp .ne 7, 3) := by decide +kernel
theorem dL_acts_362 : decode cL_acts 362 = .ok (.iconst 1, 1) := by decide +kernel
theorem dL_acts_363 : decode cL_acts 363 = .ok (.goto 4, 3) := by decide +kernel
theorem dL_acts_366 : decode cL_acts 366 = .ok (.iconst 0, 1) := by decide +kernel
theorem dL_acts_367 : decode cL_acts 367 = .ok (.ireturn, 1) := by decide +kernel
theorem dL_acts_368 : decode cL_acts 368 = .ok (.iload 6, 2) := by decide +kernel
theorem dL_acts_370 : decode cL_acts 370 = .ok (.bipush 13, 2) := by decide +kernel
theorem dL_acts_372 : decode cL_acts 372 = .ok (.if_icmp .ge 63, 3) := by decide +kernel
theorem dL_acts_375 : decode cL_acts 375 = .ok (.aload_n 1, 1) := by decide +kernel
theorem dL_acts_376 : decode cL_acts 376 = .ok (.iconst 2, 1) := by decide +kernel
theorem dL_acts_377 : decode cL_acts 377 = .ok (.iaload, 1) := by decide +kernel
theorem dL_acts_378 : decode cL_acts 378 = .ok (.ifCond .ne 13, 3) := by decide +kernel
theorem dL_acts_381 : decode cL_acts 381 = .ok (.aload_n 1, 1) := by decide +kernel
theorem dL_acts_382 : decode cL_acts 382 = .ok (.iconst 3, 1) := by decide +kernel
theorem dL_acts_383 : decode cL_acts 383 = .ok (.iaload, 1) := by decide +kernel
theorem dL_acts_384 : decode cL_acts 384 = .ok (.ifCond .le 7, 3) := by decide +kernel
theorem dL_acts_387 : decode cL_acts 387 = .ok (.iconst 1, 1) := by decide +kernel
theorem dL_acts_388 : decode cL_acts 388 = .ok (.goto 4, 3) := by decide +kernel
theorem dL_acts_391 : decode cL_acts 391 = .ok (.iconst 0, 1) := by decide +kernel
theorem dL_acts_392 : decode cL_acts 392 = .ok (.istore 7, 2) := by decide +kernel
theorem dL_acts_394 : decode cL_acts 394 = .ok (.aload_n 1, 1) := by decide +kernel
theorem dL_acts_395 : decode cL_acts 395 = .ok (.iconst 2, 1) := by decide +kernel
theorem dL_acts_396 : decode cL_acts 396 = .ok (.iload 7, 2) := by decide +kernel
theorem dL_acts_398 : decode cL_acts 398 = .ok (.ifCond .eq 7, 3) := by decide +kernel
theorem dL_acts_401 : decode cL_acts 401 = .ok (.iconst 1, 1) := by decide +kernel
theorem dL_acts_402 : decode cL_acts 402 = .ok (.goto 6, 3) := by decide +kernel
theorem dL_acts_405 : decode cL_acts 405 = .ok (.aload_n 1, 1) := by decide +kernel
theorem dL_acts_406 : decode cL_acts 406 = .ok (.iconst 2, 1) := by decide +kernel
theorem dL_acts_407 : decode cL_acts 407 = .ok (.iaload, 1) := by decide +kernel
theorem dL_acts_408 : decode cL_acts 408 = .ok (.iastore, 1) := by decide +kernel
theorem dL_acts_409 : decode cL_acts 409 = .ok (.aload_n 0, 1) := by decide +kernel
theorem dL_acts_410 : decode cL_acts 410 = .ok (.invokevirtual 67, 3) := by decide +kernel
theorem dL_acts_413 : decode cL_acts 413 = .ok (.iload 7, 2) := by decide +kernel
theorem dL_acts_415 : decode cL_acts 415 = .ok (.ifCond .eq 9, 3) := by decide +kernel
theorem dL_acts_418 : decode cL_acts 418 = .ok (.aload_n 1, 1) := by decide +kernel
theorem dL_acts_419 : decode cL_acts 419 = .ok (.iconst 3, 1) := by decide +kernel
theorem dL_acts_420 : decode cL_acts 420 = .ok (.iaload, 1) := by decide +kernel
theorem dL_acts_421 : decode cL_acts 421 = .ok (.goto 5, 3) := by decide +kernel
theorem dL_acts_424 : decode cL_acts 424 = .ok (.ldc 71, 2) := by decide +kernel
theorem dL_acts_426 : decode cL_acts 426 = .ok (.if_icmp .ne 7, 3) := by decide +kernel
theorem dL_acts_429 : decode cL_acts 429 = .ok (.iconst 1, 1) := by decide +kernel
theorem dL_acts_430 : decode cL_acts 430 = .ok (.goto 4, 3) := by decide +kernel
theorem dL_acts_433 : decode cL_acts 433 = .ok (.iconst 0, 1) := by decide +kernel
theorem dL_acts_434 : decode cL_acts 434 = .ok (.ireturn, 1) := by decide +kernel
theorem dL_acts_435 : decode cL_acts 435 = .ok (.iload 6, 2) := by decide +kernel
theorem dL_acts_437 : decode cL_acts 437 = .ok (.bipush 17, 2) := by decide +kernel
theorem dL_acts_439 : decode cL_acts 439 = .ok (.if_icmp .ge 169, 3) := by decide +kernel
theorem dL_acts_442 : decode cL_acts 442 = .ok (.aload_n 1, 1) := by decide +kernel
theorem dL_acts_443 : decode cL_acts 443 = .ok (.iconst 3, 1) := by decide +kernel
theorem dL_acts_444 : decode cL_acts 444 = .ok (.iaload, 1) := by decide +kernel
theorem dL_acts_445 : decode cL_acts 445 = .ok (.ifCond .le 163, 3) := by decide +kernel
theorem dL_acts_448 : decode cL_acts 448 = .ok (.iload 5, 2) := by decide +kernel
theorem dL_acts_450 : decode cL_acts 450 = .ok (.aload_n 1, 1) := by decide +kernel
theorem dL_acts_451 : decode cL_acts 451 = .ok (.iconst 3, 1) := by decide +kernel
theorem dL_acts_452 : decode cL_acts 452 = .ok (.iaload, 1) := by decide +kernel
theorem dL_acts_453 : decode cL_acts 453 = .ok (.irem, 1) := by decide +kernel
theorem dL_acts_454 : decode cL_acts 454 = .ok (.istore 7, 2) := by decide +kernel
theorem dL_acts_456 : decode cL_acts 456 = .ok (.iload 5, 2) := by decide +kernel
theorem dL_acts_458 : decode cL_acts 458 = .ok (.bipush 64, 2) := by decide +kernel
theorem dL_acts_460 : decode cL_acts 460 = .ok (.idiv, 1) := by decide +kernel
theorem dL_acts_461 : decode cL_acts 461 = .ok (.sipush 199, 3) := by decide +kernel
theorem dL_acts_464 : decode cL_acts 464 = .ok (.irem, 1) := by decide +kernel
theorem dL_acts_465 : decode cL_acts 465 = .ok (.bipush 99, 2) := by decide +kernel
theorem dL_acts_467 : decode cL_acts 467 = .ok (.isub, 1) := by decide +kernel
theorem dL_acts_468 : decode cL_acts 468 = .ok (.istore 8, 2) := by decide +kernel
theorem dL_acts_470 : decode cL_acts 470 = .ok (.iload 5, 2) := by decide +kernel
theorem dL_acts_472 : decode cL_acts 472 = .ok (.iconst 3, 1) := by decide +kernel
theorem dL_acts_473 : decode cL_acts 473 = .ok (.irem, 1) := by decide +kernel
theorem dL_acts_474 : decode cL_acts 474 = .ok (.ifCond .le 11, 3) := by decide +kernel
theorem dL_acts_477 : decode cL_acts 477 = .ok (.iload 8, 2) := by decide +kernel
theorem dL_acts_479 : decode cL_acts 479 = .ok (.bipush 12, 2) := by decide +kernel
theorem dL_acts_481 : decode cL_acts 481 = .ok (.irem, 1) := by decide +kernel
theorem dL_acts_482 : decode cL_acts 482 = .ok (.goto 5, 3) := by decide +kernel
theorem dL_acts_485 : decode cL_acts 485 = .ok (.iload 8, 2) := by decide +kernel
theorem dL_acts_487 : decode cL_acts 487 = .ok (.istore 8, 2) := by decide +kernel
theorem dL_acts_489 : decode cL_acts 489 = .ok (.aload_n 2, 1) := by decide +kernel
theorem dL_acts_490 : decode cL_acts 490 = .ok (.iload 7, 2) := by decide +kernel
theorem dL_acts_492 : decode cL_acts 492 = .ok (.iaload, 1) := by decide +kernel
theorem dL_acts_493 : decode cL_acts 493 = .ok (.iload 8, 2) := by decide +kernel
theorem dL_acts_495 : decode cL_acts 495 = .ok (.iadd, 1) := by decide +kernel
theorem dL_acts_496 : decode cL_acts 496 = .ok (.istore 9, 2) := by decide +kernel
theorem dL_acts_498 : decode cL_acts 498 = .ok (.iload 8, 2) := by decide +kernel
theorem dL_acts_500 : decode cL_acts 500 = .ok (.ifCond .eq 26, 3) := by decide +kernel
theorem dL_acts_503 : decode cL_acts 503 = .ok (.iload 9, 2) := by decide +kernel
theorem dL_acts_505 : decode cL_acts 505 = .ok (.ifCond .lt 21, 3) := by decide +kernel
theorem dL_acts_508 : decode cL_acts 508 = .ok (.iload 9, 2) := by decide +kernel
theorem dL_acts_510 : decode cL_acts 510 = .ok (.sipush 9999, 3) := by decide +kernel
theorem dL_acts_513 : decode cL_acts 513 = .ok (.if_icmp .gt 13, 3) := by decide +kernel
theorem dL_acts_516 : decode cL_acts 516 = .ok (.aload_n 1, 1) := by decide +kernel
theorem dL_acts_517 : decode cL_acts 517 = .ok (.aload_n 2, 1) := by decide +kernel
theorem dL_acts_518 : decode cL_acts 518 = .ok (.iload 9, 2) := by decide +kernel
theorem dL_acts_520 : decode cL_acts 520 = .ok (.invokestatic 72, 3) := by decide +kernel
theorem dL_acts_523 : decode cL_acts 523 = .ok (.ifCond .lt 32, 3) := by decide +kernel
theorem dL_acts_526 : decode cL_acts 526 = .ok (.aload_n 0, 1) := by decide +kernel
theorem dL_acts_527 : decode cL_acts 527 = .ok (.iload 7, 2) := by decide +kernel
theorem dL_acts_529 : decode cL_acts 529 = .ok (.iload 8, 2) := by decide +kernel
theorem dL_acts_531 : decode cL_acts 531 = .ok (.invokevirtual 55, 3) := by decide +kernel
theorem dL_acts_534 : decode cL_acts 534 = .ok (.iload 8, 2) := by decide +kernel
theorem dL_acts_536 : decode cL_acts 536 = .ok (.ifCond .ne 8, 3) := by decide +kernel
theorem dL_acts_539 : decode cL_acts 539 = .ok (.ldc 51, 2) := by decide +kernel
theorem dL_acts_541 : decode cL_acts 541 = .ok (.goto 5, 3) := by decide +kernel
theorem dL_acts_544 : decode cL_acts 544 = .ok (.ldc 71, 2) := by decide +kernel
theorem dL_acts_546 : decode cL_acts 546 = .ok (.if_icmp .ne 7, 3) := by decide +kernel
theorem dL_acts_549 : decode cL_acts 549 = .ok (.iconst 1, 1) := by decide +kernel
theorem dL_acts_550 : decode cL_acts 550 = .ok (.goto 4, 3) := by decide +kernel
theorem dL_acts_553 : decode cL_acts 553 = .ok (.iconst 0, 1) := by decide +kernel
theorem dL_acts_554 : decode cL_acts 554 = .ok (.ireturn, 1) := by decide +kernel
theorem dL_acts_555 : decode cL_acts 555 = .ok (.aload_n 1, 1) := by decide +kernel
theorem dL_acts_556 : decode cL_acts 556 = .ok (.aload_n 2, 1) := by decide +kernel
theorem dL_acts_557 : decode cL_acts 557 = .ok (.iload 7, 2) := by decide +kernel
theorem dL_acts_559 : decode cL_acts 559 = .ok (.invokestatic 58, 3) := by decide +kernel
theorem dL_acts_562 : decode cL_acts 562 = .ok (.ifCond .lt 7, 3) := by decide +kernel
theorem dL_acts_565 : decode cL_acts 565 = .ok (.iconst 1, 1) := by decide +kernel
theorem dL_acts_566 : decode cL_acts 566 = .ok (.goto 4, 3) := by decide +kernel
theorem dL_acts_569 : decode cL_acts 569 = .ok (.iconst 0, 1) := by decide +kernel
theorem dL_acts_570 : decode cL_acts 570 = .ok (.istore 10, 2) := by decide +kernel
theorem dL_acts_572 : decode cL_acts 572 = .ok (.aload_n 1, 1) := by decide +kernel
theorem dL_acts_573 : decode cL_acts 573 = .ok (.aload_n 2, 1) := by decide +kernel
theorem dL_acts_574 : decode cL_acts 574 = .ok (.iload 9, 2) := by decide +kernel
theorem dL_acts_576 : decode cL_acts 576 = .ok (.invokestatic 34, 3) := by decide +kernel
theorem dL_acts_579 : decode cL_acts 579 = .ok (.iload 10, 2) := by decide +kernel
theorem dL_acts_581 : decode cL_acts 581 = .ok (.ifCond .eq 25, 3) := by decide +kernel
theorem dL_acts_584 : decode cL_acts 584 = .ok (.aload_n 0, 1) := by decide +kernel
theorem dL_acts_585 : decode cL_acts 585 = .ok (.iload 7, 2) := by decide +kernel
theorem dL_acts_587 : decode cL_acts 587 = .ok (.iload 8, 2) := by decide +kernel
theorem dL_acts_589 : decode cL_acts 589 = .ok (.invokevirtual 55, 3) := by decide +kernel
theorem dL_acts_592 : decode cL_acts 592 = .ok (.aload_n 1, 1) := by decide +kernel
theorem dL_acts_593 : decode cL_acts 593 = .ok (.aload_n 2, 1) := by decide +kernel
theorem dL_acts_594 : decode cL_acts 594 = .ok (.iload 9, 2) := by decide +kernel
theorem dL_acts_596 : decode cL_acts 596 = .ok (.invokestatic 72, 3) := by decide +kernel
theorem dL_acts_599 : decode cL_acts 599 = .ok (.if_icmp .ne 7, 3) := by decide +kernel
theorem dL_acts_602 : decode cL_acts 602 = .ok (.iconst 1, 1) := by decide +kernel
theorem dL_acts_603 : decode cL_acts 603 = .ok (.goto 4, 3) := by decide +kernel
theorem dL_acts_606 : decode cL_acts 606 = .ok (.iconst 0, 1) := by decide +kernel
theorem dL_acts_607 : decode cL_acts 607 = .ok (.ireturn, 1) := by decide +kernel
theorem dL_acts_608 : decode cL_acts 608 = .ok (.iload 5, 2) := by decide +kernel
theorem dL_acts_610 : decode cL_acts 610 = .ok (.sipush 1500, 3) := by decide +kernel
theorem dL_acts_613 : decode cL_acts 613 = .ok (.irem, 1) := by decide +kernel
theorem dL_acts_614 : decode cL_acts 614 = .ok (.istore 7, 2) := by decide +kernel
theorem dL_acts_616 : decode cL_acts 616 = .ok (.aload_n 1, 1) := by decide +kernel
theorem dL_acts_617 : decode cL_acts 617 = .ok (.aload_n 2, 1) := by decide +kernel
theorem dL_acts_618 : decode cL_acts 618 = .ok (.iload 7, 2) := by decide +kernel
theorem dL_acts_620 : decode cL_acts 620 = .ok (.invokestatic 72, 3) := by decide +kernel
theorem dL_acts_623 : decode cL_acts 623 = .ok (.ifCond .lt 20, 3) := by decide +kernel
theorem dL_acts_626 : decode cL_acts 626 = .ok (.aload_n 0, 1) := by decide +kernel
theorem dL_acts_627 : decode cL_acts 627 = .ok (.iload 7, 2) := by decide +kernel
theorem dL_acts_629 : decode cL_acts 629 = .ok (.invokevirtual 75, 3) := by decide +kernel
theorem dL_acts_632 : decode cL_acts 632 = .ok (.ldc 71, 2) := by decide +kernel
theorem dL_acts_634 : decode cL_acts 634 = .ok (.if_icmp .ne 7, 3) := by decide +kernel
theorem dL_acts_637 : decode cL_acts 637 = .ok (.iconst 1, 1) := by decide +kernel
theorem dL_acts_638 : decode cL_acts 638 = .ok (.goto 4, 3) := by decide +kernel
theorem dL_acts_641 : decode cL_acts 641 = .ok (.iconst 0, 1) := by decide +kernel
theorem dL_acts_642 : decode cL_acts 642 = .ok (.ireturn, 1) := by decide +kernel
theorem dL_acts_643 : decode cL_acts 643 = .ok (.aload_n 1, 1) := by decide +kernel
theorem dL_acts_644 : decode cL_acts 644 = .ok (.aload_n 2, 1) := by decide +kernel
theorem dL_acts_645 : decode cL_acts 645 = .ok (.iload 7, 2) := by decide +kernel
theorem dL_acts_647 : decode cL_acts 647 = .ok (.invokestatic 34, 3) := by decide +kernel
theorem dL_acts_650 : decode cL_acts 650 = .ok (.aload_n 0, 1) := by decide +kernel
theorem dL_acts_651 : decode cL_acts 651 = .ok (.iload 7, 2) := by decide +kernel
theorem dL_acts_653 : decode cL_acts 653 = .ok (.invokevirtual 75, 3) := by decide +kernel
theorem dL_acts_656 : decode cL_acts 656 = .ok (.aload_n 1, 1) := by decide +kernel
theorem dL_acts_657 : decode cL_acts 657 = .ok (.aload_n 2, 1) := by decide +kernel
theorem dL_acts_658 : decode cL_acts 658 = .ok (.iload 7, 2) := by decide +kernel
theorem dL_acts_660 : decode cL_acts 660 = .ok (.invokestatic 72, 3) := by decide +kernel
theorem dL_acts_663 : decode cL_acts 663 = .ok (.if_icmp .ne 7, 3) := by decide +kernel
theorem dL_acts_666 : decode cL_acts 666 = .ok (.iconst 1, 1) := by decide +kernel
theorem dL_acts_667 : decode cL_acts 667 = .ok (.goto 4, 3) := by decide +kernel
theorem dL_acts_670 : decode cL_acts 670 = .ok (.iconst 0, 1) := by decide +kernel
theorem dL_acts_671 : decode cL_acts 671 = .ok (.ireturn, 1) := by decide +kernel
theorem dL_isSo_0 : decode cL_isSo 0 = .ok (.bipush 64, 2) := by decide +kernel
theorem dL_isSo_2 : decode cL_isSo 2 = .ok (.newarray .int, 2) := by decide +kernel
theorem dL_isSo_4 : decode cL_isSo 4 = .ok (.astore 4, 2) := by decide +kernel
theorem dL_isSo_6 : decode cL_isSo 6 = .ok (.bipush 64, 2) := by decide +kernel
theorem dL_isSo_8 : decode cL_isSo 8 = .ok (.newarray .int, 2) := by decide +kernel
theorem dL_isSo_10 : decode cL_isSo 10 = .ok (.astore 5, 2) := by decide +kernel
theorem dL_isSo_12 : decode cL_isSo 12 = .ok (.bipush 64, 2) := by decide +kernel
theorem dL_isSo_14 : decode cL_isSo 14 = .ok (.newarray .int, 2) := by decide +kernel
theorem dL_isSo_16 : decode cL_isSo 16 = .ok (.astore 6, 2) := by decide +kernel
theorem dL_isSo_18 : decode cL_isSo 18 = .ok (.bipush 64, 2) := by decide +kernel
theorem dL_isSo_20 : decode cL_isSo 20 = .ok (.newarray .int, 2) := by decide +kernel
theorem dL_isSo_22 : decode cL_isSo 22 = .ok (.astore 7, 2) := by decide +kernel
theorem dL_isSo_24 : decode cL_isSo 24 = .ok (.bipush 64, 2) := by decide +kernel
theorem dL_isSo_26 : decode cL_isSo 26 = .ok (.newarray .int, 2) := by decide +kernel
theorem dL_isSo_28 : decode cL_isSo 28 = .ok (.astore 8, 2) := by decide +kernel
theorem dL_isSo_30 : decode cL_isSo 30 = .ok (.bipush 64, 2) := by decide +kernel
theorem dL_isSo_32 : decode cL_isSo 32 = .ok (.newarray .int, 2) := by decide +kernel
theorem dL_isSo_34 : decode cL_isSo 34 = .ok (.astore 9, 2) := by decide +kernel
theorem dL_isSo_36 : decode cL_isSo 36 = .ok (.bipush 64, 2) := by decide +kernel
theorem dL_isSo_38 : decode cL_isSo 38 = .ok (.newarray .int, 2) := by decide +kernel
theorem dL_isSo_40 : decode cL_isSo 40 = .ok (.astore 10, 2) := by decide +kernel
theorem dL_isSo_42 : decode cL_isSo 42 = .ok (.aload_n 1, 1) := by decide +kernel
theorem dL_isSo_43 : decode cL_isSo 43 = .ok (.aload_n 2, 1) := by decide +kernel
theorem dL_isSo_44 : decode cL_isSo 44 = .ok (.aload 4, 2) := by decide +kernel
theorem dL_isSo_46 : decode cL_isSo 46 = .ok (.aload 5, 2) := by decide +kernel
theorem dL_isSo_48 : decode cL_isSo 48 = .ok (.aload 6, 2) := by decide +kernel
theorem dL_isSo_50 : decode cL_isSo 50 = .ok (.aload 7, 2) := by decide +kernel
theorem dL_isSo_52 : decode cL_isSo 52 = .ok (.aload 8, 2) := by decide +kernel
theorem dL_isSo_54 : decode cL_isSo 54 = .ok (.aload 9, 2) := by decide +kernel
theorem dL_isSo_56 : decode cL_isSo 56 = .ok (.aload 10, 2) := by decide +kernel
theorem dL_isSo_58 : decode cL_isSo 58 = .ok (.invokestatic 78, 3) := by decide +kernel
theorem dL_isSo_61 : decode cL_isSo 61 = .ok (.istore 11, 2) := by decide +kernel
theorem dL_isSo_63 : decode cL_isSo 63 = .ok (.iload 11, 2) := by decide +kernel
theorem dL_isSo_65 : decode cL_isSo 65 = .ok (.ifCond .ne 7, 3) := by decide +kernel
theorem dL_isSo_68 : decode cL_isSo 68 = .ok (.iconst 0, 1) := by decide +kernel
theorem dL_isSo_69 : decode cL_isSo 69 = .ok (.goto 12, 3) := by decide +kernel
theorem dL_isSo_72 : decode cL_isSo 72 = .ok (.aload 9, 2) := by decide +kernel
theorem dL_isSo_74 : decode cL_isSo 74 = .ok (.iload 11, 2) := by decide +kernel
theorem dL_isSo_76 : decode cL_isSo 76 = .ok (.iconst 1, 1) := by decide +kernel
theorem dL_isSo_77 : decode cL_isSo 77 = .ok (.isub, 1) := by decide +kernel
theorem dL_isSo_78 : decode cL_isSo 78 = .ok (.iaload, 1) := by decide +kernel
theorem dL_isSo_79 : decode cL_isSo 79 = .ok (.iconst 1, 1) := by decide +kernel
theorem dL_isSo_80 : decode cL_isSo 80 = .ok (.iadd, 1) := by decide +kernel
theorem dL_isSo_81 : decode cL_isSo 81 = .ok (.istore 12, 2) := by decide +kernel
theorem dL_isSo_83 : decode cL_isSo 83 = .ok (.ldc 30, 2) := by decide +kernel
theorem dL_isSo_85 : decode cL_isSo 85 = .ok (.istore 13, 2) := by decide +kernel
theorem dL_isSo_87 : decode cL_isSo 87 = .ok (.iconst 0, 1) := by decide +kernel
theorem dL_isSo_88 : decode cL_isSo 88 = .ok (.istore 14, 2) := by decide +kernel
theorem dL_isSo_90 : decode cL_isSo 90 = .ok (.iconst 0, 1) := by decide +kernel
theorem dL_isSo_91 : decode cL_isSo 91 = .ok (.istore 15, 2) := by decide +kernel
theorem dL_isSo_93 : decode cL_isSo 93 = .ok (.iconst 0, 1) := by decide +kernel
theorem dL_isSo_94 : decode cL_isSo 94 = .ok (.istore 16, 2) := by decide +kernel
theorem dL_isSo_96 : decode cL_isSo 96 = .ok (.iconst 0, 1) := by decide +kernel
theorem dL_isSo_97 : decode cL_isSo 97 = .ok (.istore 17, 2) := by decide +kernel
theorem dL_isSo_99 : decode cL_isSo 99 = .ok (.iconst 0, 1) := by decide +kernel
theorem dL_isSo_100 : decode cL_isSo 100 = .ok (.istore 18, 2) := by decide +kernel
theorem dL_isSo_102 : decode cL_isSo 102 = .ok (.iconst 1, 1) := by decide +kernel
theorem dL_isSo_103 : decode cL_isSo 103 = .ok (.istore 19, 2) := by decide +kernel
theorem dL_isSo_105 : decode cL_isSo 105 = .ok (.iconst 0, 1) := by decide +kernel
theorem dL_isSo_106 : decode cL_isSo 106 = .ok (.istore 20, 2) := by decide +kernel
theorem dL_isSo_108 : decode cL_isSo 108 = .ok (.iload 20, 2) := by decide +kernel
theorem dL_isSo_110 : decode cL_isSo 110 = .ok (.aload_n 1, 1) := by decide +kernel
theorem dL_isSo_111 : decode cL_isSo 111 = .ok (.iconst 3, 1) := by decide +kernel
theorem dL_isSo_112 : decode cL_isSo 112 = .ok (.iaload, 1) := by decide +kernel
theorem dL_isSo_113 : decode cL_isSo 113 = .ok (.if_icmp .ge 298, 3) := by decide +kernel
theorem dL_isSo_116 : decode cL_isSo 116 = .ok (.iload 19, 2) := by decide +kernel
theorem dL_isSo_118 : decode cL_isSo 118 = .ok (.ifCond .eq 293, 3) := by decide +kernel
theorem dL_isSo_121 : decode cL_isSo 121 = .ok (.iload 20, 2) := by decide +kernel
theorem dL_isSo_123 : decode cL_isSo 123 = .ok (.ifCond .ne 7, 3) := by decide +kernel
theorem dL_isSo_126 : decode cL_isSo 126 = .ok (.iconst 1, 1) := by decide +kernel
theorem dL_isSo_127 : decode cL_isSo 127 = .ok (.goto 4, 3) := by decide +kernel
theorem dL_isSo_130 : decode cL_isSo 130 = .ok (.iconst 0, 1) := by decide +kernel
theorem dL_isSo_131 : decode cL_isSo 131 = .ok (.istore 21, 2) := by decide +kernel
theorem dL_isSo_133 : decode cL_isSo 133 = .ok (.iload 21, 2) := by decide +kernel
theorem dL_isSo_135 : decode cL_isSo 135 = .ok (.ifCond .ne 19, 3) := by decide +kernel
theorem dL_isSo_138 : decode cL_isSo 138 = .ok (.aload_n 1, 1) := by decide +kernel
theorem dL_isSo_139 : decode cL_isSo 139 = .ok (.aload 5, 2) := by decide +kernel
theorem dL_isSo_141 : decode cL_isSo 141 = .ok (.iload 20, 2) := by decide +kernel
theorem dL_isSo_143 : decode cL_isSo 143 = .ok (.iaload, 1) := by decide +kernel
theorem dL_isSo_144 : decode cL_isSo 144 = .ok (.invokestatic 82, 3) := by decide +kernel
theorem dL_isSo_147 : decode cL_isSo 147 = .ok (.ifCond .eq 7, 3) := by decide +kernel
theorem dL_isSo_150 : decode cL_isSo 150 = .ok (.iconst 1, 1) := by decide +kernel
theorem dL_isSo_151 : decode cL_isSo 151 = .ok (.goto 4, 3) := by decide +kernel
theorem dL_isSo_154 : decode cL_isSo 154 = .ok (.iconst 0, 1) := by decide +kernel
theorem dL_isSo_155 : decode cL_isSo 155 = .ok (.istore 22, 2) := by decide +kernel
theorem dL_isSo_157 : decode cL_isSo 157 = .ok (.iload 17, 2) := by decide +kernel
theorem dL_isSo_159 : decode cL_isSo 159 = .ok (.iload 22, 2) := by decide +kernel
theorem dL_isSo_161 : decode cL_isSo 161 = .ok (.iadd, 1) := by decide +kernel
theorem dL_isSo_162 : decode cL_isSo 162 = .ok (.istore 17, 2) := by decide +kernel
theorem dL_isSo_164 : decode cL_isSo 164 = .ok (.iload 15, 2) := by decide +kernel
theorem dL_isSo_166 : decode cL_isSo 166 = .ok (.aload 4, 2) := by decide +kernel
theorem dL_isSo_168 : decode cL_isSo 168 = .ok (.iload 20, 2) := by decide +kernel
theorem dL_isSo_170 : decode cL_isSo 170 = .ok (.iaload, 1) := by decide +kernel
theorem dL_isSo_171 : decode cL_isSo 171 = .ok (.ifCond .ne 7, 3) := by decide +kernel
theorem dL_isSo_174 : decode cL_isSo 174 = .ok (.iconst 1, 1) := by decide +kernel
theorem dL_isSo_175 : decode cL_isSo 175 = .ok (.goto 4, 3) := by decide +kernel
theorem dL_isSo_178 : decode cL_isSo 178 = .ok (.iconst 0, 1) := by decide +kernel
theorem dL_isSo_179 : decode cL_isSo 179 = .ok (.iadd, 1) := by decide +kernel
theorem dL_isSo_180 : decode cL_isSo 180 = .ok (.istore 15, 2) := by decide +kernel
theorem dL_isSo_182 : decode cL_isSo 182 = .ok (.iload 16, 2) := by decide +kernel
theorem dL_isSo_184 : decode cL_isSo 184 = .ok (.aload 4, 2) := by decide +kernel
theorem dL_isSo_186 : decode cL_isSo 186 = .ok (.iload 20, 2) := by decide +kernel
theorem dL_isSo_188 : decode cL_isSo 188 = .ok (.iaload, 1) := by decide +kernel
theorem dL_isSo_189 : decode cL_isSo 189 = .ok (.iconst 2, 1) := by decide +kernel
theorem dL_isSo_190 : decode cL_isSo 190 = .ok (.if_icmp .ne 7, 3) := by decide +kernel
theorem dL_isSo_193 : decode cL_isSo 193 = .ok (.iconst 1, 1) := by decide +kernel
theorem dL_isSo_194 : decode cL_isSo 194 = .ok (.goto 4, 3) := by decide +kernel
theorem dL_isSo_197 : decode cL_isSo 197 = .ok (.iconst 0, 1) := by decide +kernel
theorem dL_isSo_198 : decode cL_isSo 198 = .ok (.iadd, 1) := by decide +kernel
theorem dL_isSo_199 : decode cL_isSo 199 = .ok (.istore 16, 2) := by decide +kernel
theorem dL_isSo_201 : decode cL_isSo 201 = .ok (.aload_n 0, 1) := by decide +kernel
theorem dL_isSo_202 : decode cL_isSo 202 = .ok (.iload 20, 2) := by decide +kernel
theorem dL_isSo_204 : decode cL_isSo 204 = .ok (.iconst 0, 1) := by decide +kernel
theorem dL_isSo_205 : decode cL_isSo 205 = .ok (.invokevirtual 86, 3) := by decide +kernel
theorem dL_isSo_208 : decode cL_isSo 208 = .ok (.aload_n 2, 1) := by decide +kernel
theorem dL_isSo_209 : decode cL_isSo 209 = .ok (.iload 20, 2) := by decide +kernel
theorem dL_isSo_211 : decode cL_isSo 211 = .ok (.iaload, 1) := by decide +kernel
theorem dL_isSo_212 : decode cL_isSo 212 = .ok (.if_icmp .ne 190, 3) := by decide +kernel
theorem dL_isSo_215 : decode cL_isSo 215 = .ok (.aload_n 0, 1) := by decide +kernel
theorem dL_isSo_216 : decode cL_isSo 216 = .ok (.iload 20, 2) := by decide +kernel
theorem dL_isSo_218 : decode cL_isSo 218 = .ok (.iconst 1, 1) := by decide +kernel
theorem dL_isSo_219 : decode cL_isSo 219 = .ok (.invokevirtual 86, 3) := by decide +kernel
theorem dL_isSo_222 : decode cL_isSo 222 = .ok (.iload 21, 2) := by decide +kernel
theorem dL_isSo_224 : decode cL_isSo 224 = .ok (.ifCond .eq 8, 3) := by decide +kernel
theorem dL_isSo_227 : decode cL_isSo 227 = .ok (.iload 13, 2) := by decide +kernel
theorem dL_isSo_229 : decode cL_isSo 229 = .ok (.goto 8, 3) := by decide +kernel
theorem dL_isSo_232 : decode cL_isSo 232 = .ok (.aload 5, 2) := by decide +kernel
theorem dL_isSo_234 : decode cL_isSo 234 = .ok (.iload 20, 2) := by decide +kernel
theorem dL_isSo_236 : decode cL_isSo 236 = .ok (.iaload, 1) := by decide +kernel
theorem dL_isSo_237 : decode cL_isSo 237 = .ok (.if_icmp .ne 165, 3) := by decide +kernel
theorem dL_isSo_240 : decode cL_isSo 240 = .ok (.aload_n 0, 1) := by decide +kernel
theorem dL_isSo_241 : decode cL_isSo 241 = .ok (.iload 20, 2) := by decide +kernel
theorem dL_isSo_243 : decode cL_isSo 243 = .ok (.iconst 2, 1) := by decide +kernel
theorem dL_isSo_244 : decode cL_isSo 244 = .ok (.invokevirtual 86, 3) := by decide +kernel
theorem dL_isSo_247 : decode cL_isSo 247 = .ok (.iload 21, 2) := by decide +kernel
theorem dL_isSo_249 : decode cL_isSo 249 = .ok (.ifCond .eq 8, 3) := by decide +kernel
theorem dL_isSo_252 : decode cL_isSo 252 = .ok (.iload 13, 2) := by decide +kernel
theorem dL_isSo_254 : decode cL_isSo 254 = .ok (.goto 8, 3) := by decide +kernel
theorem dL_isSo_257 : decode cL_isSo 257 = .ok (.aload 4, 2) := by decide +kernel
theorem dL_isSo_259 : decode cL_isSo 259 = .ok (.iload 20, 2) := by decide +kernel
theorem dL_isSo_261 : decode cL_isSo 261 = .ok (.iaload, 1) := by decide +kernel
theorem dL_isSo_262 : decode cL_isSo 262 = .ok (.if_icmp .ne 140, 3) := by decide +kernel
theorem dL_isSo_265 : decode cL_isSo 265 = .ok (.aload_n 0, 1) := by decide +kernel
theorem dL_isSo_266 : decode cL_isSo 266 = .ok (.iload 20, 2) := by decide +kernel
theorem dL_isSo_268 : decode cL_isSo 268 = .ok (.iconst 3, 1) := by decide +kernel
theorem dL_isSo_269 : decode cL_isSo 269 = .ok (.invokevirtual 86, 3) := by decide +kernel
theorem dL_isSo_272 : decode cL_isSo 272 = .ok (.iload 21, 2) := by decide +kernel
theorem dL_isSo_274 : decode cL_isSo 274 = .ok (.ifCond .eq 8, 3) := by decide +kernel
theorem dL_isSo_277 : decode cL_isSo 277 = .ok (.iload 13, 2) := by decide +kernel
theorem dL_isSo_279 : decode cL_isSo 279 = .ok (.goto 5, 3) := by decide +kernel
theorem dL_isSo_282 : decode cL_isSo 282 = .ok (.iload 22, 2) := by decide +kernel
theorem dL_isSo_284 : decode cL_isSo 284 = .ok (.if_icmp .ne 118, 3) := by decide +kernel
theorem dL_isSo_287 : decode cL_isSo 287 = .ok (.aload_n 0, 1) := by decide +kernel
theorem dL_isSo_288 : decode cL_isSo 288 = .ok (.iload 20, 2) := by decide +kernel
theorem dL_isSo_290 : decode cL_isSo 290 = .ok (.iconst 4, 1) := by decide +kernel
theorem dL_isSo_291 : decode cL_isSo 291 = .ok (.invokevirtual 86, 3) := by decide +kernel
theorem dL_isSo_294 : decode cL_isSo 294 = .ok (.aload 4, 2) := by decide +kernel
theorem dL_isSo_296 : decode cL_isSo 296 = .ok (.iload 20, 2) := by decide +kernel
theorem dL_isSo_298 : decode cL_isSo 298 = .ok (.iaload, 1) := by decide +kernel
theorem dL_isSo_299 : decode cL_isSo 299 = .ok (.ifCond .ne 8, 3) := by decide +kernel
theorem dL_isSo_302 : decode cL_isSo 302 = .ok (.iload 13, 2) := by decide +kernel
theorem dL_isSo_304 : decode cL_isSo 304 = .ok (.goto 8, 3) := by decide +kernel
theorem dL_isSo_307 : decode cL_isSo 307 = .ok (.aload 6, 2) := by decide +kernel
theorem dL_isSo_309 : decode cL_isSo 309 = .ok (.iload 20, 2) := by decide +kernel
theorem dL_isSo_311 : decode cL_isSo 311 = .ok (.iaload, 1) := by decide +kernel
theorem dL_isSo_312 : decode cL_isSo 312 = .ok (.if_icmp .ne 90, 3) := by decide +kernel
theorem dL_isSo_315 : decode cL_isSo 315 = .ok (.aload_n 0, 1) := by decide +kernel
theorem dL_isSo_316 : decode cL_isSo 316 = .ok (.iload 20, 2) := by decide +kernel
theorem dL_isSo_318 : decode cL_isSo 318 = .ok (.iconst 5, 1) := by decide +kernel
theorem dL_isSo_319 : decode cL_isSo 319 = .ok (.invokevirtual 86, 3) := by decide +kernel
theorem dL_isSo_322 : decode cL_isSo 322 = .ok (.aload 4, 2) := by decide +kernel
theorem dL_isSo_324 : decode cL_isSo 324 = .ok (.iload 20, 2) := by decide +kernel
theorem dL_isSo_326 : decode cL_isSo 326 = .ok (.iaload, 1) := by decide +kernel
theorem dL_isSo_327 : decode cL_isSo 327 = .ok (.ifCond .ne 8, 3) := by decide +kernel
theorem dL_isSo_330 : decode cL_isSo 330 = .ok (.iload 13, 2) := by decide +kernel
theorem dL_isSo_332 : decode cL_isSo 332 = .ok (.goto 21, 3) := by decide +kernel
theorem dL_isSo_335 : decode cL_isSo 335 = .ok (.aload 7, 2) := by decide +kernel
theorem dL_isSo_337 : decode cL_isSo 337 = .ok (.iload 20, 2) := by decide +kernel
theorem dL_isSo_339 : decode cL_isSo 339 = .ok (.iaload, 1) := by decide +kernel
theorem dL_isSo_340 : decode cL_isSo 340 = .ok (.aload 9, 2) := by decide +kernel
theorem dL_isSo_342 : decode cL_isSo 342 = .ok (.iload 11, 2) := by decide +kernel
theorem dL_isSo_344 : decode cL_isSo 344 = .ok (.aload 6, 2) := by decide +kernel
theorem dL_isSo_346 : decode cL_isSo 346 = .ok (.iload 20, 2) := by decide +kernel
theorem dL_isSo_348 : decode cL_isSo 348 = .ok (.iaload, 1) := by decide +kernel
theorem dL_isSo_349 : decode cL_isSo 349 = .ok (.invokestatic 89, 3) := by decide +kernel
theorem dL_isSo_352 : decode cL_isSo 352 = .ok (.isub, 1) := by decide +kernel
theorem dL_isSo_353 : decode cL_isSo 353 = .ok (.if_icmp .ne 49, 3) := by decide +kernel
theorem dL_isSo_356 : decode cL_isSo 356 = .ok (.aload_n 0, 1) := by decide +kernel
theorem dL_isSo_357 : decode cL_isSo 357 = .ok (.iload 20, 2) := by decide +kernel
theorem dL_isSo_359 : decode cL_isSo 359 = .ok (.bipush 6, 2) := by decide +kernel
theorem dL_isSo_361 : decode cL_isSo 361 = .ok (.invokevirtual 86, 3) := by decide +kernel
theorem dL_isSo_364 : decode cL_isSo 364 = .ok (.aload 4, 2) := by decide +kernel
theorem dL_isSo_366 : decode cL_isSo 366 = .ok (.iload 20, 2) := by decide +kernel
theorem dL_isSo_368 : decode cL_isSo 368 = .ok (.iaload, 1) := by decide +kernel
theorem dL_isSo_369 : decode cL_isSo 369 = .ok (.ifCond .ne 8, 3) := by decide +kernel
theorem dL_isSo_372 : decode cL_isSo 372 = .ok (.iload 13, 2) := by decide +kernel
theorem dL_isSo_374 : decode cL_isSo 374 = .ok (.goto 8, 3) := by decide +kernel
theorem dL_isSo_377 : decode cL_isSo 377 = .ok (.aload 8, 2) := by decide +kernel
theorem dL_isSo_379 : decode cL_isSo 379 = .ok (.iload 20, 2) := by decide +kernel
theorem dL_isSo_381 : decode cL_isSo 381 = .ok (.iaload, 1) := by decide +kernel
theorem dL_isSo_382 : decode cL_isSo 382 = .ok (.if_icmp .ne 20, 3) := by decide +kernel
theorem dL_isSo_385 : decode cL_isSo 385 = .ok (.aload_n 0, 1) := by decide +kernel
theorem dL_isSo_386 : decode cL_isSo 386 = .ok (.iload 20, 2) := by decide +kernel
theorem dL_isSo_388 : decode cL_isSo 388 = .ok (.bipush 7, 2) := by decide +kernel
theorem dL_isSo_390 : decode cL_isSo 390 = .ok (.invokevirtual 86, 3) := by decide +kernel
theorem dL_isSo_393 : decode cL_isSo 393 = .ok (.ldc 51, 2) := by decide +kernel
theorem dL_isSo_395 : decode cL_isSo 395 = .ok (.if_icmp .ne 7, 3) := by decide +kernel
theorem dL_isSo_398 : decode cL_isSo 398 = .ok (.iconst 1, 1) := by decide +kernel
theorem dL_isSo_399 : decode cL_isSo 399 = .ok (.goto 4, 3) := by decide +kernel
theorem dL_isSo_402 : decode cL_isSo 402 = .ok (.iconst 0, 1) := by decide +kernel
theorem dL_isSo_403 : decode cL_isSo 403 = .ok (.istore 19, 2) := by decide +kernel
theorem dL_isSo_405 : decode cL_isSo 405 = .ok (.iinc 20 1, 3) := by decide +kernel
theorem dL_isSo_408 : decode cL_isSo 408 = .ok (.goto (-300), 3) := by decide +kernel
theorem dL_isSo_411 : decode cL_isSo 411 = .ok (.iconst 0, 1) := by decide +kernel
theorem dL_isSo_412 : decode cL_isSo 412 = .ok (.istore 20, 2) := by decide +kernel
theorem dL_isSo_414 : decode cL_isSo 414 = .ok (.iload 20, 2) := by decide +kernel
theorem dL_isSo_416 : decode cL_isSo 416 = .ok (.iload 12, 2) := by decide +kernel
theorem dL_isSo_418 : decode cL_isSo 418 = .ok (.if_icmp .ge 474, 3) := by decide +kernel
theorem dL_isSo_421 : decode cL_isSo 421 = .ok (.iload 19, 2) := by decide +kernel
theorem dL_isSo_423 : decode cL_isSo 423 = .ok (.ifCond .eq 469, 3) := by decide +kernel
theorem dL_isSo_426 : decode cL_isSo 426 = .ok (.aload 9, 2) := by decide +kernel
theorem dL_isSo_428 : decode cL_isSo 428 = .ok (.iload 11, 2) := by decide +kernel
theorem dL_isSo_430 : decode cL_isSo 430 = .ok (.iload 20, 2) := by decide +kernel
theorem dL_isSo_432 : decode cL_isSo 432 = .ok (.invokestatic 89, 3) := by decide +kernel
theorem dL_isSo_435 : decode cL_isSo 435 = .ok (.istore 21, 2) := by decide +kernel
theorem dL_isSo_437 : decode cL_isSo 437 = .ok (.aload 9, 2) := by decide +kernel
theorem dL_isSo_439 : decode cL_isSo 439 = .ok (.iload 11, 2) := by decide +kernel
theorem dL_isSo_441 : decode cL_isSo 441 = .ok (.iload 20, 2) := by decide +kernel
theorem dL_isSo_443 : decode cL_isSo 443 = .ok (.iconst 1, 1) := by decide +kernel
theorem dL_isSo_444 : decode cL_isSo 444 = .ok (.iadd, 1) := by decide +kernel
theorem dL_isSo_445 : decode cL_isSo 445 = .ok (.invokestatic 89, 3) := by decide +kernel
theorem dL_isSo_448 : decode cL_isSo 448 = .ok (.istore 22, 2) := by decide +kernel
theorem dL_isSo_450 : decode cL_isSo 450 = .ok (.iconst 0, 1) := by decide +kernel
theorem dL_isSo_451 : decode cL_isSo 451 = .ok (.istore 23, 2) := by decide +kernel
theorem dL_isSo_453 : decode cL_isSo 453 = .ok (.iconst 0, 1) := by decide +kernel
theorem dL_isSo_454 : decode cL_isSo 454 = .ok (.istore 24, 2) := by decide +kernel
theorem dL_isSo_456 : decode cL_isSo 456 = .ok (.iconst 0, 1) := by decide +kernel
theorem dL_isSo_457 : decode cL_isSo 457 = .ok (.istore 25, 2) := by decide +kernel
theorem dL_isSo_459 : decode cL_isSo 459 = .ok (.iconst (-1), 1) := by decide +kernel
theorem dL_isSo_460 : decode cL_isSo 460 = .ok (.istore 26, 2) := by decide +kernel
theorem dL_isSo_462 : decode cL_isSo 462 = .ok (.iconst 0, 1) := by decide +kernel
theorem dL_isSo_463 : decode cL_isSo 463 = .ok (.istore 27, 2) := by decide +kernel
theorem dL_isSo_465 : decode cL_isSo 465 = .ok (.iload 27, 2) := by decide +kernel
theorem dL_isSo_467 : decode cL_isSo 467 = .ok (.aload_n 1, 1) := by decide +kernel
theorem dL_isSo_468 : decode cL_isSo 468 = .ok (.iconst 3, 1) := by decide +kernel
theorem dL_isSo_469 : decode cL_isSo 469 = .ok (.iaload, 1) := by decide +kernel
theorem dL_isSo_470 : decode cL_isSo 470 = .ok (.if_icmp .ge 107, 3) := by decide +kernel
theorem dL_isSo_473 : decode cL_isSo 473 = .ok (.iload 26, 2) := by decide +kernel
theorem dL_isSo_475 : decode cL_isSo 475 = .ok (.ifCond .ge 26, 3) := by decide +kernel
theorem dL_isSo_478 : decode cL_isSo 478 = .ok (.aload 6, 2) := by decide +kernel
theorem dL_isSo_480 : decode cL_isSo 480 = .ok (.iload 27, 2) := by decide +kernel
theorem dL_isSo_482 : decode cL_isSo 482 = .ok (.iaload, 1) := by decide +kernel
theorem dL_isSo_483 : decode cL_isSo 483 = .ok (.iload 20, 2) := by decide +kernel
theorem dL_isSo_485 : decode cL_isSo 485 = .ok (.if_icmp .ne 16, 3) := by decide +kernel
theorem dL_isSo_488 : decode cL_isSo 488 = .ok (.aload 4, 2) := by decide +kernel
theorem dL_isSo_490 : decode cL_isSo 490 = .ok (.iload 27, 2) := by decide +kernel
theorem dL_isSo_492 : decode cL_isSo 492 = .ok (.iaload, 1) := by decide +kernel
theorem dL_isSo_493 : decode cL_isSo 493 = .ok (.ifCond .le 8, 3) := by decide +kernel
theorem dL_isSo_496 : decode cL_isSo 496 = .ok (.iload 27, 2) := by decide +kernel
theorem dL_isSo_498 : decode cL_isSo 498 = .ok (.goto 5, 3) := by decide +kernel
theorem dL_isSo_501 : decode cL_isSo 501 = .ok (.iload 26, 2) := by decide +kernel
theorem dL_isSo_503 : decode cL_isSo 503 = .ok (.istore 26, 2) := by decide +kernel
theorem dL_isSo_505 : decode cL_isSo 505 = .ok (.iload 24, 2) := by decide +kernel
theorem dL_isSo_507 : decode cL_isSo 507 = .ok (.aload 6, 2) := by decide +kernel
theorem dL_isSo_509 : decode cL_isSo 509 = .ok (.iload 27, 2) := by decide +kernel
theorem dL_isSo_511 : decode cL_isSo 511 = .ok (.iaload, 1) := by decide +kernel
theorem dL_isSo_512 : decode cL_isSo 512 = .ok (.iload 20, 2) := by decide +kernel
theorem dL_isSo_514 : decode cL_isSo 514 = .ok (.if_icmp .ne 16, 3) := by decide +kernel
theorem dL_isSo_517 : decode cL_isSo 517 = .ok (.aload 4, 2) := by decide +kernel
theorem dL_isSo_519 : decode cL_isSo 519 = .ok (.iload 27, 2) := by decide +kernel
theorem dL_isSo_521 : decode cL_isSo 521 = .ok (.iaload, 1) := by decide +kernel
theorem dL_isSo_522 : decode cL_isSo 522 = .ok (.iconst 2, 1) := by decide +kernel
theorem dL_isSo_523 : decode cL_isSo 523 = .ok (.if_icmp .ne 7, 3) := by decide +kernel
theorem dL_isSo_526 : decode cL_isSo 526 = .ok (.iconst 1, 1) := by decide +kernel
theorem dL_isSo_527 : decode cL_isSo 527 = .ok (.goto 4, 3) := by decide +kernel
theorem dL_isSo_530 : decode cL_isSo 530 = .ok (.iconst 0, 1) := by decide +kernel
theorem dL_isSo_531 : decode cL_isSo 531 = .ok (.iadd, 1) := by decide +kernel
theorem dL_isSo_532 : decode cL_isSo 532 = .ok (.istore 24, 2) := by decide +kernel
theorem dL_isSo_534 : decode cL_isSo 534 = .ok (.iload 25, 2) := by decide +kernel
theorem dL_isSo_536 : decode cL_isSo 536 = .ok (.aload 6, 2) := by decide +kernel
theorem dL_isSo_538 : decode cL_isSo 538 = .ok (.iload 27, 2) := by decide +kernel
theorem dL_isSo_540 : decode cL_isSo 540 = .ok (.iaload, 1) := by decide +kernel
theorem dL_isSo_541 : decode cL_isSo 541 = .ok (.iload 20, 2) := by decide +kernel
theorem dL_isSo_543 : decode cL_isSo 543 = .ok (.if_icmp .ne 24, 3) := by decide +kernel
theorem dL_isSo_546 : decode cL_isSo 546 = .ok (.iload 27, 2) := by decide +kernel
theorem dL_isSo_548 : decode cL_isSo 548 = .ok (.ifCond .le 19, 3) := by decide +kernel
theorem dL_isSo_551 : decode cL_isSo 551 = .ok (.aload_n 1, 1) := by decide +kernel
theorem dL_isSo_552 : decode cL_isSo 552 = .ok (.aload 5, 2) := by decide +kernel
theorem dL_isSo_554 : decode cL_isSo 554 = .ok (.iload 27, 2) := by decide +kernel
theorem dL_isSo_556 : decode cL_isSo 556 = .ok (.iaload, 1) := by decide +kernel
theorem dL_isSo_557 : decode cL_isSo 557 = .ok (.invokestatic 82, 3) := by decide +kernel
theorem dL_isSo_560 : decode cL_isSo 560 = .ok (.ifCond .eq 7, 3) := by decide +kernel
theorem dL_isSo_563 : decode cL_isSo 563 = .ok (.iconst 1, 1) := by decide +kernel
theorem dL_isSo_564 : decode cL_isSo 564 = .ok (.goto 4, 3) := by decide +kernel
theorem dL_isSo_567 : decode cL_isSo 567 = .ok (.iconst 0, 1) := by decide +kernel
theorem dL_isSo_568 : decode cL_isSo 568 = .ok (.iadd, 1) := by decide +kernel
theorem dL_isSo_569 : decode cL_isSo 569 = .ok (.istore 25, 2) := by decide +kernel
theorem dL_isSo_571 : decode cL_isSo 571 = .ok (.iinc 27 1, 3) := by decide +kernel
theorem dL_isSo_574 : decode cL_isSo 574 = .ok (.goto (-109), 3) := by decide +kernel
theorem dL_isSo_577 : decode cL_isSo 577 = .ok (.iload 21, 2) := by decide +kernel
theorem dL_isSo_579 : decode cL_isSo 579 = .ok (.istore 27, 2) := by decide +kernel
theorem dL_isSo_581 : decode cL_isSo 581 = .ok (.iload 27, 2) := by decide +kernel
theorem dL_isSo_583 : decode cL_isSo 583 = .ok (.iload 22, 2) := by decide +kernel
theorem dL_isSo_585 : decode cL_isSo 585 = .ok (.if_icmp .ge 154, 3) := by decide +kernel
theorem dL_isSo_588 : decode cL_isSo 588 = .ok (.iload 19, 2) := by decide +kernel
theorem dL_isSo_590 : decode cL_isSo 590 = .ok (.ifCond .eq 149, 3) := by decide +kernel
theorem dL_isSo_593 : decode cL_isSo 593 = .ok (.iload 23, 2) := by decide +kernel
theorem dL_isSo_595 : decode cL_isSo 595 = .ok (.aload 10, 2) := by decide +kernel
theorem dL_isSo_597 : decode cL_isSo 597 = .ok (.iload 27, 2) := by decide +kernel
theorem dL_isSo_599 : decode cL_isSo 599 = .ok (.iaload, 1) := by decide +kernel
theorem dL_isSo_600 : decode cL_isSo 600 = .ok (.invokestatic 22, 3) := by decide +kernel
theorem dL_isSo_603 : decode cL_isSo 603 = .ok (.ifCond .eq 7, 3) := by decide +kernel
theorem dL_isSo_606 : decode cL_isSo 606 = .ok (.iconst 0, 1) := by decide +kernel
theorem dL_isSo_607 : decode cL_isSo 607 = .ok (.goto 4, 3) := by decide +kernel
theorem dL_isSo_610 : decode cL_isSo 610 = .ok (.iconst 1, 1) := by decide +kernel
theorem dL_isSo_611 : decode cL_isSo 611 = .ok (.iadd, 1) := by decide +kernel
theorem dL_isSo_612 : decode cL_isSo 612 = .ok (.istore 23, 2) := by decide +kernel
theorem dL_isSo_614 : decode cL_isSo 614 = .ok (.aload_n 0, 1) := by decide +kernel
theorem dL_isSo_615 : decode cL_isSo 615 = .ok (.iload 20, 2) := by decide +kernel
theorem dL_isSo_617 : decode cL_isSo 617 = .ok (.iload 27, 2) := by decide +kernel
theorem dL_isSo_619 : decode cL_isSo 619 = .ok (.iload 21, 2) := by decide +kernel
theorem dL_isSo_621 : decode cL_isSo 621 = .ok (.isub, 1) := by decide +kernel
theorem dL_isSo_622 : decode cL_isSo 622 = .ok (.iconst 0, 1) := by decide +kernel
theorem dL_isSo_623 : decode cL_isSo 623 = .ok (.invokevirtual 92, 3) := by decide +kernel
theorem dL_isSo_626 : decode cL_isSo 626 = .ok (.aload_n 3, 1) := by decide +kernel
theorem dL_isSo_627 : decode cL_isSo 627 = .ok (.aload 10, 2) := by decide +kernel
theorem dL_isSo_629 : decode cL_isSo 629 = .ok (.iload 27, 2) := by decide +kernel
theorem dL_isSo_631 : decode cL_isSo 631 = .ok (.iaload, 1) := by decide +kernel
theorem dL_isSo_632 : decode cL_isSo 632 = .ok (.invokestatic 31, 3) := by decide +kernel
theorem dL_isSo_635 : decode cL_isSo 635 = .ok (.if_icmp .ne 95, 3) := by decide +kernel
theorem dL_isSo_638 : decode cL_isSo 638 = .ok (.aload_n 0, 1) := by decide +kernel
theorem dL_isSo_639 : decode cL_isSo 639 = .ok (.iload 20, 2) := by decide +kernel
theorem dL_isSo_641 : decode cL_isSo 641 = .ok (.iload 27, 2) := by decide +kernel
theorem dL_isSo_643 : decode cL_isSo 643 = .ok (.iload 21, 2) := by decide +kernel
theorem dL_isSo_645 : decode cL_isSo 645 = .ok (.isub, 1) := by decide +kernel
theorem dL_isSo_646 : decode cL_isSo 646 = .ok (.iconst 1, 1) := by decide +kernel
theorem dL_isSo_647 : decode cL_isSo 647 = .ok (.invokevirtual 92, 3) := by decide +kernel
theorem dL_isSo_650 : decode cL_isSo 650 = .ok (.aload 10, 2) := by decide +kernel
theorem dL_isSo_652 : decode cL_isSo 652 = .ok (.iload 27, 2) := by decide +kernel
theorem dL_isSo_654 : decode cL_isSo 654 = .ok (.iaload, 1) := by decide +kernel
theorem dL_isSo_655 : decode cL_isSo 655 = .ok (.sipush 255, 3) := by decide +kernel
theorem dL_isSo_658 : decode cL_isSo 658 = .ok (.iand, 1) := by decide +kernel
theorem dL_isSo_659 : decode cL_isSo 659 = .ok (.if_icmp .ne 71, 3) := by decide +kernel
theorem dL_isSo_662 : decode cL_isSo 662 = .ok (.aload_n 0, 1) := by decide +kernel
theorem dL_isSo_663 : decode cL_isSo 663 = .ok (.iload 20, 2) := by decide +kernel
theorem dL_isSo_665 : decode cL_isSo 665 = .ok (.iload 27, 2) := by decide +kernel
theorem dL_isSo_667 : decode cL_isSo 667 = .ok (.iload 21, 2) := by decide +kernel
theorem dL_isSo_669 : decode cL_isSo 669 = .ok (.isub, 1) := by decide +kernel
theorem dL_isSo_670 : decode cL_isSo 670 = .ok (.iconst 2, 1) := by decide +kernel
theorem dL_isSo_671 : decode cL_isSo 671 = .ok (.invokevirtual 92, 3) := by decide +kernel
theorem dL_isSo_674 : decode cL_isSo 674 = .ok (.aload 10, 2) := by decide +kernel
theorem dL_isSo_676 : decode cL_isSo 676 = .ok (.iload 27, 2) := by decide +kernel
theorem dL_isSo_678 : decode cL_isSo 678 = .ok (.iaload, 1) := by decide +kernel
theorem dL_isSo_679 : decode cL_isSo 679 = .ok (.invokestatic 15, 3) := by decide +kernel
theorem dL_isSo_682 : decode cL_isSo 682 = .ok (.if_icmp .ne 48, 3) := by decide +kernel
theorem dL_isSo_685 : decode cL_isSo 685 = .ok (.aload_n 0, 1) := by decide +kernel
theorem dL_isSo_686 : decode cL_isSo 686 = .ok (.iload 20, 2) := by decide +kernel
theorem dL_isSo_688 : decode cL_isSo 688 = .ok (.iload 27, 2) := by decide +kernel
theorem dL_isSo_690 : decode cL_isSo 690 = .ok (.iload 21, 2) := by decide +kernel
theorem dL_isSo_692 : decode cL_isSo 692 = .ok (.isub, 1) := by decide +kernel
theorem dL_isSo_693 : decode cL_isSo 693 = .ok (.iconst 3, 1) := by decide +kernel
theorem dL_isSo_694 : decode cL_isSo 694 = .ok (.invokevirtual 92, 3) := by decide +kernel
theorem dL_isSo_697 : decode cL_isSo 697 = .ok (.aload 10, 2) := by decide +kernel
theorem dL_isSo_699 : decode cL_isSo 699 = .ok (.iload 27, 2) := by decide +kernel
theorem dL_isSo_701 : decode cL_isSo 701 = .ok (.iaload, 1) := by decide +kernel
theorem dL_isSo_702 : decode cL_isSo 702 = .ok (.sipush 255, 3) := by decide +kernel
theorem dL_isSo_705 : decode cL_isSo 705 = .ok (.iand, 1) := by decide +kernel
theorem dL_isSo_706 : decode cL_isSo 706 = .ok (.iconst 1, 1) := by decide +kernel
theorem dL_isSo_707 : decode cL_isSo 707 = .ok (.if_icmp .le 14, 3) := by decide +kernel
theorem dL_isSo_710 : decode cL_isSo 710 = .ok (.aload 10, 2) := by decide +kernel
theorem dL_isSo_712 : decode cL_isSo 712 = .ok (.iload 27, 2) := by decide +kernel
theorem dL_isSo_714 : decode cL_isSo 714 = .ok (.iaload, 1) := by decide +kernel
theorem dL_isSo_715 : decode cL_isSo 715 = .ok (.invokestatic 19, 3) := by decide +kernel
theorem dL_isSo_718 : decode cL_isSo 718 = .ok (.goto 5, 3) := by decide +kernel
theorem dL_isSo_721 : decode cL_isSo 721 = .ok (.iload 13, 2) := by decide +kernel
theorem dL_isSo_723 : decode cL_isSo 723 = .ok (.if_icmp .ne 7, 3) := by decide +kernel
theorem dL_isSo_726 : decode cL_isSo 726 = .ok (.iconst 1, 1) := by decide +kernel
theorem dL_isSo_727 : decode cL_isSo 727 = .ok (.goto 4, 3) := by decide +kernel
theorem dL_isSo_730 : decode cL_isSo 730 = .ok (.iconst 0, 1) := by decide +kernel
theorem dL_isSo_731 : decode cL_isSo 731 = .ok (.istore 19, 2) := by decide +kernel
theorem dL_isSo_733 : decode cL_isSo 733 = .ok (.iinc 27 1, 3) := by decide +kernel
theorem dL_isSo_736 : decode cL_isSo 736 = .ok (.goto (-155), 3) := by decide +kernel
theorem dL_isSo_739 : decode cL_isSo 739 = .ok (.aload_n 3, 1) := by decide +kernel
theorem dL_isSo_740 : decode cL_isSo 740 = .ok (.aload 10, 2) := by decide +kernel
theorem dL_isSo_742 : decode cL_isSo 742 = .ok (.iload 21, 2) := by decide +kernel
theorem dL_isSo_744 : decode cL_isSo 744 = .ok (.iload 22, 2) := by decide +kernel
theorem dL_isSo_746 : decode cL_isSo 746 = .ok (.invokestatic 96, 3) := by decide +kernel
theorem dL_isSo_749 : decode cL_isSo 749 = .ok (.istore 27, 2) := by decide +kernel
theorem dL_isSo_751 : decode cL_isSo 751 = .ok (.iload 14, 2) := by decide +kernel
theorem dL_isSo_753 : decode cL_isSo 753 = .ok (.iload 23, 2) := by decide +kernel
theorem dL_isSo_755 : decode cL_isSo 755 = .ok (.iadd, 1) := by decide +kernel
theorem dL_isSo_756 : decode cL_isSo 756 = .ok (.istore 14, 2) := by decide +kernel
theorem dL_isSo_758 : decode cL_isSo 758 = .ok (.iload 18, 2) := by decide +kernel
theorem dL_isSo_760 : decode cL_isSo 760 = .ok (.iload 27, 2) := by decide +kernel
theorem dL_isSo_762 : decode cL_isSo 762 = .ok (.ifCond .eq 7, 3) := by decide +kernel
theorem dL_isSo_765 : decode cL_isSo 765 = .ok (.iconst 1, 1) := by decide +kernel
theorem dL_isSo_766 : decode cL_isSo 766 = .ok (.goto 4, 3) := by decide +kernel
theorem dL_isSo_769 : decode cL_isSo 769 = .ok (.iconst 0, 1) := by decide +kernel
theorem dL_isSo_770 : decode cL_isSo 770 = .ok (.iadd, 1) := by decide +kernel
theorem dL_isSo_771 : decode cL_isSo 771 = .ok (.istore 18, 2) := by decide +kernel
theorem dL_isSo_773 : decode cL_isSo 773 = .ok (.iload 19, 2) := by decide +kernel
theorem dL_isSo_775 : decode cL_isSo 775 = .ok (.ifCond .eq 108, 3) := by decide +kernel
theorem dL_isSo_778 : decode cL_isSo 778 = .ok (.aload_n 0, 1) := by decide +kernel
theorem dL_isSo_779 : decode cL_isSo 779 = .ok (.iload 20, 2) := by decide +kernel
theorem dL_isSo_781 : decode cL_isSo 781 = .ok (.iconst 0, 1) := by decide +kernel
theorem dL_isSo_782 : decode cL_isSo 782 = .ok (.invokevirtual 100, 3) := by decide +kernel
theorem dL_isSo_785 : decode cL_isSo 785 = .ok (.iload 22, 2) := by decide +kernel
theorem dL_isSo_787 : decode cL_isSo 787 = .ok (.iload 21, 2) := by decide +kernel
theorem dL_isSo_789 : decode cL_isSo 789 = .ok (.isub, 1) := by decide +kernel
theorem dL_isSo_790 : decode cL_isSo 790 = .ok (.if_icmp .ne 93, 3) := by decide +kernel
theorem dL_isSo_793 : decode cL_isSo 793 = .ok (.aload_n 0, 1) := by decide +kernel
theorem dL_isSo_794 : decode cL_isSo 794 = .ok (.iload 20, 2) := by decide +kernel
theorem dL_isSo_796 : decode cL_isSo 796 = .ok (.iconst 1, 1) := by decide +kernel
theorem dL_isSo_797 : decode cL_isSo 797 = .ok (.invokevirtual 100, 3) := by decide +kernel
theorem dL_isSo_800 : decode cL_isSo 800 = .ok (.iload 23, 2) := by decide +kernel
theorem dL_isSo_802 : decode cL_isSo 802 = .ok (.if_icmp .ne 81, 3) := by decide +kernel
theorem dL_isSo_805 : decode cL_isSo 805 = .ok (.aload_n 0, 1) := by decide +kernel
theorem dL_isSo_806 : decode cL_isSo 806 = .ok (.iload 20, 2) := by decide +kernel
theorem dL_isSo_808 : decode cL_isSo 808 = .ok (.iconst 2, 1) := by decide +kernel
theorem dL_isSo_809 : decode cL_isSo 809 = .ok (.invokevirtual 100, 3) := by decide +kernel
theorem dL_isSo_812 : decode cL_isSo 812 = .ok (.iload 27, 2) := by decide +kernel
theorem dL_isSo_814 : decode cL_isSo 814 = .ok (.ifCond .eq 7, 3) := by decide +kernel
theorem dL_isSo_817 : decode cL_isSo 817 = .ok (.iconst 1, 1) := by decide +kernel
theorem dL_isSo_818 : decode cL_isSo 818 = .ok (.goto 4, 3) := by decide +kernel
theorem dL_isSo_821 : decode cL_isSo 821 = .ok (.iconst 0, 1) := by decide +kernel
theorem dL_isSo_822 : decode cL_isSo 822 = .ok (.if_icmp .ne 61, 3) := by decide +kernel
theorem dL_isSo_825 : decode cL_isSo 825 = .ok (.aload_n 0, 1) := by decide +kernel
theorem dL_isSo_826 : decode cL_isSo 826 = .ok (.iload 20, 2) := by decide +kernel
theorem dL_isSo_828 : decode cL_isSo 828 = .ok (.iconst 3, 1) := by decide +kernel
theorem dL_isSo_829 : decode cL_isSo 829 = .ok (.invokevirtual 100, 3) := by decide +kernel
theorem dL_isSo_832 : decode cL_isSo 832 = .ok (.iload 24, 2) := by decide +kernel
theorem dL_isSo_834 : decode cL_isSo 834 = .ok (.if_icmp .ne 49, 3) := by decide +kernel
theorem dL_isSo_837 : decode cL_isSo 837 = .ok (.aload_n 0, 1) := by decide +kernel
theorem dL_isSo_838 : decode cL_isSo 838 = .ok (.iload 20, 2) := by decide +kernel
theorem dL_isSo_840 : decode cL_isSo 840 = .ok (.iconst 5, 1) := by decide +kernel
theorem dL_isSo_841 : decode cL_isSo 841 = .ok (.invokevirtual 100, 3) := by decide +kernel
theorem dL_isSo_844 : decode cL_isSo 844 = .ok (.iload 26, 2) := by decide +kernel
theorem dL_isSo_846 : decode cL_isSo 846 = .ok (.if_icmp .ne 37, 3) := by decide +kernel
theorem dL_isSo_849 : decode cL_isSo 849 = .ok (.aload_n 0, 1) := by decide +kernel
theorem dL_isSo_850 : decode cL_isSo 850 = .ok (.iload 20, 2) := by decide +kernel
theorem dL_isSo_852 : decode cL_isSo 852 = .ok (.bipush 6, 2) := by decide +kernel
theorem dL_isSo_854 : decode cL_isSo 854 = .ok (.invokevirtual 100, 3) := by decide +kernel
theorem dL_isSo_857 : decode cL_isSo 857 = .ok (.iload 25, 2) := by decide +kernel
theorem dL_isSo_859 : decode cL_isSo 859 = .ok (.if_icmp .ne 24, 3) := by decide +kernel
theorem dL_isSo_862 : decode cL_isSo 862 = .ok (.aload_n 0, 1) := by decide +kernel
theorem dL_isSo_863 : decode cL_isSo 863 = .ok (.iload 20, 2) := by decide +kernel
theorem dL_isSo_865 : decode cL_isSo 865 = .ok (.iload 22, 2) := by decide +kernel
theorem dL_isSo_867 : decode cL_isSo 867 = .ok (.iload 21, 2) := by decide +kernel
theorem dL_isSo_869 : decode cL_isSo 869 = .ok (.isub, 1) := by decide +kernel
theorem dL_isSo_870 : decode cL_isSo 870 = .ok (.iconst 0, 1) := by decide +kernel
theorem dL_isSo_871 : decode cL_isSo 871 = .ok (.invokevirtual 92, 3) := by decide +kernel
theorem dL_isSo_874 : decode cL_isSo 874 = .ok (.ldc 51, 2) := by decide +kernel
theorem dL_isSo_876 : decode cL_isSo 876 = .ok (.if_icmp .ne 7, 3) := by decide +kernel
theorem dL_isSo_879 : decode cL_isSo 879 = .ok (.iconst 1, 1) := by decide +kernel
theorem dL_isSo_880 : decode cL_isSo 880 = .ok (.goto 4, 3) := by decide +kernel
theorem dL_isSo_883 : decode cL_isSo 883 = .ok (.iconst 0, 1) := by decide +kernel
theorem dL_isSo_884 : decode cL_isSo 884 = .ok (.istore 19, 2) := by decide +kernel
theorem dL_isSo_886 : decode cL_isSo 886 = .ok (.iinc 20 1, 3) := by decide +kernel
theorem dL_isSo_889 : decode cL_isSo 889 = .ok (.goto (-475), 3) := by decide +kernel
theorem dL_isSo_892 : decode cL_isSo 892 = .ok (.iconst 0, 1) := by decide +kernel
theorem dL_isSo_893 : decode cL_isSo 893 = .ok (.istore 20, 2) := by decide +kernel
theorem dL_isSo_895 : decode cL_isSo 895 = .ok (.iload 20, 2) := by decide +kernel
theorem dL_isSo_897 : decode cL_isSo 897 = .ok (.bipush 25, 2) := by decide +kernel
theorem dL_isSo_899 : decode cL_isSo 899 = .ok (.if_icmp .ge 49, 3) := by decide +kernel
theorem dL_isSo_902 : decode cL_isSo 902 = .ok (.iload 19, 2) := by decide +kernel
theorem dL_isSo_904 : decode cL_isSo 904 = .ok (.ifCond .eq 44, 3) := by decide +kernel
theorem dL_isSo_907 : decode cL_isSo 907 = .ok (.aload_n 0, 1) := by decide +kernel
theorem dL_isSo_908 : decode cL_isSo 908 = .ok (.iload 20, 2) := by decide +kernel
theorem dL_isSo_910 : decode cL_isSo 910 = .ok (.invokevirtual 103, 3) := by decide +kernel
theorem dL_isSo_913 : decode cL_isSo 913 = .ok (.bipush 11, 2) := by decide +kernel
theorem dL_isSo_915 : decode cL_isSo 915 = .ok (.bipush 10, 2) := by decide +kernel
theorem dL_isSo_917 : decode cL_isSo 917 = .ok (.aload_n 3, 1) := by decide +kernel
theorem dL_isSo_918 : decode cL_isSo 918 = .ok (.iload 20, 2) := by decide +kernel
theorem dL_isSo_920 : decode cL_isSo 920 = .ok (.iaload, 1) := by decide +kernel
theorem dL_isSo_921 : decode cL_isSo 921 = .ok (.iconst 5, 1) := by decide +kernel
theorem dL_isSo_922 : decode cL_isSo 922 = .ok (.idiv, 1) := by decide +kernel
theorem dL_isSo_923 : decode cL_isSo 923 = .ok (.imul, 1) := by decide +kernel
theorem dL_isSo_924 : decode cL_isSo 924 = .ok (.iadd, 1) := by decide +kernel
theorem dL_isSo_925 : decode cL_isSo 925 = .ok (.aload_n 3, 1) := by decide +kernel
theorem dL_isSo_926 : decode cL_isSo 926 = .ok (.iload 20, 2) := by decide +kernel
theorem dL_isSo_928 : decode cL_isSo 928 = .ok (.iaload, 1) := by decide +kernel
theorem dL_isSo_929 : decode cL_isSo 929 = .ok (.iconst 5, 1) := by decide +kernel
theorem dL_isSo_930 : decode cL_isSo 930 = .ok (.irem, 1) := by decide +kernel
theorem dL_isSo_931 : decode cL_isSo 931 = .ok (.iadd, 1) := by decide +kernel
theorem dL_isSo_932 : decode cL_isSo 932 = .ok (.if_icmp .ne 7, 3) := by decide +kernel
theorem dL_isSo_935 : decode cL_isSo 935 = .ok (.iconst 1, 1) := by decide +kernel
theorem dL_isSo_936 : decode cL_isSo 936 = .ok (.goto 4, 3) := by decide +kernel
theorem dL_isSo_939 : decode cL_isSo 939 = .ok (.iconst 0, 1) := by decide +kernel
theorem dL_isSo_940 : decode cL_isSo 940 = .ok (.istore 19, 2) := by decide +kernel
theorem dL_isSo_942 : decode cL_isSo 942 = .ok (.iinc 20 1, 3) := by decide +kernel
theorem dL_isSo_945 : decode cL_isSo 945 = .ok (.goto (-50), 3) := by decide +kernel
theorem dL_isSo_948 : decode cL_isSo 948 = .ok (.iload 19, 2) := by decide +kernel
theorem dL_isSo_950 : decode cL_isSo 950 = .ok (.ifCond .eq 90, 3) := by decide +kernel
theorem dL_isSo_953 : decode cL_isSo 953 = .ok (.aload_n 0, 1) := by decide +kernel
theorem dL_isSo_954 : decode cL_isSo 954 = .ok (.iconst 0, 1) := by decide +kernel
theorem dL_isSo_955 : decode cL_isSo 955 = .ok (.invokevirtual 106, 3) := by decide +kernel
theorem dL_isSo_958 : decode cL_isSo 958 = .ok (.aload_n 1, 1) := by decide +kernel
theorem dL_isSo_959 : decode cL_isSo 959 = .ok (.iconst 3, 1) := by decide +kernel
theorem dL_isSo_960 : decode cL_isSo 960 = .ok (.iaload, 1) := by decide +kernel
theorem dL_isSo_961 : decode cL_isSo 961 = .ok (.if_icmp .ne 79, 3) := by decide +kernel
theorem dL_isSo_964 : decode cL_isSo 964 = .ok (.aload_n 0, 1) := by decide +kernel
theorem dL_isSo_965 : decode cL_isSo 965 = .ok (.iconst 1, 1) := by decide +kernel
theorem dL_isSo_966 : decode cL_isSo 966 = .ok (.invokevirtual 106, 3) := by decide +kernel
theorem dL_isSo_969 : decode cL_isSo 969 = .ok (.iload 12, 2) := by decide +kernel
theorem dL_isSo_971 : decode cL_isSo 971 = .ok (.if_icmp .ne 69, 3) := by decide +kernel
theorem dL_isSo_974 : decode cL_isSo 974 = .ok (.aload_n 0, 1) := by decide +kernel
theorem dL_isSo_975 : decode cL_isSo 975 = .ok (.iconst 2, 1) := by decide +kernel
theorem dL_isSo_976 : decode cL_isSo 976 = .ok (.invokevirtual 106, 3) := by decide +kernel
theorem dL_isSo_979 : decode cL_isSo 979 = .ok (.iload 11, 2) := by decide +kernel
theorem dL_isSo_981 : decode cL_isSo 981 = .ok (.if_icmp .ne 59, 3) := by decide +kernel
theorem dL_isSo_984 : decode cL_isSo 984 = .ok (.aload_n 0, 1) := by decide +kernel
theorem dL_isSo_985 : decode cL_isSo 985 = .ok (.iconst 3, 1) := by decide +kernel
theorem dL_isSo_986 : decode cL_isSo 986 = .ok (.invokevirtual 106, 3) := by decide +kernel
theorem dL_isSo_989 : decode cL_isSo 989 = .ok (.iload 14, 2) := by decide +kernel
theorem dL_isSo_991 : decode cL_isSo 991 = .ok (.if_icmp .ne 49, 3) := by decide +kernel
theorem dL_isSo_994 : decode cL_isSo 994 = .ok (.aload_n 0, 1) := by decide +kernel
theorem dL_isSo_995 : decode cL_isSo 995 = .ok (.iconst 4, 1) := by decide +kernel
theorem dL_isSo_996 : decode cL_isSo 996 = .ok (.invokevirtual 106, 3) := by decide +kernel
theorem dL_isSo_999 : decode cL_isSo 999 = .ok (.iload 15, 2) := by decide +kernel
theorem dL_isSo_1001 : decode cL_isSo 1001 = .ok (.if_icmp .ne 39, 3) := by decide +kernel
theorem dL_isSo_1004 : decode cL_isSo 1004 = .ok (.aload_n 0, 1) := by decide +kernel
theorem dL_isSo_1005 : decode cL_isSo 1005 = .ok (.iconst 5, 1) := by decide +kernel
theorem dL_isSo_1006 : decode cL_isSo 1006 = .ok (.invokevirtual 106, 3) := by decide +kernel
theorem dL_isSo_1009 : decode cL_isSo 1009 = .ok (.iload 16, 2) := by decide +kernel
theorem dL_isSo_1011 : decode cL_isSo 1011 = .ok (.if_icmp .ne 29, 3) := by decide +kernel
theorem dL_isSo_1014 : decode cL_isSo 1014 = .ok (.aload_n 0, 1) := by decide +kernel
theorem dL_isSo_1015 : decode cL_isSo 1015 = .ok (.bipush 6, 2) := by decide +kernel
theorem dL_isSo_1017 : decode cL_isSo 1017 = .ok (.invokevirtual 106, 3) := by decide +kernel
theorem dL_isSo_1020 : decode cL_isSo 1020 = .ok (.iload 17, 2) := by decide +kernel
theorem dL_isSo_1022 : decode cL_isSo 1022 = .ok (.if_icmp .ne 18, 3) := by decide +kernel
theorem dL_isSo_1025 : decode cL_isSo 1025 = .ok (.aload_n 0, 1) := by decide +kernel
theorem dL_isSo_1026 : decode cL_isSo 1026 = .ok (.bipush 7, 2) := by decide +kernel
theorem dL_isSo_1028 : decode cL_isSo 1028 = .ok (.invokevirtual 106, 3) := by decide +kernel
theorem dL_isSo_1031 : decode cL_isSo 1031 = .ok (.iload 18, 2) := by decide +kernel
theorem dL_isSo_1033 : decode cL_isSo 1033 = .ok (.if_icmp .ne 7, 3) := by decide +kernel
theorem dL_isSo_1036 : decode cL_isSo 1036 = .ok (.iconst 1, 1) := by decide +kernel
theorem dL_isSo_1037 : decode cL_isSo 1037 = .ok (.goto 4, 3) := by decide +kernel
theorem dL_isSo_1040 : decode cL_isSo 1040 = .ok (.iconst 0, 1) := by decide +kernel
theorem dL_isSo_1041 : decode cL_isSo 1041 = .ok (.istore 19, 2) := by decide +kernel
theorem dL_isSo_1043 : decode cL_isSo 1043 = .ok (.iload 19, 2) := by decide +kernel
theorem dL_isSo_1045 : decode cL_isSo 1045 = .ok (.ifCond .eq 91, 3) := by decide +kernel
theorem dL_isSo_1048 : decode cL_isSo 1048 = .ok (.aload_n 0, 1) := by decide +kernel
theorem dL_isSo_1049 : decode cL_isSo 1049 = .ok (.bipush 8, 2) := by decide +kernel
theorem dL_isSo_1051 : decode cL_isSo 1051 = .ok (.invokevirtual 106, 3) := by decide +kernel
theorem dL_isSo_1054 : decode cL_isSo 1054 = .ok (.aload_n 1, 1) := by decide +kernel
theorem dL_isSo_1055 : decode cL_isSo 1055 = .ok (.iconst 2, 1) := by decide +kernel
theorem dL_isSo_1056 : decode cL_isSo 1056 = .ok (.iaload, 1) := by decide +kernel
theorem dL_isSo_1057 : decode cL_isSo 1057 = .ok (.if_icmp .ne 79, 3) := by decide +kernel
theorem dL_isSo_1060 : decode cL_isSo 1060 = .ok (.aload_n 0, 1) := by decide +kernel
theorem dL_isSo_1061 : decode cL_isSo 1061 = .ok (.bipush 9, 2) := by decide +kernel
theorem dL_isSo_1063 : decode cL_isSo 1063 = .ok (.invokevirtual 106, 3) := by decide +kernel
theorem dL_isSo_1066 : decode cL_isSo 1066 = .ok (.aload_n 1, 1) := by decide +kernel
theorem dL_isSo_1067 : decode cL_isSo 1067 = .ok (.iconst 3, 1) := by decide +kernel
theorem dL_isSo_1068 : decode cL_isSo 1068 = .ok (.iaload, 1) := by decide +kernel
theorem dL_isSo_1069 : decode cL_isSo 1069 = .ok (.ifCond .ne 8, 3) := by decide +kernel
theorem dL_isSo_1072 : decode cL_isSo 1072 = .ok (.iload 13, 2) := by decide +kernel
theorem dL_isSo_1074 : decode cL_isSo 1074 = .ok (.goto 10, 3) := by decide +kernel
theorem dL_isSo_1077 : decode cL_isSo 1077 = .ok (.aload_n 2, 1) := by decide +kernel
theorem dL_isSo_1078 : decode cL_isSo 1078 = .ok (.aload_n 1, 1) := by decide +kernel
theorem dL_isSo_1079 : decode cL_isSo 1079 = .ok (.iconst 3, 1) := by decide +kernel
theorem dL_isSo_1080 : decode cL_isSo 1080 = .ok (.iaload, 1) := by decide +kernel
theorem dL_isSo_1081 : decode cL_isSo 1081 = .ok (.iconst 1, 1) := by decide +kernel
theorem dL_isSo_1082 : decode cL_isSo 1082 = .ok (.isub, 1) := by decide +kernel
theorem dL_isSo_1083 : decode cL_isSo 1083 = .ok (.iaload, 1) := by decide +kernel
theorem dL_isSo_1084 : decode cL_isSo 1084 = .ok (.if_icmp .ne 52, 3) := by decide +kernel
theorem dL_isSo_1087 : decode cL_isSo 1087 = .ok (.aload_n 0, 1) := by decide +kernel
theorem dL_isSo_1088 : decode cL_isSo 1088 = .ok (.bipush 11, 2) := by decide +kernel
theorem dL_isSo_1090 : decode cL_isSo 1090 = .ok (.invokevirtual 106, 3) := by decide +kernel
theorem dL_isSo_1093 : decode cL_isSo 1093 = .ok (.ifCond .ne 43, 3) := by decide +kernel
theorem dL_isSo_1096 : decode cL_isSo 1096 = .ok (.aload_n 0, 1) := by decide +kernel
theorem dL_isSo_1097 : decode cL_isSo 1097 = .ok (.bipush 20, 2) := by decide +kernel
theorem dL_isSo_1099 : decode cL_isSo 1099 = .ok (.invokevirtual 106, 3) := by decide +kernel
theorem dL_isSo_1102 : decode cL_isSo 1102 = .ok (.aload_n 1, 1) := by decide +kernel
theorem dL_isSo_1103 : decode cL_isSo 1103 = .ok (.iconst 0, 1) := by decide +kernel
theorem dL_isSo_1104 : decode cL_isSo 1104 = .ok (.iaload, 1) := by decide +kernel
theorem dL_isSo_1105 : decode cL_isSo 1105 = .ok (.if_icmp .ne 31, 3) := by decide +kernel
theorem dL_isSo_1108 : decode cL_isSo 1108 = .ok (.aload_n 0, 1) := by decide +kernel
theorem dL_isSo_1109 : decode cL_isSo 1109 = .ok (.bipush 21, 2) := by decide +kernel
theorem dL_isSo_1111 : decode cL_isSo 1111 = .ok (.invokevirtual 106, 3) := by decide +kernel
theorem dL_isSo_1114 : decode cL_isSo 1114 = .ok (.aload_n 1, 1) := by decide +kernel
theorem dL_isSo_1115 : decode cL_isSo 1115 = .ok (.iconst 1, 1) := by decide +kernel
theorem dL_isSo_1116 : decode cL_isSo 1116 = .ok (.iaload, 1) := by decide +kernel
theorem dL_isSo_1117 : decode cL_isSo 1117 = .ok (.if_icmp .ne 19, 3) := by decide +kernel
theorem dL_isSo_1120 : decode cL_isSo 1120 = .ok (.aload_n 0, 1) := by decide +kernel
theorem dL_isSo_1121 : decode cL_isSo 1121 = .ok (.iload 12, 2) := by decide +kernel
theorem dL_isSo_1123 : decode cL_isSo 1123 = .ok (.iconst 0, 1) := by decide +kernel
theorem dL_isSo_1124 : decode cL_isSo 1124 = .ok (.invokevirtual 100, 3) := by decide +kernel
theorem dL_isSo_1127 : decode cL_isSo 1127 = .ok (.ldc 51, 2) := by decide +kernel
theorem dL_isSo_1129 : decode cL_isSo 1129 = .ok (.if_icmp .ne 7, 3) := by decide +kernel
theorem dL_isSo_1132 : decode cL_isSo 1132 = .ok (.iconst 1, 1) := by decide +kernel
theorem dL_isSo_1133 : decode cL_isSo 1133 = .ok (.goto 4, 3) := by decide +kernel
theorem dL_isSo_1136 : decode cL_isSo 1136 = .ok (.iconst 0, 1) := by decide +kernel
theorem dL_isSo_1137 : decode cL_isSo 1137 = .ok (.ireturn, 1) := by decide +kernel
theorem dL_law_0 : decode cL_law 0 = .ok (.new 44, 3) := by decide +kernel
theorem dL_law_3 : decode cL_law 3 = .ok (.dup, 1) := by decide +kernel
theorem dL_law_4 : decode cL_law 4 = .ok (.invokespecial 109, 3) := by decide +kernel
theorem dL_law_7 : decode cL_law 7 = .ok (.astore_n 1, 1) := by decide +kernel
theorem dL_law_8 : decode cL_law 8 = .ok (.iconst 4, 1) := by decide +kernel
theorem dL_law_9 : decode cL_law 9 = .ok (.newarray .int, 2) := by decide +kernel
theorem dL_law_11 : decode cL_law 11 = .ok (.astore_n 2, 1) := by decide +kernel
theorem dL_law_12 : decode cL_law 12 = .ok (.bipush 64, 2) := by decide +kernel
theorem dL_law_14 : decode cL_law 14 = .ok (.newarray .int, 2) := by decide +kernel
theorem dL_law_16 : decode cL_law 16 = .ok (.astore_n 3, 1) := by decide +kernel
theorem dL_law_17 : decode cL_law 17 = .ok (.bipush 25, 2) := by decide +kernel
theorem dL_law_19 : decode cL_law 19 = .ok (.newarray .int, 2) := by decide +kernel
theorem dL_law_21 : decode cL_law 21 = .ok (.astore 4, 2) := by decide +kernel
theorem dL_law_23 : decode cL_law 23 = .ok (.aload_n 2, 1) := by decide +kernel
theorem dL_law_24 : decode cL_law 24 = .ok (.iconst 0, 1) := by decide +kernel
theorem dL_law_25 : decode cL_law 25 = .ok (.bipush 8, 2) := by decide +kernel
theorem dL_law_27 : decode cL_law 27 = .ok (.iastore, 1) := by decide +kernel
theorem dL_law_28 : decode cL_law 28 = .ok (.aload_n 2, 1) := by decide +kernel
theorem dL_law_29 : decode cL_law 29 = .ok (.iconst 1, 1) := by decide +kernel
theorem dL_law_30 : decode cL_law 30 = .ok (.iconst 1, 1) := by decide +kernel
theorem dL_law_31 : decode cL_law 31 = .ok (.iastore, 1) := by decide +kernel
theorem dL_law_32 : decode cL_law 32 = .ok (.iconst 0, 1) := by decide +kernel
theorem dL_law_33 : decode cL_law 33 = .ok (.istore 5, 2) := by decide +kernel
theorem dL_law_35 : decode cL_law 35 = .ok (.iload 5, 2) := by decide +kernel
theorem dL_law_37 : decode cL_law 37 = .ok (.bipush 25, 2) := by decide +kernel
theorem dL_law_39 : decode cL_law 39 = .ok (.if_icmp .ge 16, 3) := by decide +kernel
theorem dL_law_42 : decode cL_law 42 = .ok (.aload 4, 2) := by decide +kernel
theorem dL_law_44 : decode cL_law 44 = .ok (.iload 5, 2) := by decide +kernel
theorem dL_law_46 : decode cL_law 46 = .ok (.iload 5, 2) := by decide +kernel
theorem dL_law_48 : decode cL_law 48 = .ok (.iastore, 1) := by decide +kernel
theorem dL_law_49 : decode cL_law 49 = .ok (.iinc 5 1, 3) := by decide +kernel
theorem dL_law_52 : decode cL_law 52 = .ok (.goto (-17), 3) := by decide +kernel
theorem dL_law_55 : decode cL_law 55 = .ok (.aload_n 1, 1) := by decide +kernel
theorem dL_law_56 : decode cL_law 56 = .ok (.aload_n 2, 1) := by decide +kernel
theorem dL_law_57 : decode cL_law 57 = .ok (.aload_n 3, 1) := by decide +kernel
theorem dL_law_58 : decode cL_law 58 = .ok (.aload 4, 2) := by decide +kernel
theorem dL_law_60 : decode cL_law 60 = .ok (.invokestatic 110, 3) := by decide +kernel
theorem dL_law_63 : decode cL_law 63 = .ok (.istore 5, 2) := by decide +kernel
theorem dL_law_65 : decode cL_law 65 = .ok (.bipush 10, 2) := by decide +kernel
theorem dL_law_67 : decode cL_law 67 = .ok (.aload_n 0, 1) := by decide +kernel
theorem dL_law_68 : decode cL_law 68 = .ok (.iconst 0, 1) := by decide +kernel
theorem dL_law_69 : decode cL_law 69 = .ok (.invokestatic 114, 3) := by decide +kernel
theorem dL_law_72 : decode cL_law 72 = .ok (.bipush 42, 2) := by decide +kernel
theorem dL_law_74 : decode cL_law 74 = .ok (.invokestatic 39, 3) := by decide +kernel
theorem dL_law_77 : decode cL_law 77 = .ok (.iadd, 1) := by decide +kernel
theorem dL_law_78 : decode cL_law 78 = .ok (.istore 6, 2) := by decide +kernel
theorem dL_law_80 : decode cL_law 80 = .ok (.iconst 0, 1) := by decide +kernel
theorem dL_law_81 : decode cL_law 81 = .ok (.istore 7, 2) := by decide +kernel
theorem dL_law_83 : decode cL_law 83 = .ok (.iload 7, 2) := by decide +kernel
theorem dL_law_85 : decode cL_law 85 = .ok (.iload 6, 2) := by decide +kernel
theorem dL_law_87 : decode cL_law 87 = .ok (.if_icmp .ge 86, 3) := by decide +kernel
theorem dL_law_90 : decode cL_law 90 = .ok (.iload 5, 2) := by decide +kernel
theorem dL_law_92 : decode cL_law 92 = .ok (.ifCond .eq 81, 3) := by decide +kernel
theorem dL_law_95 : decode cL_law 95 = .ok (.aload_n 0, 1) := by decide +kernel
theorem dL_law_96 : decode cL_law 96 = .ok (.iconst 1, 1) := by decide +kernel
theorem dL_law_97 : decode cL_law 97 = .ok (.iload 7, 2) := by decide +kernel
theorem dL_law_99 : decode cL_law 99 = .ok (.iadd, 1) := by decide +kernel
theorem dL_law_100 : decode cL_law 100 = .ok (.invokestatic 114, 3) := by decide +kernel
theorem dL_law_103 : decode cL_law 103 = .ok (.sipush 7919, 3) := by decide +kernel
theorem dL_law_106 : decode cL_law 106 = .ok (.iload 7, 2) := by decide +kernel
theorem dL_law_108 : decode cL_law 108 = .ok (.imul, 1) := by decide +kernel
theorem dL_law_109 : decode cL_law 109 = .ok (.ixor, 1) := by decide +kernel
theorem dL_law_110 : decode cL_law 110 = .ok (.istore 8, 2) := by decide +kernel
theorem dL_law_112 : decode cL_law 112 = .ok (.aload_n 1, 1) := by decide +kernel
theorem dL_law_113 : decode cL_law 113 = .ok (.aload_n 2, 1) := by decide +kernel
theorem dL_law_114 : decode cL_law 114 = .ok (.aload_n 3, 1) := by decide +kernel
theorem dL_law_115 : decode cL_law 115 = .ok (.aload 4, 2) := by decide +kernel
theorem dL_law_117 : decode cL_law 117 = .ok (.iload 7, 2) := by decide +kernel
theorem dL_law_119 : decode cL_law 119 = .ok (.iconst 3, 1) := by decide +kernel
theorem dL_law_120 : decode cL_law 120 = .ok (.if_icmp .ge 21, 3) := by decide +kernel
theorem dL_law_123 : decode cL_law 123 = .ok (.iload 8, 2) := by decide +kernel
theorem dL_law_125 : decode cL_law 125 = .ok (.ldc 8, 2) := by decide +kernel
theorem dL_law_127 : decode cL_law 127 = .ok (.iand, 1) := by decide +kernel
theorem dL_law_128 : decode cL_law 128 = .ok (.sipush 768, 3) := by decide +kernel
theorem dL_law_131 : decode cL_law 131 = .ok (.idiv, 1) := by decide +kernel
theorem dL_law_132 : decode cL_law 132 = .ok (.sipush 768, 3) := by decide +kernel
theorem dL_law_135 : decode cL_law 135 = .ok (.imul, 1) := by decide +kernel
theorem dL_law_136 : decode cL_law 136 = .ok (.iconst 5, 1) := by decide +kernel
theorem dL_law_137 : decode cL_law 137 = .ok (.iadd, 1) := by decide +kernel
theorem dL_law_138 : decode cL_law 138 = .ok (.goto 5, 3) := by decide +kernel
theorem dL_law_141 : decode cL_law 141 = .ok (.iload 8, 2) := by decide +kernel
theorem dL_law_143 : decode cL_law 143 = .ok (.invokestatic 117, 3) := by decide +kernel
theorem dL_law_146 : decode cL_law 146 = .ok (.ifCond .eq 18, 3) := by decide +kernel
theorem dL_law_149 : decode cL_law 149 = .ok (.aload_n 1, 1) := by decide +kernel
theorem dL_law_150 : decode cL_law 150 = .ok (.aload_n 2, 1) := by decide +kernel
theorem dL_law_151 : decode cL_law 151 = .ok (.aload_n 3, 1) := by decide +kernel
theorem dL_law_152 : decode cL_law 152 = .ok (.aload 4, 2) := by decide +kernel
theorem dL_law_154 : decode cL_law 154 = .ok (.invokestatic 110, 3) := by decide +kernel
theorem dL_law_157 : decode cL_law 157 = .ok (.ifCond .eq 7, 3) := by decide +kernel
theorem dL_law_160 : decode cL_law 160 = .ok (.iconst 1, 1) := by decide +kernel
theorem dL_law_161 : decode cL_law 161 = .ok (.goto 4, 3) := by decide +kernel
theorem dL_law_164 : decode cL_law 164 = .ok (.iconst 0, 1) := by decide +kernel
theorem dL_law_165 : decode cL_law 165 = .ok (.istore 5, 2) := by decide +kernel
theorem dL_law_167 : decode cL_law 167 = .ok (.iinc 7 1, 3) := by decide +kernel
theorem dL_law_170 : decode cL_law 170 = .ok (.goto (-87), 3) := by decide +kernel
theorem dL_law_173 : decode cL_law 173 = .ok (.iload 5, 2) := by decide +kernel
theorem dL_law_175 : decode cL_law 175 = .ok (.ifCond .eq 88, 3) := by decide +kernel
theorem dL_law_178 : decode cL_law 178 = .ok (.aload_n 2, 1) := by decide +kernel
theorem dL_law_179 : decode cL_law 179 = .ok (.iconst 3, 1) := by decide +kernel
theorem dL_law_180 : decode cL_law 180 = .ok (.iaload, 1) := by decide +kernel
theorem dL_law_181 : decode cL_law 181 = .ok (.bipush 40, 2) := by decide +kernel
theorem dL_law_183 : decode cL_law 183 = .ok (.if_icmp .ge 80, 3) := by decide +kernel
theorem dL_law_186 : decode cL_law 186 = .ok (.aload_n 2, 1) := by decide +kernel
theorem dL_law_187 : decode cL_law 187 = .ok (.iconst 3, 1) := by decide +kernel
theorem dL_law_188 : decode cL_law 188 = .ok (.iaload, 1) := by decide +kernel
theorem dL_law_189 : decode cL_law 189 = .ok (.ifCond .eq 16, 3) := by decide +kernel
theorem dL_law_192 : decode cL_law 192 = .ok (.aload_n 3, 1) := by decide +kernel
theorem dL_law_193 : decode cL_law 193 = .ok (.aload_n 2, 1) := by decide +kernel
theorem dL_law_194 : decode cL_law 194 = .ok (.iconst 3, 1) := by decide +kernel
theorem dL_law_195 : decode cL_law 195 = .ok (.iaload, 1) := by decide +kernel
theorem dL_law_196 : decode cL_law 196 = .ok (.iconst 1, 1) := by decide +kernel
theorem dL_law_197 : decode cL_law 197 = .ok (.isub, 1) := by decide +kernel
theorem dL_law_198 : decode cL_law 198 = .ok (.iaload, 1) := by decide +kernel
theorem dL_law_199 : decode cL_law 199 = .ok (.sipush 8000, 3) := by decide +kernel
theorem dL_law_202 : decode cL_law 202 = .ok (.if_icmp .ge 61, 3) := by decide +kernel
theorem dL_law_205 : decode cL_law 205 = .ok (.aload_n 0, 1) := by decide +kernel
theorem dL_law_206 : decode cL_law 206 = .ok (.iconst 2, 1) := by decide +kernel
theorem dL_law_207 : decode cL_law 207 = .ok (.invokestatic 114, 3) := by decide +kernel
theorem dL_law_210 : decode cL_law 210 = .ok (.bipush 25, 2) := by decide +kernel
theorem dL_law_212 : decode cL_law 212 = .ok (.invokestatic 39, 3) := by decide +kernel
theorem dL_law_215 : decode cL_law 215 = .ok (.istore 7, 2) := by decide +kernel
theorem dL_law_217 : decode cL_law 217 = .ok (.aload_n 1, 1) := by decide +kernel
theorem dL_law_218 : decode cL_law 218 = .ok (.invokevirtual 67, 3) := by decide +kernel
theorem dL_law_221 : decode cL_law 221 = .ok (.ldc 71, 2) := by decide +kernel
theorem dL_law_223 : decode cL_law 223 = .ok (.if_icmp .lt 37, 3) := by decide +kernel
theorem dL_law_226 : decode cL_law 226 = .ok (.aload_n 1, 1) := by decide +kernel
theorem dL_law_227 : decode cL_law 227 = .ok (.iload 7, 2) := by decide +kernel
theorem dL_law_229 : decode cL_law 229 = .ok (.invokevirtual 61, 3) := by decide +kernel
theorem dL_law_232 : decode cL_law 232 = .ok (.aload_n 2, 1) := by decide +kernel
theorem dL_law_233 : decode cL_law 233 = .ok (.iconst 3, 1) := by decide +kernel
theorem dL_law_234 : decode cL_law 234 = .ok (.iaload, 1) := by decide +kernel
theorem dL_law_235 : decode cL_law 235 = .ok (.if_icmp .ne 25, 3) := by decide +kernel
theorem dL_law_238 : decode cL_law 238 = .ok (.aload_n 1, 1) := by decide +kernel
theorem dL_law_239 : decode cL_law 239 = .ok (.aload_n 1, 1) := by decide +kernel
theorem dL_law_240 : decode cL_law 240 = .ok (.iconst 1, 1) := by decide +kernel
theorem dL_law_241 : decode cL_law 241 = .ok (.invokevirtual 106, 3) := by decide +kernel
theorem dL_law_244 : decode cL_law 244 = .ok (.iconst 1, 1) := by decide +kernel
theorem dL_law_245 : decode cL_law 245 = .ok (.isub, 1) := by decide +kernel
theorem dL_law_246 : decode cL_law 246 = .ok (.iconst 0, 1) := by decide +kernel
theorem dL_law_247 : decode cL_law 247 = .ok (.iconst 0, 1) := by decide +kernel
theorem dL_law_248 : decode cL_law 248 = .ok (.invokevirtual 92, 3) := by decide +kernel
theorem dL_law_251 : decode cL_law 251 = .ok (.iload 7, 2) := by decide +kernel
theorem dL_law_253 : decode cL_law 253 = .ok (.if_icmp .ne 7, 3) := by decide +kernel
theorem dL_law_256 : decode cL_law 256 = .ok (.iconst 1, 1) := by decide +kernel
theorem dL_law_257 : decode cL_law 257 = .ok (.goto 4, 3) := by decide +kernel
theorem dL_law_260 : decode cL_law 260 = .ok (.iconst 0, 1) := by decide +kernel
theorem dL_law_261 : decode cL_law 261 = .ok (.istore 5, 2) := by decide +kernel
theorem dL_law_263 : decode cL_law 263 = .ok (.iload 5, 2) := by decide +kernel
theorem dL_law_265 : decode cL_law 265 = .ok (.ifCond .eq 66, 3) := by decide +kernel
theorem dL_law_268 : decode cL_law 268 = .ok (.aload_n 1, 1) := by decide +kernel
theorem dL_law_269 : decode cL_law 269 = .ok (.bipush 12, 2) := by decide +kernel
theorem dL_law_271 : decode cL_law 271 = .ok (.invokevirtual 106, 3) := by decide +kernel
theorem dL_law_274 : decode cL_law 274 = .ok (.ldc 51, 2) := by decide +kernel
theorem dL_law_276 : decode cL_law 276 = .ok (.if_icmp .ne 55, 3) := by decide +kernel
theorem dL_law_279 : decode cL_law 279 = .ok (.aload_n 1, 1) := by decide +kernel
theorem dL_law_280 : decode cL_law 280 = .ok (.bipush 19, 2) := by decide +kernel
theorem dL_law_282 : decode cL_law 282 = .ok (.invokevirtual 106, 3) := by decide +kernel
theorem dL_law_285 : decode cL_law 285 = .ok (.ldc 51, 2) := by decide +kernel
theorem dL_law_287 : decode cL_law 287 = .ok (.if_icmp .ne 44, 3) := by decide +kernel
theorem dL_law_290 : decode cL_law 290 = .ok (.aload_n 1, 1) := by decide +kernel
theorem dL_law_291 : decode cL_law 291 = .ok (.bipush 22, 2) := by decide +kernel
theorem dL_law_293 : decode cL_law 293 = .ok (.invokevirtual 106, 3) := by decide +kernel
theorem dL_law_296 : decode cL_law 296 = .ok (.ldc 51, 2) := by decide +kernel
theorem dL_law_298 : decode cL_law 298 = .ok (.if_icmp .ne 33, 3) := by decide +kernel
theorem dL_law_301 : decode cL_law 301 = .ok (.aload_n 1, 1) := by decide +kernel
theorem dL_law_302 : decode cL_law 302 = .ok (.bipush 25, 2) := by decide +kernel
theorem dL_law_304 : decode cL_law 304 = .ok (.invokevirtual 103, 3) := by decide +kernel
theorem dL_law_307 : decode cL_law 307 = .ok (.ldc 51, 2) := by decide +kernel
theorem dL_law_309 : decode cL_law 309 = .ok (.if_icmp .ne 22, 3) := by decide +kernel
theorem dL_law_312 : decode cL_law 312 = .ok (.aload_n 1, 1) := by decide +kernel
theorem dL_law_313 : decode cL_law 313 = .ok (.aload_n 1, 1) := by decide +kernel
theorem dL_law_314 : decode cL_law 314 = .ok (.iconst 0, 1) := by decide +kernel
theorem dL_law_315 : decode cL_law 315 = .ok (.invokevirtual 106, 3) := by decide +kernel
theorem dL_law_318 : decode cL_law 318 = .ok (.iconst 0, 1) := by decide +kernel
theorem dL_law_319 : decode cL_law 319 = .ok (.invokevirtual 86, 3) := by decide +kernel
theorem dL_law_322 : decode cL_law 322 = .ok (.ldc 51, 2) := by decide +kernel
theorem dL_law_324 : decode cL_law 324 = .ok (.if_icmp .ne 7, 3) := by decide +kernel
theorem dL_law_327 : decode cL_law 327 = .ok (.iconst 1, 1) := by decide +kernel
theorem dL_law_328 : decode cL_law 328 = .ok (.goto 4, 3) := by decide +kernel
theorem dL_law_331 : decode cL_law 331 = .ok (.iconst 0, 1) := by decide +kernel
theorem dL_law_332 : decode cL_law 332 = .ok (.ireturn, 1) := by decide +kernel
