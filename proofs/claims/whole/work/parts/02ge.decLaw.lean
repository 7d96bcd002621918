theorem d_Law_law_448 : decode b_Law_law 448 = .ok (.i2l, 1) := by decide +kernel
theorem d_Law_law_449 : decode b_Law_law 449 = .ok (.ldc2_w 52, 3) := by decide +kernel
theorem d_Law_law_452 : decode b_Law_law 452 = .ok (.land, 1) := by decide +kernel
theorem d_Law_law_453 : decode b_Law_law 453 = .ok (.lor, 1) := by decide +kernel
theorem d_Law_law_454 : decode b_Law_law 454 = .ok (.invokevirtual 75, 3) := by decide +kernel
theorem d_Law_law_457 : decode b_Law_law 457 = .ok (.istore 6, 2) := by decide +kernel
theorem d_Law_law_459 : decode b_Law_law 459 = .ok (.aload_n 2, 1) := by decide +kernel
theorem d_Law_law_460 : decode b_Law_law 460 = .ok (.invokevirtual 65, 3) := by decide +kernel
theorem d_Law_law_463 : decode b_Law_law 463 = .ok (.iload 5, 2) := by decide +kernel
theorem d_Law_law_465 : decode b_Law_law 465 = .ok (.if_icmp .eq 5, 3) := by decide +kernel
theorem d_Law_law_468 : decode b_Law_law 468 = .ok (.iconst 0, 1) := by decide +kernel
theorem d_Law_law_469 : decode b_Law_law 469 = .ok (.ireturn, 1) := by decide +kernel
theorem d_Law_law_470 : decode b_Law_law 470 = .ok (.iload 5, 2) := by decide +kernel
theorem d_Law_law_472 : decode b_Law_law 472 = .ok (.ifCond .ne 22, 3) := by decide +kernel
theorem d_Law_law_475 : decode b_Law_law 475 = .ok (.aload_n 3, 1) := by decide +kernel
theorem d_Law_law_476 : decode b_Law_law 476 = .ok (.iconst 0, 1) := by decide +kernel
theorem d_Law_law_477 : decode b_Law_law 477 = .ok (.laload, 1) := by decide +kernel
theorem d_Law_law_478 : decode b_Law_law 478 = .ok (.iload 6, 2) := by decide +kernel
theorem d_Law_law_480 : decode b_Law_law 480 = .ok (.ifCond .eq 7, 3) := by decide +kernel
theorem d_Law_law_483 : decode b_Law_law 483 = .ok (.lconst 1, 1) := by decide +kernel
theorem d_Law_law_484 : decode b_Law_law 484 = .ok (.goto 4, 3) := by decide +kernel
theorem d_Law_law_487 : decode b_Law_law 487 = .ok (.lconst 0, 1) := by decide +kernel
theorem d_Law_law_488 : decode b_Law_law 488 = .ok (.lcmp, 1) := by decide +kernel
theorem d_Law_law_489 : decode b_Law_law 489 = .ok (.ifCond .eq 5, 3) := by decide +kernel
theorem d_Law_law_492 : decode b_Law_law 492 = .ok (.iconst 0, 1) := by decide +kernel
theorem d_Law_law_493 : decode b_Law_law 493 = .ok (.ireturn, 1) := by decide +kernel
theorem d_Law_law_494 : decode b_Law_law 494 = .ok (.goto 620, 3) := by decide +kernel
theorem d_Law_law_497 : decode b_Law_law 497 = .ok (.aload_n 1, 1) := by decide +kernel
theorem d_Law_law_498 : decode b_Law_law 498 = .ok (.aload_n 0, 1) := by decide +kernel
theorem d_Law_law_499 : decode b_Law_law 499 = .ok (.iload 4, 2) := by decide +kernel
theorem d_Law_law_501 : decode b_Law_law 501 = .ok (.iconst 1, 1) := by decide +kernel
theorem d_Law_law_502 : decode b_Law_law 502 = .ok (.iadd, 1) := by decide +kernel
theorem d_Law_law_503 : decode b_Law_law 503 = .ok (.iaload, 1) := by decide +kernel
theorem d_Law_law_504 : decode b_Law_law 504 = .ok (.aload_n 0, 1) := by decide +kernel
theorem d_Law_law_505 : decode b_Law_law 505 = .ok (.iload 4, 2) := by decide +kernel
theorem d_Law_law_507 : decode b_Law_law 507 = .ok (.iconst 2, 1) := by decide +kernel
theorem d_Law_law_508 : decode b_Law_law 508 = .ok (.iadd, 1) := by decide +kernel
theorem d_Law_law_509 : decode b_Law_law 509 = .ok (.iaload, 1) := by decide +kernel
theorem d_Law_law_510 : decode b_Law_law 510 = .ok (.aload_n 0, 1) := by decide +kernel
theorem d_Law_law_511 : decode b_Law_law 511 = .ok (.iload 4, 2) := by decide +kernel
theorem d_Law_law_513 : decode b_Law_law 513 = .ok (.iconst 3, 1) := by decide +kernel
theorem d_Law_law_514 : decode b_Law_law 514 = .ok (.iadd, 1) := by decide +kernel
theorem d_Law_law_515 : decode b_Law_law 515 = .ok (.iaload, 1) := by decide +kernel
theorem d_Law_law_516 : decode b_Law_law 516 = .ok (.aload_n 3, 1) := by decide +kernel
theorem d_Law_law_517 : decode b_Law_law 517 = .ok (.invokestatic 76, 3) := by decide +kernel
theorem d_Law_law_520 : decode b_Law_law 520 = .ok (.istore 5, 2) := by decide +kernel
theorem d_Law_law_522 : decode b_Law_law 522 = .ok (.aload_n 2, 1) := by decide +kernel
theorem d_Law_law_523 : decode b_Law_law 523 = .ok (.aload_n 0, 1) := by decide +kernel
theorem d_Law_law_524 : decode b_Law_law 524 = .ok (.iload 4, 2) := by decide +kernel
theorem d_Law_law_526 : decode b_Law_law 526 = .ok (.iconst 1, 1) := by decide +kernel
theorem d_Law_law_527 : decode b_Law_law 527 = .ok (.iadd, 1) := by decide +kernel
theorem d_Law_law_528 : decode b_Law_law 528 = .ok (.iaload, 1) := by decide +kernel
theorem d_Law_law_529 : decode b_Law_law 529 = .ok (.aload_n 0, 1) := by decide +kernel
theorem d_Law_law_530 : decode b_Law_law 530 = .ok (.iload 4, 2) := by decide +kernel
theorem d_Law_law_532 : decode b_Law_law 532 = .ok (.iconst 2, 1) := by decide +kernel
theorem d_Law_law_533 : decode b_Law_law 533 = .ok (.iadd, 1) := by decide +kernel
theorem d_Law_law_534 : decode b_Law_law 534 = .ok (.iaload, 1) := by decide +kernel
theorem d_Law_law_535 : decode b_Law_law 535 = .ok (.aload_n 0, 1) := by decide +kernel
theorem d_Law_law_536 : decode b_Law_law 536 = .ok (.iload 4, 2) := by decide +kernel
theorem d_Law_law_538 : decode b_Law_law 538 = .ok (.iconst 3, 1) := by decide +kernel
theorem d_Law_law_539 : decode b_Law_law 539 = .ok (.iadd, 1) := by decide +kernel
theorem d_Law_law_540 : decode b_Law_law 540 = .ok (.iaload, 1) := by decide +kernel
theorem d_Law_law_541 : decode b_Law_law 541 = .ok (.invokevirtual 79, 3) := by decide +kernel
theorem d_Law_law_544 : decode b_Law_law 544 = .ok (.istore 6, 2) := by decide +kernel
theorem d_Law_law_546 : decode b_Law_law 546 = .ok (.aload_n 2, 1) := by decide +kernel
theorem d_Law_law_547 : decode b_Law_law 547 = .ok (.invokevirtual 65, 3) := by decide +kernel
theorem d_Law_law_550 : decode b_Law_law 550 = .ok (.iload 5, 2) := by decide +kernel
theorem d_Law_law_552 : decode b_Law_law 552 = .ok (.if_icmp .eq 5, 3) := by decide +kernel
theorem d_Law_law_555 : decode b_Law_law 555 = .ok (.iconst 0, 1) := by decide +kernel
theorem d_Law_law_556 : decode b_Law_law 556 = .ok (.ireturn, 1) := by decide +kernel
theorem d_Law_law_557 : decode b_Law_law 557 = .ok (.iload 5, 2) := by decide +kernel
theorem d_Law_law_559 : decode b_Law_law 559 = .ok (.ifCond .ne 15, 3) := by decide +kernel
theorem d_Law_law_562 : decode b_Law_law 562 = .ok (.aload_n 3, 1) := by decide +kernel
theorem d_Law_law_563 : decode b_Law_law 563 = .ok (.iconst 0, 1) := by decide +kernel
theorem d_Law_law_564 : decode b_Law_law 564 = .ok (.laload, 1) := by decide +kernel
theorem d_Law_law_565 : decode b_Law_law 565 = .ok (.iload 6, 2) := by decide +kernel
theorem d_Law_law_567 : decode b_Law_law 567 = .ok (.i2l, 1) := by decide +kernel
theorem d_Law_law_568 : decode b_Law_law 568 = .ok (.lcmp, 1) := by decide +kernel
theorem d_Law_law_569 : decode b_Law_law 569 = .ok (.ifCond .eq 5, 3) := by decide +kernel
theorem d_Law_law_572 : decode b_Law_law 572 = .ok (.iconst 0, 1) := by decide +kernel
theorem d_Law_law_573 : decode b_Law_law 573 = .ok (.ireturn, 1) := by decide +kernel
theorem d_Law_law_574 : decode b_Law_law 574 = .ok (.goto 540, 3) := by decide +kernel
theorem d_Law_law_577 : decode b_Law_law 577 = .ok (.aload_n 1, 1) := by decide +kernel
theorem d_Law_law_578 : decode b_Law_law 578 = .ok (.aload_n 0, 1) := by decide +kernel
theorem d_Law_law_579 : decode b_Law_law 579 = .ok (.iload 4, 2) := by decide +kernel
theorem d_Law_law_581 : decode b_Law_law 581 = .ok (.iconst 1, 1) := by decide +kernel
theorem d_Law_law_582 : decode b_Law_law 582 = .ok (.iadd, 1) := by decide +kernel
theorem d_Law_law_583 : decode b_Law_law 583 = .ok (.iaload, 1) := by decide +kernel
theorem d_Law_law_584 : decode b_Law_law 584 = .ok (.aload_n 0, 1) := by decide +kernel
theorem d_Law_law_585 : decode b_Law_law 585 = .ok (.iload 4, 2) := by decide +kernel
theorem d_Law_law_587 : decode b_Law_law 587 = .ok (.iconst 2, 1) := by decide +kernel
theorem d_Law_law_588 : decode b_Law_law 588 = .ok (.iadd, 1) := by decide +kernel
theorem d_Law_law_589 : decode b_Law_law 589 = .ok (.iaload, 1) := by decide +kernel
theorem d_Law_law_590 : decode b_Law_law 590 = .ok (.invokestatic 80, 3) := by decide +kernel
theorem d_Law_law_593 : decode b_Law_law 593 = .ok (.istore 5, 2) := by decide +kernel
theorem d_Law_law_595 : decode b_Law_law 595 = .ok (.aload_n 2, 1) := by decide +kernel
theorem d_Law_law_596 : decode b_Law_law 596 = .ok (.aload_n 0, 1) := by decide +kernel
theorem d_Law_law_597 : decode b_Law_law 597 = .ok (.iload 4, 2) := by decide +kernel
theorem d_Law_law_599 : decode b_Law_law 599 = .ok (.iconst 1, 1) := by decide +kernel
theorem d_Law_law_600 : decode b_Law_law 600 = .ok (.iadd, 1) := by decide +kernel
