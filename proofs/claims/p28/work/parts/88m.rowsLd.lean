theorem dL_known_456 : decode cL_known 456 = .ok (.sipush 1200, 3) := by decide +kernel
theorem dL_known_459 : decode cL_known 459 = .ok (.if_icmp .ne 119, 3) := by decide +kernel
theorem dL_known_462 : decode cL_known 462 = .ok (.aload_n 0, 1) := by decide +kernel
theorem dL_known_463 : decode cL_known 463 = .ok (.iconst 1, 1) := by decide +kernel
theorem dL_known_464 : decode cL_known 464 = .ok (.invokevirtual 90, 3) := by decide +kernel
theorem dL_known_467 : decode cL_known 467 = .ok (.sipush 2000, 3) := by decide +kernel
theorem dL_known_470 : decode cL_known 470 = .ok (.if_icmp .ne 108, 3) := by decide +kernel
theorem dL_known_473 : decode cL_known 473 = .ok (.aload_n 0, 1) := by decide +kernel
theorem dL_known_474 : decode cL_known 474 = .ok (.sipush 840, 3) := by decide +kernel
theorem dL_known_477 : decode cL_known 477 = .ok (.sipush 1300, 3) := by decide +kernel
theorem dL_known_480 : decode cL_known 480 = .ok (.invokevirtual 79, 3) := by decide +kernel
theorem dL_known_483 : decode cL_known 483 = .ok (.iconst 2, 1) := by decide +kernel
theorem dL_known_484 : decode cL_known 484 = .ok (.if_icmp .ne 94, 3) := by decide +kernel
theorem dL_known_487 : decode cL_known 487 = .ok (.aload_n 0, 1) := by decide +kernel
theorem dL_known_488 : decode cL_known 488 = .ok (.iconst 0, 1) := by decide +kernel
theorem dL_known_489 : decode cL_known 489 = .ok (.iconst 2, 1) := by decide +kernel
theorem dL_known_490 : decode cL_known 490 = .ok (.invokevirtual 29, 3) := by decide +kernel
theorem dL_known_493 : decode cL_known 493 = .ok (.iconst 2, 1) := by decide +kernel
theorem dL_known_494 : decode cL_known 494 = .ok (.if_icmp .ne 84, 3) := by decide +kernel
theorem dL_known_497 : decode cL_known 497 = .ok (.aload_n 0, 1) := by decide +kernel
theorem dL_known_498 : decode cL_known 498 = .ok (.iconst 0, 1) := by decide +kernel
theorem dL_known_499 : decode cL_known 499 = .ok (.iconst 3, 1) := by decide +kernel
theorem dL_known_500 : decode cL_known 500 = .ok (.invokevirtual 29, 3) := by decide +kernel
theorem dL_known_503 : decode cL_known 503 = .ok (.iconst 1, 1) := by decide +kernel
theorem dL_known_504 : decode cL_known 504 = .ok (.if_icmp .ne 74, 3) := by decide +kernel
theorem dL_known_507 : decode cL_known 507 = .ok (.aload_n 0, 1) := by decide +kernel
theorem dL_known_508 : decode cL_known 508 = .ok (.iconst 0, 1) := by decide +kernel
theorem dL_known_509 : decode cL_known 509 = .ok (.iconst 4, 1) := by decide +kernel
theorem dL_known_510 : decode cL_known 510 = .ok (.invokevirtual 29, 3) := by decide +kernel
theorem dL_known_513 : decode cL_known 513 = .ok (.sipush 1680, 3) := by decide +kernel
theorem dL_known_516 : decode cL_known 516 = .ok (.if_icmp .ne 62, 3) := by decide +kernel
theorem dL_known_519 : decode cL_known 519 = .ok (.aload_n 0, 1) := by decide +kernel
theorem dL_known_520 : decode cL_known 520 = .ok (.iconst 1, 1) := by decide +kernel
theorem dL_known_521 : decode cL_known 521 = .ok (.iconst 5, 1) := by decide +kernel
theorem dL_known_522 : decode cL_known 522 = .ok (.invokevirtual 25, 3) := by decide +kernel
theorem dL_known_525 : decode cL_known 525 = .ok (.iconst 2, 1) := by decide +kernel
theorem dL_known_526 : decode cL_known 526 = .ok (.if_icmp .ne 52, 3) := by decide +kernel
theorem dL_known_529 : decode cL_known 529 = .ok (.aload_n 0, 1) := by decide +kernel
theorem dL_known_530 : decode cL_known 530 = .ok (.iconst 1, 1) := by decide +kernel
theorem dL_known_531 : decode cL_known 531 = .ok (.iconst 3, 1) := by decide +kernel
theorem dL_known_532 : decode cL_known 532 = .ok (.invokevirtual 25, 3) := by decide +kernel
theorem dL_known_535 : decode cL_known 535 = .ok (.iconst 1, 1) := by decide +kernel
theorem dL_known_536 : decode cL_known 536 = .ok (.if_icmp .ne 42, 3) := by decide +kernel
theorem dL_known_539 : decode cL_known 539 = .ok (.aload_n 0, 1) := by decide +kernel
theorem dL_known_540 : decode cL_known 540 = .ok (.iconst 2, 1) := by decide +kernel
theorem dL_known_541 : decode cL_known 541 = .ok (.iconst 4, 1) := by decide +kernel
theorem dL_known_542 : decode cL_known 542 = .ok (.invokevirtual 25, 3) := by decide +kernel
theorem dL_known_545 : decode cL_known 545 = .ok (.iconst 1, 1) := by decide +kernel
theorem dL_known_546 : decode cL_known 546 = .ok (.if_icmp .ne 32, 3) := by decide +kernel
theorem dL_known_549 : decode cL_known 549 = .ok (.aload_n 0, 1) := by decide +kernel
theorem dL_known_550 : decode cL_known 550 = .ok (.iconst 2, 1) := by decide +kernel
theorem dL_known_551 : decode cL_known 551 = .ok (.iconst 3, 1) := by decide +kernel
theorem dL_known_552 : decode cL_known 552 = .ok (.invokevirtual 25, 3) := by decide +kernel
theorem dL_known_555 : decode cL_known 555 = .ok (.ifCond .ne 23, 3) := by decide +kernel
theorem dL_known_558 : decode cL_known 558 = .ok (.aload_n 0, 1) := by decide +kernel
theorem dL_known_559 : decode cL_known 559 = .ok (.iconst 2, 1) := by decide +kernel
theorem dL_known_560 : decode cL_known 560 = .ok (.invokevirtual 90, 3) := by decide +kernel
theorem dL_known_563 : decode cL_known 563 = .ok (.sipush 1100, 3) := by decide +kernel
theorem dL_known_566 : decode cL_known 566 = .ok (.if_icmp .ne 12, 3) := by decide +kernel
theorem dL_known_569 : decode cL_known 569 = .ok (.aload_n 0, 1) := by decide +kernel
theorem dL_known_570 : decode cL_known 570 = .ok (.iconst 3, 1) := by decide +kernel
theorem dL_known_571 : decode cL_known 571 = .ok (.invokevirtual 13, 3) := by decide +kernel
theorem dL_known_574 : decode cL_known 574 = .ok (.iconst 1, 1) := by decide +kernel
theorem dL_known_575 : decode cL_known 575 = .ok (.if_icmp .eq 5, 3) := by decide +kernel
theorem dL_known_578 : decode cL_known 578 = .ok (.iconst 0, 1) := by decide +kernel
theorem dL_known_579 : decode cL_known 579 = .ok (.ireturn, 1) := by decide +kernel
theorem dL_known_580 : decode cL_known 580 = .ok (.aload_n 0, 1) := by decide +kernel
theorem dL_known_581 : decode cL_known 581 = .ok (.iconst 0, 1) := by decide +kernel
theorem dL_known_582 : decode cL_known 582 = .ok (.sipush 840, 3) := by decide +kernel
theorem dL_known_585 : decode cL_known 585 = .ok (.iconst 5, 1) := by decide +kernel
theorem dL_known_586 : decode cL_known 586 = .ok (.invokevirtual 48, 3) := by decide +kernel
theorem dL_known_589 : decode cL_known 589 = .ok (.bipush (-2), 2) := by decide +kernel
theorem dL_known_591 : decode cL_known 591 = .ok (.if_icmp .ne 232, 3) := by decide +kernel
theorem dL_known_594 : decode cL_known 594 = .ok (.aload_n 0, 1) := by decide +kernel
theorem dL_known_595 : decode cL_known 595 = .ok (.iconst 0, 1) := by decide +kernel
theorem dL_known_596 : decode cL_known 596 = .ok (.iconst 1, 1) := by decide +kernel
theorem dL_known_597 : decode cL_known 597 = .ok (.sipush 840, 3) := by decide +kernel
theorem dL_known_600 : decode cL_known 600 = .ok (.invokevirtual 54, 3) := by decide +kernel
theorem dL_known_603 : decode cL_known 603 = .ok (.bipush (-4), 2) := by decide +kernel
