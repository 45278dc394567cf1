theorem dL_texts_370 : decode cL_texts 370 = .ok (.lconst 0, 1) := by decide +kernel
theorem dL_texts_371 : decode cL_texts 371 = .ok (.iconst 0, 1) := by decide +kernel
theorem dL_texts_372 : decode cL_texts 372 = .ok (.iconst 1, 1) := by decide +kernel
theorem dL_texts_373 : decode cL_texts 373 = .ok (.invokestatic 118, 3) := by decide +kernel
theorem dL_texts_376 : decode cL_texts 376 = .ok (.ifCond .eq 43, 3) := by decide +kernel
theorem dL_texts_379 : decode cL_texts 379 = .ok (.aload_n 0, 1) := by decide +kernel
theorem dL_texts_380 : decode cL_texts 380 = .ok (.ldc2_w 170, 3) := by decide +kernel
theorem dL_texts_383 : decode cL_texts 383 = .ok (.lconst 0, 1) := by decide +kernel
theorem dL_texts_384 : decode cL_texts 384 = .ok (.iconst 0, 1) := by decide +kernel
theorem dL_texts_385 : decode cL_texts 385 = .ok (.iconst 1, 1) := by decide +kernel
theorem dL_texts_386 : decode cL_texts 386 = .ok (.invokestatic 118, 3) := by decide +kernel
theorem dL_texts_389 : decode cL_texts 389 = .ok (.ifCond .eq 30, 3) := by decide +kernel
theorem dL_texts_392 : decode cL_texts 392 = .ok (.aload_n 0, 1) := by decide +kernel
theorem dL_texts_393 : decode cL_texts 393 = .ok (.ldc2_w 172, 3) := by decide +kernel
theorem dL_texts_396 : decode cL_texts 396 = .ok (.lconst 0, 1) := by decide +kernel
theorem dL_texts_397 : decode cL_texts 397 = .ok (.bipush 6, 2) := by decide +kernel
theorem dL_texts_399 : decode cL_texts 399 = .ok (.iconst 1, 1) := by decide +kernel
theorem dL_texts_400 : decode cL_texts 400 = .ok (.invokestatic 118, 3) := by decide +kernel
theorem dL_texts_403 : decode cL_texts 403 = .ok (.ifCond .eq 16, 3) := by decide +kernel
theorem dL_texts_406 : decode cL_texts 406 = .ok (.aload_n 0, 1) := by decide +kernel
theorem dL_texts_407 : decode cL_texts 407 = .ok (.ldc2_w 174, 3) := by decide +kernel
theorem dL_texts_410 : decode cL_texts 410 = .ok (.lconst 0, 1) := by decide +kernel
theorem dL_texts_411 : decode cL_texts 411 = .ok (.iconst 0, 1) := by decide +kernel
theorem dL_texts_412 : decode cL_texts 412 = .ok (.iconst 1, 1) := by decide +kernel
theorem dL_texts_413 : decode cL_texts 413 = .ok (.invokestatic 118, 3) := by decide +kernel
theorem dL_texts_416 : decode cL_texts 416 = .ok (.ifCond .ne 5, 3) := by decide +kernel
theorem dL_texts_419 : decode cL_texts 419 = .ok (.iconst 0, 1) := by decide +kernel
theorem dL_texts_420 : decode cL_texts 420 = .ok (.ireturn, 1) := by decide +kernel
theorem dL_texts_421 : decode cL_texts 421 = .ok (.aload_n 0, 1) := by decide +kernel
theorem dL_texts_422 : decode cL_texts 422 = .ok (.invokevirtual 113, 3) := by decide +kernel
theorem dL_texts_425 : decode cL_texts 425 = .ok (.bipush (-2), 2) := by decide +kernel
theorem dL_texts_427 : decode cL_texts 427 = .ok (.if_icmp .ne 139, 3) := by decide +kernel
theorem dL_texts_430 : decode cL_texts 430 = .ok (.aload_n 0, 1) := by decide +kernel
theorem dL_texts_431 : decode cL_texts 431 = .ok (.ldc2_w 176, 3) := by decide +kernel
theorem dL_texts_434 : decode cL_texts 434 = .ok (.ldc2_w 178, 3) := by decide +kernel
theorem dL_texts_437 : decode cL_texts 437 = .ok (.bipush (-4), 2) := by decide +kernel
theorem dL_texts_439 : decode cL_texts 439 = .ok (.bipush (-4), 2) := by decide +kernel
theorem dL_texts_441 : decode cL_texts 441 = .ok (.invokestatic 118, 3) := by decide +kernel
theorem dL_texts_444 : decode cL_texts 444 = .ok (.ifCond .eq 122, 3) := by decide +kernel
theorem dL_texts_447 : decode cL_texts 447 = .ok (.aload_n 0, 1) := by decide +kernel
theorem dL_texts_448 : decode cL_texts 448 = .ok (.invokevirtual 113, 3) := by decide +kernel
theorem dL_texts_451 : decode cL_texts 451 = .ok (.iconst 2, 1) := by decide +kernel
theorem dL_texts_452 : decode cL_texts 452 = .ok (.if_icmp .ne 114, 3) := by decide +kernel
theorem dL_texts_455 : decode cL_texts 455 = .ok (.aload_n 0, 1) := by decide +kernel
theorem dL_texts_456 : decode cL_texts 456 = .ok (.iconst 1, 1) := by decide +kernel
theorem dL_texts_457 : decode cL_texts 457 = .ok (.invokevirtual 13, 3) := by decide +kernel
theorem dL_texts_460 : decode cL_texts 460 = .ok (.iconst 3, 1) := by decide +kernel
theorem dL_texts_461 : decode cL_texts 461 = .ok (.if_icmp .ne 105, 3) := by decide +kernel
theorem dL_texts_464 : decode cL_texts 464 = .ok (.aload_n 0, 1) := by decide +kernel
theorem dL_texts_465 : decode cL_texts 465 = .ok (.iconst 5, 1) := by decide +kernel
theorem dL_texts_466 : decode cL_texts 466 = .ok (.invokevirtual 13, 3) := by decide +kernel
theorem dL_texts_469 : decode cL_texts 469 = .ok (.iconst 2, 1) := by decide +kernel
theorem dL_texts_470 : decode cL_texts 470 = .ok (.if_icmp .ne 96, 3) := by decide +kernel
theorem dL_texts_473 : decode cL_texts 473 = .ok (.aload_n 0, 1) := by decide +kernel
theorem dL_texts_474 : decode cL_texts 474 = .ok (.iconst 4, 1) := by decide +kernel
theorem dL_texts_475 : decode cL_texts 475 = .ok (.invokevirtual 13, 3) := by decide +kernel
theorem dL_texts_478 : decode cL_texts 478 = .ok (.iconst 1, 1) := by decide +kernel
theorem dL_texts_479 : decode cL_texts 479 = .ok (.if_icmp .ne 87, 3) := by decide +kernel
theorem dL_texts_482 : decode cL_texts 482 = .ok (.aload_n 0, 1) := by decide +kernel
theorem dL_texts_483 : decode cL_texts 483 = .ok (.iconst 0, 1) := by decide +kernel
theorem dL_texts_484 : decode cL_texts 484 = .ok (.iconst 0, 1) := by decide +kernel
theorem dL_texts_485 : decode cL_texts 485 = .ok (.invokevirtual 36, 3) := by decide +kernel
theorem dL_texts_488 : decode cL_texts 488 = .ok (.iconst 1, 1) := by decide +kernel
theorem dL_texts_489 : decode cL_texts 489 = .ok (.if_icmp .ne 77, 3) := by decide +kernel
theorem dL_texts_492 : decode cL_texts 492 = .ok (.aload_n 0, 1) := by decide +kernel
theorem dL_texts_493 : decode cL_texts 493 = .ok (.iconst 0, 1) := by decide +kernel
theorem dL_texts_494 : decode cL_texts 494 = .ok (.iconst 1, 1) := by decide +kernel
theorem dL_texts_495 : decode cL_texts 495 = .ok (.invokevirtual 36, 3) := by decide +kernel
theorem dL_texts_498 : decode cL_texts 498 = .ok (.iconst 2, 1) := by decide +kernel
theorem dL_texts_499 : decode cL_texts 499 = .ok (.if_icmp .ne 67, 3) := by decide +kernel
theorem dL_texts_502 : decode cL_texts 502 = .ok (.aload_n 0, 1) := by decide +kernel
theorem dL_texts_503 : decode cL_texts 503 = .ok (.iconst 0, 1) := by decide +kernel
theorem dL_texts_504 : decode cL_texts 504 = .ok (.iconst 2, 1) := by decide +kernel
theorem dL_texts_505 : decode cL_texts 505 = .ok (.invokevirtual 36, 3) := by decide +kernel
theorem dL_texts_508 : decode cL_texts 508 = .ok (.iconst 2, 1) := by decide +kernel
theorem dL_texts_509 : decode cL_texts 509 = .ok (.if_icmp .ne 57, 3) := by decide +kernel
theorem dL_texts_512 : decode cL_texts 512 = .ok (.aload_n 0, 1) := by decide +kernel
theorem dL_texts_513 : decode cL_texts 513 = .ok (.iconst 1, 1) := by decide +kernel
theorem dL_texts_514 : decode cL_texts 514 = .ok (.iconst 1, 1) := by decide +kernel
theorem dL_texts_515 : decode cL_texts 515 = .ok (.invokevirtual 29, 3) := by decide +kernel
theorem dL_texts_518 : decode cL_texts 518 = .ok (.iconst 2, 1) := by decide +kernel
theorem dL_texts_519 : decode cL_texts 519 = .ok (.if_icmp .ne 47, 3) := by decide +kernel
theorem dL_texts_522 : decode cL_texts 522 = .ok (.aload_n 0, 1) := by decide +kernel
theorem dL_texts_523 : decode cL_texts 523 = .ok (.iconst 2, 1) := by decide +kernel
theorem dL_texts_524 : decode cL_texts 524 = .ok (.iconst 2, 1) := by decide +kernel
theorem dL_texts_525 : decode cL_texts 525 = .ok (.invokevirtual 25, 3) := by decide +kernel
theorem dL_texts_528 : decode cL_texts 528 = .ok (.bipush 13, 2) := by decide +kernel
theorem dL_texts_530 : decode cL_texts 530 = .ok (.if_icmp .ne 36, 3) := by decide +kernel
theorem dL_texts_533 : decode cL_texts 533 = .ok (.aload_n 0, 1) := by decide +kernel
theorem dL_texts_534 : decode cL_texts 534 = .ok (.invokevirtual 180, 3) := by decide +kernel
theorem dL_texts_537 : decode cL_texts 537 = .ok (.iconst 3, 1) := by decide +kernel
theorem dL_texts_538 : decode cL_texts 538 = .ok (.if_icmp .ne 28, 3) := by decide +kernel
