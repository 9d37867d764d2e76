theorem dLW_law_474 : decode cLW_law 474 = .ok (.iconst 1, 1) := by decide +kernel
theorem dLW_law_475 : decode cLW_law 475 = .ok (.iadd, 1) := by decide +kernel
theorem dLW_law_476 : decode cLW_law 476 = .ok (.iaload, 1) := by decide +kernel
theorem dLW_law_477 : decode cLW_law 477 = .ok (.invokevirtual 74, 3) := by decide +kernel
theorem dLW_law_480 : decode cLW_law 480 = .ok (.pop, 1) := by decide +kernel
theorem dLW_law_481 : decode cLW_law 481 = .ok (.goto 134, 3) := by decide +kernel
theorem dLW_law_484 : decode cLW_law 484 = .ok (.aload_n 1, 1) := by decide +kernel
theorem dLW_law_485 : decode cLW_law 485 = .ok (.aload_n 0, 1) := by decide +kernel
theorem dLW_law_486 : decode cLW_law 486 = .ok (.iload_n 3, 1) := by decide +kernel
theorem dLW_law_487 : decode cLW_law 487 = .ok (.iconst 1, 1) := by decide +kernel
theorem dLW_law_488 : decode cLW_law 488 = .ok (.iadd, 1) := by decide +kernel
theorem dLW_law_489 : decode cLW_law 489 = .ok (.iaload, 1) := by decide +kernel
theorem dLW_law_490 : decode cLW_law 490 = .ok (.aload_n 0, 1) := by decide +kernel
theorem dLW_law_491 : decode cLW_law 491 = .ok (.iload_n 3, 1) := by decide +kernel
theorem dLW_law_492 : decode cLW_law 492 = .ok (.iconst 2, 1) := by decide +kernel
theorem dLW_law_493 : decode cLW_law 493 = .ok (.iadd, 1) := by decide +kernel
theorem dLW_law_494 : decode cLW_law 494 = .ok (.iaload, 1) := by decide +kernel
theorem dLW_law_495 : decode cLW_law 495 = .ok (.invokevirtual 75, 3) := by decide +kernel
theorem dLW_law_498 : decode cLW_law 498 = .ok (.pop, 1) := by decide +kernel
theorem dLW_law_499 : decode cLW_law 499 = .ok (.aload_n 2, 1) := by decide +kernel
theorem dLW_law_500 : decode cLW_law 500 = .ok (.aload_n 0, 1) := by decide +kernel
theorem dLW_law_501 : decode cLW_law 501 = .ok (.iload_n 3, 1) := by decide +kernel
theorem dLW_law_502 : decode cLW_law 502 = .ok (.iconst 1, 1) := by decide +kernel
theorem dLW_law_503 : decode cLW_law 503 = .ok (.iadd, 1) := by decide +kernel
theorem dLW_law_504 : decode cLW_law 504 = .ok (.iaload, 1) := by decide +kernel
theorem dLW_law_505 : decode cLW_law 505 = .ok (.aload_n 0, 1) := by decide +kernel
theorem dLW_law_506 : decode cLW_law 506 = .ok (.iload_n 3, 1) := by decide +kernel
theorem dLW_law_507 : decode cLW_law 507 = .ok (.iconst 2, 1) := by decide +kernel
theorem dLW_law_508 : decode cLW_law 508 = .ok (.iadd, 1) := by decide +kernel
theorem dLW_law_509 : decode cLW_law 509 = .ok (.iaload, 1) := by decide +kernel
theorem dLW_law_510 : decode cLW_law 510 = .ok (.invokevirtual 78, 3) := by decide +kernel
theorem dLW_law_513 : decode cLW_law 513 = .ok (.pop, 1) := by decide +kernel
theorem dLW_law_514 : decode cLW_law 514 = .ok (.goto 101, 3) := by decide +kernel
theorem dLW_law_517 : decode cLW_law 517 = .ok (.aload_n 1, 1) := by decide +kernel
theorem dLW_law_518 : decode cLW_law 518 = .ok (.aload_n 0, 1) := by decide +kernel
theorem dLW_law_519 : decode cLW_law 519 = .ok (.iload_n 3, 1) := by decide +kernel
theorem dLW_law_520 : decode cLW_law 520 = .ok (.iconst 1, 1) := by decide +kernel
theorem dLW_law_521 : decode cLW_law 521 = .ok (.iadd, 1) := by decide +kernel
theorem dLW_law_522 : decode cLW_law 522 = .ok (.iaload, 1) := by decide +kernel
theorem dLW_law_523 : decode cLW_law 523 = .ok (.ifCond .eq 7, 3) := by decide +kernel
theorem dLW_law_526 : decode cLW_law 526 = .ok (.iconst 1, 1) := by decide +kernel
theorem dLW_law_527 : decode cLW_law 527 = .ok (.goto 4, 3) := by decide +kernel
theorem dLW_law_530 : decode cLW_law 530 = .ok (.iconst 0, 1) := by decide +kernel
theorem dLW_law_531 : decode cLW_law 531 = .ok (.invokevirtual 79, 3) := by decide +kernel
theorem dLW_law_534 : decode cLW_law 534 = .ok (.pop, 1) := by decide +kernel
theorem dLW_law_535 : decode cLW_law 535 = .ok (.aload_n 2, 1) := by decide +kernel
theorem dLW_law_536 : decode cLW_law 536 = .ok (.aload_n 0, 1) := by decide +kernel
theorem dLW_law_537 : decode cLW_law 537 = .ok (.iload_n 3, 1) := by decide +kernel
theorem dLW_law_538 : decode cLW_law 538 = .ok (.iconst 1, 1) := by decide +kernel
theorem dLW_law_539 : decode cLW_law 539 = .ok (.iadd, 1) := by decide +kernel
theorem dLW_law_540 : decode cLW_law 540 = .ok (.iaload, 1) := by decide +kernel
theorem dLW_law_541 : decode cLW_law 541 = .ok (.ifCond .eq 7, 3) := by decide +kernel
theorem dLW_law_544 : decode cLW_law 544 = .ok (.iconst 1, 1) := by decide +kernel
theorem dLW_law_545 : decode cLW_law 545 = .ok (.goto 4, 3) := by decide +kernel
theorem dLW_law_548 : decode cLW_law 548 = .ok (.iconst 0, 1) := by decide +kernel
theorem dLW_law_549 : decode cLW_law 549 = .ok (.invokevirtual 83, 3) := by decide +kernel
theorem dLW_law_552 : decode cLW_law 552 = .ok (.pop, 1) := by decide +kernel
theorem dLW_law_553 : decode cLW_law 553 = .ok (.goto 62, 3) := by decide +kernel
theorem dLW_law_556 : decode cLW_law 556 = .ok (.aload_n 1, 1) := by decide +kernel
theorem dLW_law_557 : decode cLW_law 557 = .ok (.aload_n 0, 1) := by decide +kernel
theorem dLW_law_558 : decode cLW_law 558 = .ok (.iload_n 3, 1) := by decide +kernel
theorem dLW_law_559 : decode cLW_law 559 = .ok (.iconst 1, 1) := by decide +kernel
theorem dLW_law_560 : decode cLW_law 560 = .ok (.iadd, 1) := by decide +kernel
theorem dLW_law_561 : decode cLW_law 561 = .ok (.iaload, 1) := by decide +kernel
theorem dLW_law_562 : decode cLW_law 562 = .ok (.aload_n 0, 1) := by decide +kernel
theorem dLW_law_563 : decode cLW_law 563 = .ok (.iload_n 3, 1) := by decide +kernel
theorem dLW_law_564 : decode cLW_law 564 = .ok (.iconst 2, 1) := by decide +kernel
theorem dLW_law_565 : decode cLW_law 565 = .ok (.iadd, 1) := by decide +kernel
theorem dLW_law_566 : decode cLW_law 566 = .ok (.iaload, 1) := by decide +kernel
theorem dLW_law_567 : decode cLW_law 567 = .ok (.aload_n 0, 1) := by decide +kernel
theorem dLW_law_568 : decode cLW_law 568 = .ok (.iload_n 3, 1) := by decide +kernel
theorem dLW_law_569 : decode cLW_law 569 = .ok (.iconst 3, 1) := by decide +kernel
theorem dLW_law_570 : decode cLW_law 570 = .ok (.iadd, 1) := by decide +kernel
theorem dLW_law_571 : decode cLW_law 571 = .ok (.iaload, 1) := by decide +kernel
theorem dLW_law_572 : decode cLW_law 572 = .ok (.ifCond .eq 7, 3) := by decide +kernel
theorem dLW_law_575 : decode cLW_law 575 = .ok (.iconst 1, 1) := by decide +kernel
theorem dLW_law_576 : decode cLW_law 576 = .ok (.goto 4, 3) := by decide +kernel
theorem dLW_law_579 : decode cLW_law 579 = .ok (.iconst 0, 1) := by decide +kernel
theorem dLW_law_580 : decode cLW_law 580 = .ok (.invokevirtual 84, 3) := by decide +kernel
theorem dLW_law_583 : decode cLW_law 583 = .ok (.aload_n 2, 1) := by decide +kernel
theorem dLW_law_584 : decode cLW_law 584 = .ok (.aload_n 0, 1) := by decide +kernel
theorem dLW_law_585 : decode cLW_law 585 = .ok (.iload_n 3, 1) := by decide +kernel
theorem dLW_law_586 : decode cLW_law 586 = .ok (.iconst 1, 1) := by decide +kernel
theorem dLW_law_587 : decode cLW_law 587 = .ok (.iadd, 1) := by decide +kernel
theorem dLW_law_588 : decode cLW_law 588 = .ok (.iaload, 1) := by decide +kernel
theorem dLW_law_589 : decode cLW_law 589 = .ok (.aload_n 0, 1) := by decide +kernel
theorem dLW_law_590 : decode cLW_law 590 = .ok (.iload_n 3, 1) := by decide +kernel
theorem dLW_law_591 : decode cLW_law 591 = .ok (.iconst 2, 1) := by decide +kernel
theorem dLW_law_592 : decode cLW_law 592 = .ok (.iadd, 1) := by decide +kernel
theorem dLW_law_593 : decode cLW_law 593 = .ok (.iaload, 1) := by decide +kernel
