theorem d_L_law_495 : decode code 495 = .ok (.iadd, 1) := by decide +kernel
theorem d_L_law_496 : decode code 496 = .ok (.iaload, 1) := by decide +kernel
theorem d_L_law_497 : decode code 497 = .ok (.i2l, 1) := by decide +kernel
theorem d_L_law_498 : decode code 498 = .ok (.bipush 32, 2) := by decide +kernel
theorem d_L_law_500 : decode code 500 = .ok (.lshl, 1) := by decide +kernel
theorem d_L_law_501 : decode code 501 = .ok (.aload_n 0, 1) := by decide +kernel
theorem d_L_law_502 : decode code 502 = .ok (.iload_n 3, 1) := by decide +kernel
theorem d_L_law_503 : decode code 503 = .ok (.iconst 2, 1) := by decide +kernel
theorem d_L_law_504 : decode code 504 = .ok (.iadd, 1) := by decide +kernel
theorem d_L_law_505 : decode code 505 = .ok (.iaload, 1) := by decide +kernel
theorem d_L_law_506 : decode code 506 = .ok (.i2l, 1) := by decide +kernel
theorem d_L_law_507 : decode code 507 = .ok (.ldc2_w 23, 3) := by decide +kernel
theorem d_L_law_510 : decode code 510 = .ok (.land, 1) := by decide +kernel
theorem d_L_law_511 : decode code 511 = .ok (.lor, 1) := by decide +kernel
theorem d_L_law_512 : decode code 512 = .ok (.aload_n 0, 1) := by decide +kernel
theorem d_L_law_513 : decode code 513 = .ok (.iload_n 3, 1) := by decide +kernel
theorem d_L_law_514 : decode code 514 = .ok (.iconst 3, 1) := by decide +kernel
theorem d_L_law_515 : decode code 515 = .ok (.iadd, 1) := by decide +kernel
theorem d_L_law_516 : decode code 516 = .ok (.iaload, 1) := by decide +kernel
theorem d_L_law_517 : decode code 517 = .ok (.invokevirtual 47, 3) := by decide +kernel
theorem d_L_law_520 : decode code 520 = .ok (.lcmp, 1) := by decide +kernel
theorem d_L_law_521 : decode code 521 = .ok (.ifCond .eq 384, 3) := by decide +kernel
theorem d_L_law_524 : decode code 524 = .ok (.iconst 0, 1) := by decide +kernel
theorem d_L_law_525 : decode code 525 = .ok (.ireturn, 1) := by decide +kernel
theorem d_L_law_526 : decode code 526 = .ok (.aload_n 1, 1) := by decide +kernel
theorem d_L_law_527 : decode code 527 = .ok (.aload_n 0, 1) := by decide +kernel
theorem d_L_law_528 : decode code 528 = .ok (.iload_n 3, 1) := by decide +kernel
theorem d_L_law_529 : decode code 529 = .ok (.iconst 1, 1) := by decide +kernel
theorem d_L_law_530 : decode code 530 = .ok (.iadd, 1) := by decide +kernel
theorem d_L_law_531 : decode code 531 = .ok (.iaload, 1) := by decide +kernel
theorem d_L_law_532 : decode code 532 = .ok (.aload_n 0, 1) := by decide +kernel
theorem d_L_law_533 : decode code 533 = .ok (.iload_n 3, 1) := by decide +kernel
theorem d_L_law_534 : decode code 534 = .ok (.iconst 2, 1) := by decide +kernel
theorem d_L_law_535 : decode code 535 = .ok (.iadd, 1) := by decide +kernel
theorem d_L_law_536 : decode code 536 = .ok (.iaload, 1) := by decide +kernel
theorem d_L_law_537 : decode code 537 = .ok (.invokevirtual 48, 3) := by decide +kernel
theorem d_L_law_540 : decode code 540 = .ok (.aload_n 2, 1) := by decide +kernel
theorem d_L_law_541 : decode code 541 = .ok (.aload_n 0, 1) := by decide +kernel
theorem d_L_law_542 : decode code 542 = .ok (.iload_n 3, 1) := by decide +kernel
theorem d_L_law_543 : decode code 543 = .ok (.iconst 1, 1) := by decide +kernel
theorem d_L_law_544 : decode code 544 = .ok (.iadd, 1) := by decide +kernel
theorem d_L_law_545 : decode code 545 = .ok (.iaload, 1) := by decide +kernel
theorem d_L_law_546 : decode code 546 = .ok (.aload_n 0, 1) := by decide +kernel
theorem d_L_law_547 : decode code 547 = .ok (.iload_n 3, 1) := by decide +kernel
theorem d_L_law_548 : decode code 548 = .ok (.iconst 2, 1) := by decide +kernel
theorem d_L_law_549 : decode code 549 = .ok (.iadd, 1) := by decide +kernel
theorem d_L_law_550 : decode code 550 = .ok (.iaload, 1) := by decide +kernel
theorem d_L_law_551 : decode code 551 = .ok (.invokevirtual 52, 3) := by decide +kernel
theorem d_L_law_554 : decode code 554 = .ok (.if_icmp .eq 351, 3) := by decide +kernel
theorem d_L_law_557 : decode code 557 = .ok (.iconst 0, 1) := by decide +kernel
theorem d_L_law_558 : decode code 558 = .ok (.ireturn, 1) := by decide +kernel
theorem d_L_law_559 : decode code 559 = .ok (.aload_n 1, 1) := by decide +kernel
theorem d_L_law_560 : decode code 560 = .ok (.aload_n 0, 1) := by decide +kernel
theorem d_L_law_561 : decode code 561 = .ok (.iload_n 3, 1) := by decide +kernel
theorem d_L_law_562 : decode code 562 = .ok (.iconst 1, 1) := by decide +kernel
theorem d_L_law_563 : decode code 563 = .ok (.iadd, 1) := by decide +kernel
theorem d_L_law_564 : decode code 564 = .ok (.iaload, 1) := by decide +kernel
theorem d_L_law_565 : decode code 565 = .ok (.aload_n 0, 1) := by decide +kernel
theorem d_L_law_566 : decode code 566 = .ok (.iload_n 3, 1) := by decide +kernel
theorem d_L_law_567 : decode code 567 = .ok (.iconst 2, 1) := by decide +kernel
theorem d_L_law_568 : decode code 568 = .ok (.iadd, 1) := by decide +kernel
theorem d_L_law_569 : decode code 569 = .ok (.iaload, 1) := by decide +kernel
theorem d_L_law_570 : decode code 570 = .ok (.i2l, 1) := by decide +kernel
theorem d_L_law_571 : decode code 571 = .ok (.bipush 32, 2) := by decide +kernel
theorem d_L_law_573 : decode code 573 = .ok (.lshl, 1) := by decide +kernel
theorem d_L_law_574 : decode code 574 = .ok (.aload_n 0, 1) := by decide +kernel
theorem d_L_law_575 : decode code 575 = .ok (.iload_n 3, 1) := by decide +kernel
theorem d_L_law_576 : decode code 576 = .ok (.iconst 3, 1) := by decide +kernel
theorem d_L_law_577 : decode code 577 = .ok (.iadd, 1) := by decide +kernel
theorem d_L_law_578 : decode code 578 = .ok (.iaload, 1) := by decide +kernel
theorem d_L_law_579 : decode code 579 = .ok (.i2l, 1) := by decide +kernel
theorem d_L_law_580 : decode code 580 = .ok (.ldc2_w 23, 3) := by decide +kernel
theorem d_L_law_583 : decode code 583 = .ok (.land, 1) := by decide +kernel
theorem d_L_law_584 : decode code 584 = .ok (.lor, 1) := by decide +kernel
theorem d_L_law_585 : decode code 585 = .ok (.invokevirtual 53, 3) := by decide +kernel
theorem d_L_law_588 : decode code 588 = .ok (.aload_n 2, 1) := by decide +kernel
theorem d_L_law_589 : decode code 589 = .ok (.aload_n 0, 1) := by decide +kernel
theorem d_L_law_590 : decode code 590 = .ok (.iload_n 3, 1) := by decide +kernel
theorem d_L_law_591 : decode code 591 = .ok (.iconst 1, 1) := by decide +kernel
theorem d_L_law_592 : decode code 592 = .ok (.iadd, 1) := by decide +kernel
