theorem dX2_init_524 : decode cX2_init 524 = .ok (.iastore, 1) := by decide +kernel
theorem dX2_init_525 : decode cX2_init 525 = .ok (.dup, 1) := by decide +kernel
theorem dX2_init_526 : decode cX2_init 526 = .ok (.iconst 2, 1) := by decide +kernel
theorem dX2_init_527 : decode cX2_init 527 = .ok (.iconst 3, 1) := by decide +kernel
theorem dX2_init_528 : decode cX2_init 528 = .ok (.iastore, 1) := by decide +kernel
theorem dX2_init_529 : decode cX2_init 529 = .ok (.dup, 1) := by decide +kernel
theorem dX2_init_530 : decode cX2_init 530 = .ok (.iconst 3, 1) := by decide +kernel
theorem dX2_init_531 : decode cX2_init 531 = .ok (.bipush 7, 2) := by decide +kernel
theorem dX2_init_533 : decode cX2_init 533 = .ok (.iastore, 1) := by decide +kernel
theorem dX2_init_534 : decode cX2_init 534 = .ok (.putfield 87, 3) := by decide +kernel
theorem dX2_init_537 : decode cX2_init 537 = .ok (.aload_n 0, 1) := by decide +kernel
theorem dX2_init_538 : decode cX2_init 538 = .ok (.iconst 4, 1) := by decide +kernel
theorem dX2_init_539 : decode cX2_init 539 = .ok (.newarray .int, 2) := by decide +kernel
theorem dX2_init_541 : decode cX2_init 541 = .ok (.dup, 1) := by decide +kernel
theorem dX2_init_542 : decode cX2_init 542 = .ok (.iconst 0, 1) := by decide +kernel
theorem dX2_init_543 : decode cX2_init 543 = .ok (.iconst 0, 1) := by decide +kernel
theorem dX2_init_544 : decode cX2_init 544 = .ok (.iastore, 1) := by decide +kernel
theorem dX2_init_545 : decode cX2_init 545 = .ok (.dup, 1) := by decide +kernel
theorem dX2_init_546 : decode cX2_init 546 = .ok (.iconst 1, 1) := by decide +kernel
theorem dX2_init_547 : decode cX2_init 547 = .ok (.iconst 1, 1) := by decide +kernel
theorem dX2_init_548 : decode cX2_init 548 = .ok (.iastore, 1) := by decide +kernel
theorem dX2_init_549 : decode cX2_init 549 = .ok (.dup, 1) := by decide +kernel
theorem dX2_init_550 : decode cX2_init 550 = .ok (.iconst 2, 1) := by decide +kernel
theorem dX2_init_551 : decode cX2_init 551 = .ok (.iconst 5, 1) := by decide +kernel
theorem dX2_init_552 : decode cX2_init 552 = .ok (.iastore, 1) := by decide +kernel
theorem dX2_init_553 : decode cX2_init 553 = .ok (.dup, 1) := by decide +kernel
theorem dX2_init_554 : decode cX2_init 554 = .ok (.iconst 3, 1) := by decide +kernel
theorem dX2_init_555 : decode cX2_init 555 = .ok (.iconst 0, 1) := by decide +kernel
theorem dX2_init_556 : decode cX2_init 556 = .ok (.iastore, 1) := by decide +kernel
theorem dX2_init_557 : decode cX2_init 557 = .ok (.putfield 90, 3) := by decide +kernel
theorem dX2_init_560 : decode cX2_init 560 = .ok (.aload_n 0, 1) := by decide +kernel
theorem dX2_init_561 : decode cX2_init 561 = .ok (.sipush 2000, 3) := by decide +kernel
theorem dX2_init_564 : decode cX2_init 564 = .ok (.newarray .int, 2) := by decide +kernel
theorem dX2_init_566 : decode cX2_init 566 = .ok (.putfield 93, 3) := by decide +kernel
theorem dX2_init_569 : decode cX2_init 569 = .ok (.aload_n 0, 1) := by decide +kernel
theorem dX2_init_570 : decode cX2_init 570 = .ok (.bipush 16, 2) := by decide +kernel
theorem dX2_init_572 : decode cX2_init 572 = .ok (.newarray .int, 2) := by decide +kernel
theorem dX2_init_574 : decode cX2_init 574 = .ok (.putfield 96, 3) := by decide +kernel
theorem dX2_init_577 : decode cX2_init 577 = .ok (.aload_n 0, 1) := by decide +kernel
theorem dX2_init_578 : decode cX2_init 578 = .ok (.bipush 64, 2) := by decide +kernel
theorem dX2_init_580 : decode cX2_init 580 = .ok (.newarray .int, 2) := by decide +kernel
theorem dX2_init_582 : decode cX2_init 582 = .ok (.putfield 99, 3) := by decide +kernel
theorem dX2_init_585 : decode cX2_init 585 = .ok (.aload_n 0, 1) := by decide +kernel
theorem dX2_init_586 : decode cX2_init 586 = .ok (.iconst 4, 1) := by decide +kernel
theorem dX2_init_587 : decode cX2_init 587 = .ok (.newarray .int, 2) := by decide +kernel
theorem dX2_init_589 : decode cX2_init 589 = .ok (.putfield 102, 3) := by decide +kernel
theorem dX2_init_592 : decode cX2_init 592 = .ok (.aload_n 0, 1) := by decide +kernel
theorem dX2_init_593 : decode cX2_init 593 = .ok (.iconst 4, 1) := by decide +kernel
theorem dX2_init_594 : decode cX2_init 594 = .ok (.newarray .int, 2) := by decide +kernel
theorem dX2_init_596 : decode cX2_init 596 = .ok (.putfield 105, 3) := by decide +kernel
theorem dX2_init_599 : decode cX2_init 599 = .ok (.aload_n 0, 1) := by decide +kernel
theorem dX2_init_600 : decode cX2_init 600 = .ok (.bipush 16, 2) := by decide +kernel
theorem dX2_init_602 : decode cX2_init 602 = .ok (.newarray .int, 2) := by decide +kernel
theorem dX2_init_604 : decode cX2_init 604 = .ok (.putfield 108, 3) := by decide +kernel
theorem dX2_init_607 : decode cX2_init 607 = .ok (.aload_n 0, 1) := by decide +kernel
theorem dX2_init_608 : decode cX2_init 608 = .ok (.invokevirtual 111, 3) := by decide +kernel
theorem dX2_init_611 : decode cX2_init 611 = .ok (.return_, 1) := by decide +kernel
