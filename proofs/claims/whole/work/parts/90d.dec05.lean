theorem dl_526 : decode code 526 = .ok (.goto 376, 3) := by decide +kernel
theorem dl_529 : decode code 529 = .ok (.aload_n 1, 1) := by decide +kernel
theorem dl_530 : decode code 530 = .ok (.aload_n 0, 1) := by decide +kernel
theorem dl_531 : decode code 531 = .ok (.iload 4, 2) := by decide +kernel
theorem dl_533 : decode code 533 = .ok (.iconst 1, 1) := by decide +kernel
theorem dl_534 : decode code 534 = .ok (.iadd, 1) := by decide +kernel
theorem dl_535 : decode code 535 = .ok (.iaload, 1) := by decide +kernel
theorem dl_536 : decode code 536 = .ok (.aload_n 0, 1) := by decide +kernel
theorem dl_537 : decode code 537 = .ok (.iload 4, 2) := by decide +kernel
theorem dl_539 : decode code 539 = .ok (.iconst 2, 1) := by decide +kernel
theorem dl_540 : decode code 540 = .ok (.iadd, 1) := by decide +kernel
theorem dl_541 : decode code 541 = .ok (.iaload, 1) := by decide +kernel
theorem dl_542 : decode code 542 = .ok (.aload_n 0, 1) := by decide +kernel
theorem dl_543 : decode code 543 = .ok (.iload 4, 2) := by decide +kernel
theorem dl_545 : decode code 545 = .ok (.iconst 3, 1) := by decide +kernel
theorem dl_546 : decode code 546 = .ok (.iadd, 1) := by decide +kernel
theorem dl_547 : decode code 547 = .ok (.iaload, 1) := by decide +kernel
theorem dl_548 : decode code 548 = .ok (.aload_n 3, 1) := by decide +kernel
theorem dl_549 : decode code 549 = .ok (.invokestatic 87, 3) := by decide +kernel
theorem dl_552 : decode code 552 = .ok (.istore 5, 2) := by decide +kernel
theorem dl_554 : decode code 554 = .ok (.aload_n 2, 1) := by decide +kernel
theorem dl_555 : decode code 555 = .ok (.aload_n 0, 1) := by decide +kernel
theorem dl_556 : decode code 556 = .ok (.iload 4, 2) := by decide +kernel
theorem dl_558 : decode code 558 = .ok (.iconst 1, 1) := by decide +kernel
theorem dl_559 : decode code 559 = .ok (.iadd, 1) := by decide +kernel
theorem dl_560 : decode code 560 = .ok (.iaload, 1) := by decide +kernel
theorem dl_561 : decode code 561 = .ok (.aload_n 0, 1) := by decide +kernel
theorem dl_562 : decode code 562 = .ok (.iload 4, 2) := by decide +kernel
theorem dl_564 : decode code 564 = .ok (.iconst 2, 1) := by decide +kernel
theorem dl_565 : decode code 565 = .ok (.iadd, 1) := by decide +kernel
theorem dl_566 : decode code 566 = .ok (.iaload, 1) := by decide +kernel
theorem dl_567 : decode code 567 = .ok (.aload_n 0, 1) := by decide +kernel
theorem dl_568 : decode code 568 = .ok (.iload 4, 2) := by decide +kernel
theorem dl_570 : decode code 570 = .ok (.iconst 3, 1) := by decide +kernel
theorem dl_571 : decode code 571 = .ok (.iadd, 1) := by decide +kernel
theorem dl_572 : decode code 572 = .ok (.iaload, 1) := by decide +kernel
theorem dl_573 : decode code 573 = .ok (.invokevirtual 89, 3) := by decide +kernel
theorem dl_576 : decode code 576 = .ok (.istore 6, 2) := by decide +kernel
theorem dl_578 : decode code 578 = .ok (.aload_n 2, 1) := by decide +kernel
theorem dl_579 : decode code 579 = .ok (.invokevirtual 62, 3) := by decide +kernel
theorem dl_582 : decode code 582 = .ok (.iload 5, 2) := by decide +kernel
theorem dl_584 : decode code 584 = .ok (.if_icmp .eq 5, 3) := by decide +kernel
theorem dl_587 : decode code 587 = .ok (.iconst 0, 1) := by decide +kernel
theorem dl_588 : decode code 588 = .ok (.ireturn, 1) := by decide +kernel
theorem dl_589 : decode code 589 = .ok (.iload 5, 2) := by decide +kernel
theorem dl_591 : decode code 591 = .ok (.ifCond .ne 15, 3) := by decide +kernel
theorem dl_594 : decode code 594 = .ok (.aload_n 3, 1) := by decide +kernel
theorem dl_595 : decode code 595 = .ok (.iconst 0, 1) := by decide +kernel
theorem dl_596 : decode code 596 = .ok (.laload, 1) := by decide +kernel
theorem dl_597 : decode code 597 = .ok (.iload 6, 2) := by decide +kernel
theorem dl_599 : decode code 599 = .ok (.i2l, 1) := by decide +kernel
theorem dl_600 : decode code 600 = .ok (.lcmp, 1) := by decide +kernel
theorem dl_601 : decode code 601 = .ok (.ifCond .eq 5, 3) := by decide +kernel
theorem dl_604 : decode code 604 = .ok (.iconst 0, 1) := by decide +kernel
theorem dl_605 : decode code 605 = .ok (.ireturn, 1) := by decide +kernel
theorem dl_606 : decode code 606 = .ok (.goto 296, 3) := by decide +kernel
theorem dl_609 : decode code 609 = .ok (.aload_n 1, 1) := by decide +kernel
theorem dl_610 : decode code 610 = .ok (.aload_n 0, 1) := by decide +kernel
theorem dl_611 : decode code 611 = .ok (.iload 4, 2) := by decide +kernel
theorem dl_613 : decode code 613 = .ok (.iconst 1, 1) := by decide +kernel
