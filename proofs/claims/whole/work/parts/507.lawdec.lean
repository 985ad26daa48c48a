theorem d_law_532 : decode b_law 532 = .ok (.lor, 1) := by decide +kernel
theorem d_law_533 : decode b_law 533 = .ok (.invokevirtual 56, 3) := by decide +kernel
theorem d_law_536 : decode b_law 536 = .ok (.if_icmp .eq 156, 3) := by decide +kernel
theorem d_law_539 : decode b_law 539 = .ok (.iconst 0, 1) := by decide +kernel
theorem d_law_540 : decode b_law 540 = .ok (.ireturn, 1) := by decide +kernel
theorem d_law_541 : decode b_law 541 = .ok (.aload_n 1, 1) := by decide +kernel
theorem d_law_542 : decode b_law 542 = .ok (.aload_n 0, 1) := by decide +kernel
theorem d_law_543 : decode b_law 543 = .ok (.iload_n 3, 1) := by decide +kernel
theorem d_law_544 : decode b_law 544 = .ok (.iconst 1, 1) := by decide +kernel
theorem d_law_545 : decode b_law 545 = .ok (.iadd, 1) := by decide +kernel
theorem d_law_546 : decode b_law 546 = .ok (.iaload, 1) := by decide +kernel
theorem d_law_547 : decode b_law 547 = .ok (.invokevirtual 57, 3) := by decide +kernel
theorem d_law_550 : decode b_law 550 = .ok (.aload_n 2, 1) := by decide +kernel
theorem d_law_551 : decode b_law 551 = .ok (.aload_n 0, 1) := by decide +kernel
theorem d_law_552 : decode b_law 552 = .ok (.iload_n 3, 1) := by decide +kernel
theorem d_law_553 : decode b_law 553 = .ok (.iconst 1, 1) := by decide +kernel
theorem d_law_554 : decode b_law 554 = .ok (.iadd, 1) := by decide +kernel
theorem d_law_555 : decode b_law 555 = .ok (.iaload, 1) := by decide +kernel
theorem d_law_556 : decode b_law 556 = .ok (.invokevirtual 60, 3) := by decide +kernel
theorem d_law_559 : decode b_law 559 = .ok (.if_icmp .eq 133, 3) := by decide +kernel
theorem d_law_562 : decode b_law 562 = .ok (.iconst 0, 1) := by decide +kernel
theorem d_law_563 : decode b_law 563 = .ok (.ireturn, 1) := by decide +kernel
theorem d_law_564 : decode b_law 564 = .ok (.aload_n 1, 1) := by decide +kernel
theorem d_law_565 : decode b_law 565 = .ok (.aload_n 0, 1) := by decide +kernel
theorem d_law_566 : decode b_law 566 = .ok (.iload_n 3, 1) := by decide +kernel
theorem d_law_567 : decode b_law 567 = .ok (.iconst 1, 1) := by decide +kernel
theorem d_law_568 : decode b_law 568 = .ok (.iadd, 1) := by decide +kernel
theorem d_law_569 : decode b_law 569 = .ok (.iaload, 1) := by decide +kernel
theorem d_law_570 : decode b_law 570 = .ok (.aload_n 0, 1) := by decide +kernel
theorem d_law_571 : decode b_law 571 = .ok (.iload_n 3, 1) := by decide +kernel
theorem d_law_572 : decode b_law 572 = .ok (.iconst 2, 1) := by decide +kernel
theorem d_law_573 : decode b_law 573 = .ok (.iadd, 1) := by decide +kernel
theorem d_law_574 : decode b_law 574 = .ok (.iaload, 1) := by decide +kernel
theorem d_law_575 : decode b_law 575 = .ok (.aload_n 0, 1) := by decide +kernel
theorem d_law_576 : decode b_law 576 = .ok (.iload_n 3, 1) := by decide +kernel
theorem d_law_577 : decode b_law 577 = .ok (.iconst 3, 1) := by decide +kernel
theorem d_law_578 : decode b_law 578 = .ok (.iadd, 1) := by decide +kernel
theorem d_law_579 : decode b_law 579 = .ok (.iaload, 1) := by decide +kernel
theorem d_law_580 : decode b_law 580 = .ok (.invokevirtual 61, 3) := by decide +kernel
theorem d_law_583 : decode b_law 583 = .ok (.aload_n 2, 1) := by decide +kernel
theorem d_law_584 : decode b_law 584 = .ok (.aload_n 0, 1) := by decide +kernel
theorem d_law_585 : decode b_law 585 = .ok (.iload_n 3, 1) := by decide +kernel
theorem d_law_586 : decode b_law 586 = .ok (.iconst 1, 1) := by decide +kernel
theorem d_law_587 : decode b_law 587 = .ok (.iadd, 1) := by decide +kernel
theorem d_law_588 : decode b_law 588 = .ok (.iaload, 1) := by decide +kernel
theorem d_law_589 : decode b_law 589 = .ok (.aload_n 0, 1) := by decide +kernel
theorem d_law_590 : decode b_law 590 = .ok (.iload_n 3, 1) := by decide +kernel
theorem d_law_591 : decode b_law 591 = .ok (.iconst 2, 1) := by decide +kernel
theorem d_law_592 : decode b_law 592 = .ok (.iadd, 1) := by decide +kernel
theorem d_law_593 : decode b_law 593 = .ok (.iaload, 1) := by decide +kernel
theorem d_law_594 : decode b_law 594 = .ok (.aload_n 0, 1) := by decide +kernel
theorem d_law_595 : decode b_law 595 = .ok (.iload_n 3, 1) := by decide +kernel
theorem d_law_596 : decode b_law 596 = .ok (.iconst 3, 1) := by decide +kernel
theorem d_law_597 : decode b_law 597 = .ok (.iadd, 1) := by decide +kernel
theorem d_law_598 : decode b_law 598 = .ok (.iaload, 1) := by decide +kernel
theorem d_law_599 : decode b_law 599 = .ok (.invokevirtual 65, 3) := by decide +kernel
theorem d_law_602 : decode b_law 602 = .ok (.if_icmp .eq 90, 3) := by decide +kernel
theorem d_law_605 : decode b_law 605 = .ok (.iconst 0, 1) := by decide +kernel
theorem d_law_606 : decode b_law 606 = .ok (.ireturn, 1) := by decide +kernel
theorem d_law_607 : decode b_law 607 = .ok (.aload_n 1, 1) := by decide +kernel
