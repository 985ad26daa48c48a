theorem d_Model_instruction_458 : decode b_Model_instruction 458 = .ok (.aload_n 0, 1) := by decide +kernel
theorem d_Model_instruction_459 : decode b_Model_instruction 459 = .ok (.iconst 1, 1) := by decide +kernel
theorem d_Model_instruction_460 : decode b_Model_instruction 460 = .ok (.iconst 2, 1) := by decide +kernel
theorem d_Model_instruction_461 : decode b_Model_instruction 461 = .ok (.invokevirtual 246, 3) := by decide +kernel
theorem d_Model_instruction_464 : decode b_Model_instruction 464 = .ok (.ifCond .eq 20, 3) := by decide +kernel
theorem d_Model_instruction_467 : decode b_Model_instruction 467 = .ok (.iload_n 3, 1) := by decide +kernel
theorem d_Model_instruction_468 : decode b_Model_instruction 468 = .ok (.ifCond .lt 16, 3) := by decide +kernel
theorem d_Model_instruction_471 : decode b_Model_instruction 471 = .ok (.iload_n 3, 1) := by decide +kernel
theorem d_Model_instruction_472 : decode b_Model_instruction 472 = .ok (.aload_n 0, 1) := by decide +kernel
theorem d_Model_instruction_473 : decode b_Model_instruction 473 = .ok (.aload_n 0, 1) := by decide +kernel
theorem d_Model_instruction_474 : decode b_Model_instruction 474 = .ok (.iconst 1, 1) := by decide +kernel
theorem d_Model_instruction_475 : decode b_Model_instruction 475 = .ok (.invokevirtual 250, 3) := by decide +kernel
theorem d_Model_instruction_478 : decode b_Model_instruction 478 = .ok (.invokevirtual 106, 3) := by decide +kernel
theorem d_Model_instruction_481 : decode b_Model_instruction 481 = .ok (.if_icmp .lt 7, 3) := by decide +kernel
theorem d_Model_instruction_484 : decode b_Model_instruction 484 = .ok (.iconst 4, 1) := by decide +kernel
theorem d_Model_instruction_485 : decode b_Model_instruction 485 = .ok (.goto 8, 3) := by decide +kernel
theorem d_Model_instruction_488 : decode b_Model_instruction 488 = .ok (.aload_n 0, 1) := by decide +kernel
theorem d_Model_instruction_489 : decode b_Model_instruction 489 = .ok (.iload_n 3, 1) := by decide +kernel
theorem d_Model_instruction_490 : decode b_Model_instruction 490 = .ok (.invokevirtual 253, 3) := by decide +kernel
theorem d_Model_instruction_493 : decode b_Model_instruction 493 = .ok (.invokevirtual 228, 3) := by decide +kernel
theorem d_Model_instruction_496 : decode b_Model_instruction 496 = .ok (.ireturn, 1) := by decide +kernel
theorem d_Model_instruction_497 : decode b_Model_instruction 497 = .ok (.aload_n 0, 1) := by decide +kernel
theorem d_Model_instruction_498 : decode b_Model_instruction 498 = .ok (.iconst 2, 1) := by decide +kernel
theorem d_Model_instruction_499 : decode b_Model_instruction 499 = .ok (.aload_n 0, 1) := by decide +kernel
theorem d_Model_instruction_500 : decode b_Model_instruction 500 = .ok (.iconst 3, 1) := by decide +kernel
theorem d_Model_instruction_501 : decode b_Model_instruction 501 = .ok (.iconst 1, 1) := by decide +kernel
theorem d_Model_instruction_502 : decode b_Model_instruction 502 = .ok (.iload_n 3, 1) := by decide +kernel
theorem d_Model_instruction_503 : decode b_Model_instruction 503 = .ok (.invokevirtual 243, 3) := by decide +kernel
theorem d_Model_instruction_506 : decode b_Model_instruction 506 = .ok (.invokevirtual 228, 3) := by decide +kernel
theorem d_Model_instruction_509 : decode b_Model_instruction 509 = .ok (.ireturn, 1) := by decide +kernel
theorem d_Model_instruction_510 : decode b_Model_instruction 510 = .ok (.aload_n 0, 1) := by decide +kernel
theorem d_Model_instruction_511 : decode b_Model_instruction 511 = .ok (.iconst 1, 1) := by decide +kernel
theorem d_Model_instruction_512 : decode b_Model_instruction 512 = .ok (.aload_n 0, 1) := by decide +kernel
theorem d_Model_instruction_513 : decode b_Model_instruction 513 = .ok (.iconst 1, 1) := by decide +kernel
theorem d_Model_instruction_514 : decode b_Model_instruction 514 = .ok (.iconst 3, 1) := by decide +kernel
theorem d_Model_instruction_515 : decode b_Model_instruction 515 = .ok (.invokevirtual 246, 3) := by decide +kernel
theorem d_Model_instruction_518 : decode b_Model_instruction 518 = .ok (.ifCond .ne 13, 3) := by decide +kernel
theorem d_Model_instruction_521 : decode b_Model_instruction 521 = .ok (.aload_n 0, 1) := by decide +kernel
theorem d_Model_instruction_522 : decode b_Model_instruction 522 = .ok (.iconst 1, 1) := by decide +kernel
theorem d_Model_instruction_523 : decode b_Model_instruction 523 = .ok (.bipush 7, 2) := by decide +kernel
theorem d_Model_instruction_525 : decode b_Model_instruction 525 = .ok (.invokevirtual 246, 3) := by decide +kernel
theorem d_Model_instruction_528 : decode b_Model_instruction 528 = .ok (.ifCond .eq 11, 3) := by decide +kernel
theorem d_Model_instruction_531 : decode b_Model_instruction 531 = .ok (.aload_n 0, 1) := by decide +kernel
theorem d_Model_instruction_532 : decode b_Model_instruction 532 = .ok (.iconst 0, 1) := by decide +kernel
theorem d_Model_instruction_533 : decode b_Model_instruction 533 = .ok (.invokevirtual 253, 3) := by decide +kernel
theorem d_Model_instruction_536 : decode b_Model_instruction 536 = .ok (.goto 4, 3) := by decide +kernel
theorem d_Model_instruction_539 : decode b_Model_instruction 539 = .ok (.iconst 4, 1) := by decide +kernel
theorem d_Model_instruction_540 : decode b_Model_instruction 540 = .ok (.invokevirtual 228, 3) := by decide +kernel
theorem d_Model_instruction_543 : decode b_Model_instruction 543 = .ok (.ireturn, 1) := by decide +kernel
theorem d_Model_instruction_544 : decode b_Model_instruction 544 = .ok (.aload_n 0, 1) := by decide +kernel
theorem d_Model_instruction_545 : decode b_Model_instruction 545 = .ok (.iconst 1, 1) := by decide +kernel
theorem d_Model_instruction_546 : decode b_Model_instruction 546 = .ok (.aload_n 0, 1) := by decide +kernel
theorem d_Model_instruction_547 : decode b_Model_instruction 547 = .ok (.iconst 1, 1) := by decide +kernel
theorem d_Model_instruction_548 : decode b_Model_instruction 548 = .ok (.iconst 3, 1) := by decide +kernel
theorem d_Model_instruction_549 : decode b_Model_instruction 549 = .ok (.invokevirtual 246, 3) := by decide +kernel
theorem d_Model_instruction_552 : decode b_Model_instruction 552 = .ok (.ifCond .eq 22, 3) := by decide +kernel
theorem d_Model_instruction_555 : decode b_Model_instruction 555 = .ok (.aload_n 0, 1) := by decide +kernel
theorem d_Model_instruction_556 : decode b_Model_instruction 556 = .ok (.iconst 1, 1) := by decide +kernel
theorem d_Model_instruction_557 : decode b_Model_instruction 557 = .ok (.iconst 0, 1) := by decide +kernel
theorem d_Model_instruction_558 : decode b_Model_instruction 558 = .ok (.aload_n 0, 1) := by decide +kernel
theorem d_Model_instruction_559 : decode b_Model_instruction 559 = .ok (.getfield 14, 3) := by decide +kernel
theorem d_Model_instruction_562 : decode b_Model_instruction 562 = .ok (.aload_n 0, 1) := by decide +kernel
theorem d_Model_instruction_563 : decode b_Model_instruction 563 = .ok (.iconst 1, 1) := by decide +kernel
theorem d_Model_instruction_564 : decode b_Model_instruction 564 = .ok (.invokevirtual 250, 3) := by decide +kernel
theorem d_Model_instruction_567 : decode b_Model_instruction 567 = .ok (.iaload, 1) := by decide +kernel
theorem d_Model_instruction_568 : decode b_Model_instruction 568 = .ok (.invokevirtual 207, 3) := by decide +kernel
theorem d_Model_instruction_571 : decode b_Model_instruction 571 = .ok (.goto 16, 3) := by decide +kernel
theorem d_Model_instruction_574 : decode b_Model_instruction 574 = .ok (.aload_n 0, 1) := by decide +kernel
theorem d_Model_instruction_575 : decode b_Model_instruction 575 = .ok (.iconst 1, 1) := by decide +kernel
theorem d_Model_instruction_576 : decode b_Model_instruction 576 = .ok (.invokevirtual 256, 3) := by decide +kernel
