theorem d_law_459 : decode b_law 459 = .ok (.iconst 5, 1) := by decide +kernel
theorem d_law_460 : decode b_law 460 = .ok (.iadd, 1) := by decide +kernel
theorem d_law_461 : decode b_law 461 = .ok (.iaload, 1) := by decide +kernel
theorem d_law_462 : decode b_law 462 = .ok (.i2l, 1) := by decide +kernel
theorem d_law_463 : decode b_law 463 = .ok (.bipush 32, 2) := by decide +kernel
theorem d_law_465 : decode b_law 465 = .ok (.lshl, 1) := by decide +kernel
theorem d_law_466 : decode b_law 466 = .ok (.aload_n 0, 1) := by decide +kernel
theorem d_law_467 : decode b_law 467 = .ok (.iload_n 3, 1) := by decide +kernel
theorem d_law_468 : decode b_law 468 = .ok (.bipush 6, 2) := by decide +kernel
theorem d_law_470 : decode b_law 470 = .ok (.iadd, 1) := by decide +kernel
theorem d_law_471 : decode b_law 471 = .ok (.iaload, 1) := by decide +kernel
theorem d_law_472 : decode b_law 472 = .ok (.i2l, 1) := by decide +kernel
theorem d_law_473 : decode b_law 473 = .ok (.ldc2_w 22, 3) := by decide +kernel
theorem d_law_476 : decode b_law 476 = .ok (.land, 1) := by decide +kernel
theorem d_law_477 : decode b_law 477 = .ok (.lor, 1) := by decide +kernel
theorem d_law_478 : decode b_law 478 = .ok (.invokevirtual 52, 3) := by decide +kernel
theorem d_law_481 : decode b_law 481 = .ok (.aload_n 2, 1) := by decide +kernel
theorem d_law_482 : decode b_law 482 = .ok (.aload_n 0, 1) := by decide +kernel
theorem d_law_483 : decode b_law 483 = .ok (.iload_n 3, 1) := by decide +kernel
theorem d_law_484 : decode b_law 484 = .ok (.iconst 1, 1) := by decide +kernel
theorem d_law_485 : decode b_law 485 = .ok (.iadd, 1) := by decide +kernel
theorem d_law_486 : decode b_law 486 = .ok (.iaload, 1) := by decide +kernel
theorem d_law_487 : decode b_law 487 = .ok (.aload_n 0, 1) := by decide +kernel
theorem d_law_488 : decode b_law 488 = .ok (.iload_n 3, 1) := by decide +kernel
theorem d_law_489 : decode b_law 489 = .ok (.iconst 2, 1) := by decide +kernel
theorem d_law_490 : decode b_law 490 = .ok (.iadd, 1) := by decide +kernel
theorem d_law_491 : decode b_law 491 = .ok (.iaload, 1) := by decide +kernel
theorem d_law_492 : decode b_law 492 = .ok (.i2l, 1) := by decide +kernel
theorem d_law_493 : decode b_law 493 = .ok (.bipush 32, 2) := by decide +kernel
theorem d_law_495 : decode b_law 495 = .ok (.lshl, 1) := by decide +kernel
theorem d_law_496 : decode b_law 496 = .ok (.aload_n 0, 1) := by decide +kernel
theorem d_law_497 : decode b_law 497 = .ok (.iload_n 3, 1) := by decide +kernel
theorem d_law_498 : decode b_law 498 = .ok (.iconst 3, 1) := by decide +kernel
theorem d_law_499 : decode b_law 499 = .ok (.iadd, 1) := by decide +kernel
theorem d_law_500 : decode b_law 500 = .ok (.iaload, 1) := by decide +kernel
theorem d_law_501 : decode b_law 501 = .ok (.i2l, 1) := by decide +kernel
theorem d_law_502 : decode b_law 502 = .ok (.ldc2_w 22, 3) := by decide +kernel
theorem d_law_505 : decode b_law 505 = .ok (.land, 1) := by decide +kernel
theorem d_law_506 : decode b_law 506 = .ok (.lor, 1) := by decide +kernel
theorem d_law_507 : decode b_law 507 = .ok (.aload_n 0, 1) := by decide +kernel
theorem d_law_508 : decode b_law 508 = .ok (.iload_n 3, 1) := by decide +kernel
theorem d_law_509 : decode b_law 509 = .ok (.iconst 4, 1) := by decide +kernel
theorem d_law_510 : decode b_law 510 = .ok (.iadd, 1) := by decide +kernel
theorem d_law_511 : decode b_law 511 = .ok (.iaload, 1) := by decide +kernel
theorem d_law_512 : decode b_law 512 = .ok (.aload_n 0, 1) := by decide +kernel
theorem d_law_513 : decode b_law 513 = .ok (.iload_n 3, 1) := by decide +kernel
theorem d_law_514 : decode b_law 514 = .ok (.iconst 5, 1) := by decide +kernel
theorem d_law_515 : decode b_law 515 = .ok (.iadd, 1) := by decide +kernel
theorem d_law_516 : decode b_law 516 = .ok (.iaload, 1) := by decide +kernel
theorem d_law_517 : decode b_law 517 = .ok (.i2l, 1) := by decide +kernel
theorem d_law_518 : decode b_law 518 = .ok (.bipush 32, 2) := by decide +kernel
theorem d_law_520 : decode b_law 520 = .ok (.lshl, 1) := by decide +kernel
theorem d_law_521 : decode b_law 521 = .ok (.aload_n 0, 1) := by decide +kernel
theorem d_law_522 : decode b_law 522 = .ok (.iload_n 3, 1) := by decide +kernel
theorem d_law_523 : decode b_law 523 = .ok (.bipush 6, 2) := by decide +kernel
theorem d_law_525 : decode b_law 525 = .ok (.iadd, 1) := by decide +kernel
theorem d_law_526 : decode b_law 526 = .ok (.iaload, 1) := by decide +kernel
theorem d_law_527 : decode b_law 527 = .ok (.i2l, 1) := by decide +kernel
theorem d_law_528 : decode b_law 528 = .ok (.ldc2_w 22, 3) := by decide +kernel
theorem d_law_531 : decode b_law 531 = .ok (.land, 1) := by decide +kernel
