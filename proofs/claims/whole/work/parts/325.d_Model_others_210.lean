theorem d_Model_others_412 : decode b_Model_others 412 = .ok (.ireturn, 1) := by decide +kernel
theorem d_Model_others_413 : decode b_Model_others 413 = .ok (.aload_n 0, 1) := by decide +kernel
theorem d_Model_others_414 : decode b_Model_others 414 = .ok (.getfield 194, 3) := by decide +kernel
theorem d_Model_others_417 : decode b_Model_others 417 = .ok (.i2l, 1) := by decide +kernel
theorem d_Model_others_418 : decode b_Model_others 418 = .ok (.iload_n 3, 1) := by decide +kernel
theorem d_Model_others_419 : decode b_Model_others 419 = .ok (.i2l, 1) := by decide +kernel
theorem d_Model_others_420 : decode b_Model_others 420 = .ok (.ladd, 1) := by decide +kernel
theorem d_Model_others_421 : decode b_Model_others 421 = .ok (.lconst 0, 1) := by decide +kernel
theorem d_Model_others_422 : decode b_Model_others 422 = .ok (.lcmp, 1) := by decide +kernel
theorem d_Model_others_423 : decode b_Model_others 423 = .ok (.ifCond .lt 20, 3) := by decide +kernel
theorem d_Model_others_426 : decode b_Model_others 426 = .ok (.aload_n 0, 1) := by decide +kernel
theorem d_Model_others_427 : decode b_Model_others 427 = .ok (.getfield 194, 3) := by decide +kernel
theorem d_Model_others_430 : decode b_Model_others 430 = .ok (.i2l, 1) := by decide +kernel
theorem d_Model_others_431 : decode b_Model_others 431 = .ok (.iload_n 3, 1) := by decide +kernel
theorem d_Model_others_432 : decode b_Model_others 432 = .ok (.i2l, 1) := by decide +kernel
theorem d_Model_others_433 : decode b_Model_others 433 = .ok (.ladd, 1) := by decide +kernel
theorem d_Model_others_434 : decode b_Model_others 434 = .ok (.aload_n 0, 1) := by decide +kernel
theorem d_Model_others_435 : decode b_Model_others 435 = .ok (.getfield 92, 3) := by decide +kernel
theorem d_Model_others_438 : decode b_Model_others 438 = .ok (.i2l, 1) := by decide +kernel
theorem d_Model_others_439 : decode b_Model_others 439 = .ok (.lcmp, 1) := by decide +kernel
theorem d_Model_others_440 : decode b_Model_others 440 = .ok (.ifCond .le 22, 3) := by decide +kernel
theorem d_Model_others_443 : decode b_Model_others 443 = .ok (.aload_n 0, 1) := by decide +kernel
theorem d_Model_others_444 : decode b_Model_others 444 = .ok (.getfield 194, 3) := by decide +kernel
theorem d_Model_others_447 : decode b_Model_others 447 = .ok (.i2l, 1) := by decide +kernel
theorem d_Model_others_448 : decode b_Model_others 448 = .ok (.iload_n 3, 1) := by decide +kernel
theorem d_Model_others_449 : decode b_Model_others 449 = .ok (.i2l, 1) := by decide +kernel
theorem d_Model_others_450 : decode b_Model_others 450 = .ok (.ladd, 1) := by decide +kernel
theorem d_Model_others_451 : decode b_Model_others 451 = .ok (.lconst 0, 1) := by decide +kernel
theorem d_Model_others_452 : decode b_Model_others 452 = .ok (.lcmp, 1) := by decide +kernel
theorem d_Model_others_453 : decode b_Model_others 453 = .ok (.ifCond .ge 7, 3) := by decide +kernel
theorem d_Model_others_456 : decode b_Model_others 456 = .ok (.iconst 4, 1) := by decide +kernel
theorem d_Model_others_457 : decode b_Model_others 457 = .ok (.goto 4, 3) := by decide +kernel
theorem d_Model_others_460 : decode b_Model_others 460 = .ok (.iconst 3, 1) := by decide +kernel
theorem d_Model_others_461 : decode b_Model_others 461 = .ok (.ireturn, 1) := by decide +kernel
theorem d_Model_others_462 : decode b_Model_others 462 = .ok (.aload_n 0, 1) := by decide +kernel
theorem d_Model_others_463 : decode b_Model_others 463 = .ok (.dup, 1) := by decide +kernel
theorem d_Model_others_464 : decode b_Model_others 464 = .ok (.getfield 194, 3) := by decide +kernel
theorem d_Model_others_467 : decode b_Model_others 467 = .ok (.iload_n 3, 1) := by decide +kernel
theorem d_Model_others_468 : decode b_Model_others 468 = .ok (.iadd, 1) := by decide +kernel
theorem d_Model_others_469 : decode b_Model_others 469 = .ok (.putfield 194, 3) := by decide +kernel
theorem d_Model_others_472 : decode b_Model_others 472 = .ok (.aload_n 0, 1) := by decide +kernel
theorem d_Model_others_473 : decode b_Model_others 473 = .ok (.iconst 2, 1) := by decide +kernel
theorem d_Model_others_474 : decode b_Model_others 474 = .ok (.iconst 5, 1) := by decide +kernel
theorem d_Model_others_475 : decode b_Model_others 475 = .ok (.invokevirtual 228, 3) := by decide +kernel
theorem d_Model_others_478 : decode b_Model_others 478 = .ok (.ireturn, 1) := by decide +kernel
theorem d_Model_others_479 : decode b_Model_others 479 = .ok (.aload_n 0, 1) := by decide +kernel
theorem d_Model_others_480 : decode b_Model_others 480 = .ok (.iconst 1, 1) := by decide +kernel
theorem d_Model_others_481 : decode b_Model_others 481 = .ok (.aload_n 0, 1) := by decide +kernel
theorem d_Model_others_482 : decode b_Model_others 482 = .ok (.invokevirtual 308, 3) := by decide +kernel
theorem d_Model_others_485 : decode b_Model_others 485 = .ok (.invokevirtual 228, 3) := by decide +kernel
theorem d_Model_others_488 : decode b_Model_others 488 = .ok (.ireturn, 1) := by decide +kernel
