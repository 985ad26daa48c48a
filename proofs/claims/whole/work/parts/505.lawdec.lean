theorem d_law_389 : decode b_law 389 = .ok (.iload_n 3, 1) := by decide +kernel
theorem d_law_390 : decode b_law 390 = .ok (.iconst 1, 1) := by decide +kernel
theorem d_law_391 : decode b_law 391 = .ok (.iadd, 1) := by decide +kernel
theorem d_law_392 : decode b_law 392 = .ok (.iaload, 1) := by decide +kernel
theorem d_law_393 : decode b_law 393 = .ok (.aload_n 0, 1) := by decide +kernel
theorem d_law_394 : decode b_law 394 = .ok (.iload_n 3, 1) := by decide +kernel
theorem d_law_395 : decode b_law 395 = .ok (.iconst 2, 1) := by decide +kernel
theorem d_law_396 : decode b_law 396 = .ok (.iadd, 1) := by decide +kernel
theorem d_law_397 : decode b_law 397 = .ok (.iaload, 1) := by decide +kernel
theorem d_law_398 : decode b_law 398 = .ok (.i2l, 1) := by decide +kernel
theorem d_law_399 : decode b_law 399 = .ok (.bipush 32, 2) := by decide +kernel
theorem d_law_401 : decode b_law 401 = .ok (.lshl, 1) := by decide +kernel
theorem d_law_402 : decode b_law 402 = .ok (.aload_n 0, 1) := by decide +kernel
theorem d_law_403 : decode b_law 403 = .ok (.iload_n 3, 1) := by decide +kernel
theorem d_law_404 : decode b_law 404 = .ok (.iconst 3, 1) := by decide +kernel
theorem d_law_405 : decode b_law 405 = .ok (.iadd, 1) := by decide +kernel
theorem d_law_406 : decode b_law 406 = .ok (.iaload, 1) := by decide +kernel
theorem d_law_407 : decode b_law 407 = .ok (.i2l, 1) := by decide +kernel
theorem d_law_408 : decode b_law 408 = .ok (.ldc2_w 22, 3) := by decide +kernel
theorem d_law_411 : decode b_law 411 = .ok (.land, 1) := by decide +kernel
theorem d_law_412 : decode b_law 412 = .ok (.lor, 1) := by decide +kernel
theorem d_law_413 : decode b_law 413 = .ok (.aload_n 0, 1) := by decide +kernel
theorem d_law_414 : decode b_law 414 = .ok (.iload_n 3, 1) := by decide +kernel
theorem d_law_415 : decode b_law 415 = .ok (.iconst 4, 1) := by decide +kernel
theorem d_law_416 : decode b_law 416 = .ok (.iadd, 1) := by decide +kernel
theorem d_law_417 : decode b_law 417 = .ok (.iaload, 1) := by decide +kernel
theorem d_law_418 : decode b_law 418 = .ok (.invokevirtual 51, 3) := by decide +kernel
theorem d_law_421 : decode b_law 421 = .ok (.if_icmp .eq 271, 3) := by decide +kernel
theorem d_law_424 : decode b_law 424 = .ok (.iconst 0, 1) := by decide +kernel
theorem d_law_425 : decode b_law 425 = .ok (.ireturn, 1) := by decide +kernel
theorem d_law_426 : decode b_law 426 = .ok (.aload_n 1, 1) := by decide +kernel
theorem d_law_427 : decode b_law 427 = .ok (.aload_n 0, 1) := by decide +kernel
theorem d_law_428 : decode b_law 428 = .ok (.iload_n 3, 1) := by decide +kernel
theorem d_law_429 : decode b_law 429 = .ok (.iconst 1, 1) := by decide +kernel
theorem d_law_430 : decode b_law 430 = .ok (.iadd, 1) := by decide +kernel
theorem d_law_431 : decode b_law 431 = .ok (.iaload, 1) := by decide +kernel
theorem d_law_432 : decode b_law 432 = .ok (.aload_n 0, 1) := by decide +kernel
theorem d_law_433 : decode b_law 433 = .ok (.iload_n 3, 1) := by decide +kernel
theorem d_law_434 : decode b_law 434 = .ok (.iconst 2, 1) := by decide +kernel
theorem d_law_435 : decode b_law 435 = .ok (.iadd, 1) := by decide +kernel
theorem d_law_436 : decode b_law 436 = .ok (.iaload, 1) := by decide +kernel
theorem d_law_437 : decode b_law 437 = .ok (.i2l, 1) := by decide +kernel
theorem d_law_438 : decode b_law 438 = .ok (.bipush 32, 2) := by decide +kernel
theorem d_law_440 : decode b_law 440 = .ok (.lshl, 1) := by decide +kernel
theorem d_law_441 : decode b_law 441 = .ok (.aload_n 0, 1) := by decide +kernel
theorem d_law_442 : decode b_law 442 = .ok (.iload_n 3, 1) := by decide +kernel
theorem d_law_443 : decode b_law 443 = .ok (.iconst 3, 1) := by decide +kernel
theorem d_law_444 : decode b_law 444 = .ok (.iadd, 1) := by decide +kernel
theorem d_law_445 : decode b_law 445 = .ok (.iaload, 1) := by decide +kernel
theorem d_law_446 : decode b_law 446 = .ok (.i2l, 1) := by decide +kernel
theorem d_law_447 : decode b_law 447 = .ok (.ldc2_w 22, 3) := by decide +kernel
theorem d_law_450 : decode b_law 450 = .ok (.land, 1) := by decide +kernel
theorem d_law_451 : decode b_law 451 = .ok (.lor, 1) := by decide +kernel
theorem d_law_452 : decode b_law 452 = .ok (.aload_n 0, 1) := by decide +kernel
theorem d_law_453 : decode b_law 453 = .ok (.iload_n 3, 1) := by decide +kernel
theorem d_law_454 : decode b_law 454 = .ok (.iconst 4, 1) := by decide +kernel
theorem d_law_455 : decode b_law 455 = .ok (.iadd, 1) := by decide +kernel
theorem d_law_456 : decode b_law 456 = .ok (.iaload, 1) := by decide +kernel
theorem d_law_457 : decode b_law 457 = .ok (.aload_n 0, 1) := by decide +kernel
theorem d_law_458 : decode b_law 458 = .ok (.iload_n 3, 1) := by decide +kernel
