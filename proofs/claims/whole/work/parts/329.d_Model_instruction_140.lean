theorem d_Model_instruction_344 : decode b_Model_instruction 344 = .ok (.goto 19, 3) := by decide +kernel
theorem d_Model_instruction_347 : decode b_Model_instruction 347 = .ok (.aload_n 0, 1) := by decide +kernel
theorem d_Model_instruction_348 : decode b_Model_instruction 348 = .ok (.aload_n 0, 1) := by decide +kernel
theorem d_Model_instruction_349 : decode b_Model_instruction 349 = .ok (.getfield 20, 3) := by decide +kernel
theorem d_Model_instruction_352 : decode b_Model_instruction 352 = .ok (.iload_n 3, 1) := by decide +kernel
theorem d_Model_instruction_353 : decode b_Model_instruction 353 = .ok (.iaload, 1) := by decide +kernel
theorem d_Model_instruction_354 : decode b_Model_instruction 354 = .ok (.aload_n 0, 1) := by decide +kernel
theorem d_Model_instruction_355 : decode b_Model_instruction 355 = .ok (.getfield 23, 3) := by decide +kernel
theorem d_Model_instruction_358 : decode b_Model_instruction 358 = .ok (.iload_n 3, 1) := by decide +kernel
theorem d_Model_instruction_359 : decode b_Model_instruction 359 = .ok (.iaload, 1) := by decide +kernel
theorem d_Model_instruction_360 : decode b_Model_instruction 360 = .ok (.invokevirtual 225, 3) := by decide +kernel
theorem d_Model_instruction_363 : decode b_Model_instruction 363 = .ok (.invokevirtual 228, 3) := by decide +kernel
theorem d_Model_instruction_366 : decode b_Model_instruction 366 = .ok (.ireturn, 1) := by decide +kernel
theorem d_Model_instruction_367 : decode b_Model_instruction 367 = .ok (.aload_n 0, 1) := by decide +kernel
theorem d_Model_instruction_368 : decode b_Model_instruction 368 = .ok (.iconst 2, 1) := by decide +kernel
theorem d_Model_instruction_369 : decode b_Model_instruction 369 = .ok (.aload_n 0, 1) := by decide +kernel
theorem d_Model_instruction_370 : decode b_Model_instruction 370 = .ok (.iload_n 3, 1) := by decide +kernel
theorem d_Model_instruction_371 : decode b_Model_instruction 371 = .ok (.invokevirtual 240, 3) := by decide +kernel
theorem d_Model_instruction_374 : decode b_Model_instruction 374 = .ok (.invokevirtual 228, 3) := by decide +kernel
theorem d_Model_instruction_377 : decode b_Model_instruction 377 = .ok (.ireturn, 1) := by decide +kernel
theorem d_Model_instruction_378 : decode b_Model_instruction 378 = .ok (.aload_n 0, 1) := by decide +kernel
theorem d_Model_instruction_379 : decode b_Model_instruction 379 = .ok (.dup, 1) := by decide +kernel
theorem d_Model_instruction_380 : decode b_Model_instruction 380 = .ok (.getfield 135, 3) := by decide +kernel
theorem d_Model_instruction_383 : decode b_Model_instruction 383 = .ok (.iconst 1, 1) := by decide +kernel
theorem d_Model_instruction_384 : decode b_Model_instruction 384 = .ok (.isub, 1) := by decide +kernel
theorem d_Model_instruction_385 : decode b_Model_instruction 385 = .ok (.putfield 135, 3) := by decide +kernel
theorem d_Model_instruction_388 : decode b_Model_instruction 388 = .ok (.aload_n 0, 1) := by decide +kernel
theorem d_Model_instruction_389 : decode b_Model_instruction 389 = .ok (.iconst 1, 1) := by decide +kernel
theorem d_Model_instruction_390 : decode b_Model_instruction 390 = .ok (.iconst 5, 1) := by decide +kernel
theorem d_Model_instruction_391 : decode b_Model_instruction 391 = .ok (.invokevirtual 228, 3) := by decide +kernel
theorem d_Model_instruction_394 : decode b_Model_instruction 394 = .ok (.ireturn, 1) := by decide +kernel
theorem d_Model_instruction_395 : decode b_Model_instruction 395 = .ok (.aload_n 0, 1) := by decide +kernel
theorem d_Model_instruction_396 : decode b_Model_instruction 396 = .ok (.iconst 1, 1) := by decide +kernel
theorem d_Model_instruction_397 : decode b_Model_instruction 397 = .ok (.aload_n 0, 1) := by decide +kernel
theorem d_Model_instruction_398 : decode b_Model_instruction 398 = .ok (.aload_n 0, 1) := by decide +kernel
theorem d_Model_instruction_399 : decode b_Model_instruction 399 = .ok (.getfield 63, 3) := by decide +kernel
theorem d_Model_instruction_402 : decode b_Model_instruction 402 = .ok (.aload_n 0, 1) := by decide +kernel
theorem d_Model_instruction_403 : decode b_Model_instruction 403 = .ok (.getfield 135, 3) := by decide +kernel
theorem d_Model_instruction_406 : decode b_Model_instruction 406 = .ok (.iconst 1, 1) := by decide +kernel
theorem d_Model_instruction_407 : decode b_Model_instruction 407 = .ok (.isub, 1) := by decide +kernel
theorem d_Model_instruction_408 : decode b_Model_instruction 408 = .ok (.iaload, 1) := by decide +kernel
theorem d_Model_instruction_409 : decode b_Model_instruction 409 = .ok (.aload_n 0, 1) := by decide +kernel
theorem d_Model_instruction_410 : decode b_Model_instruction 410 = .ok (.getfield 66, 3) := by decide +kernel
theorem d_Model_instruction_413 : decode b_Model_instruction 413 = .ok (.aload_n 0, 1) := by decide +kernel
theorem d_Model_instruction_414 : decode b_Model_instruction 414 = .ok (.getfield 135, 3) := by decide +kernel
theorem d_Model_instruction_417 : decode b_Model_instruction 417 = .ok (.iconst 1, 1) := by decide +kernel
theorem d_Model_instruction_418 : decode b_Model_instruction 418 = .ok (.isub, 1) := by decide +kernel
theorem d_Model_instruction_419 : decode b_Model_instruction 419 = .ok (.iaload, 1) := by decide +kernel
theorem d_Model_instruction_420 : decode b_Model_instruction 420 = .ok (.invokevirtual 225, 3) := by decide +kernel
theorem d_Model_instruction_423 : decode b_Model_instruction 423 = .ok (.invokevirtual 228, 3) := by decide +kernel
theorem d_Model_instruction_426 : decode b_Model_instruction 426 = .ok (.ireturn, 1) := by decide +kernel
theorem d_Model_instruction_427 : decode b_Model_instruction 427 = .ok (.aload_n 0, 1) := by decide +kernel
theorem d_Model_instruction_428 : decode b_Model_instruction 428 = .ok (.iconst 2, 1) := by decide +kernel
theorem d_Model_instruction_429 : decode b_Model_instruction 429 = .ok (.iload_n 3, 1) := by decide +kernel
theorem d_Model_instruction_430 : decode b_Model_instruction 430 = .ok (.iconst 1, 1) := by decide +kernel
theorem d_Model_instruction_431 : decode b_Model_instruction 431 = .ok (.if_icmp .lt 10, 3) := by decide +kernel
theorem d_Model_instruction_434 : decode b_Model_instruction 434 = .ok (.iload_n 3, 1) := by decide +kernel
theorem d_Model_instruction_435 : decode b_Model_instruction 435 = .ok (.sipush 255, 3) := by decide +kernel
theorem d_Model_instruction_438 : decode b_Model_instruction 438 = .ok (.if_icmp .le 7, 3) := by decide +kernel
theorem d_Model_instruction_441 : decode b_Model_instruction 441 = .ok (.iconst 4, 1) := by decide +kernel
theorem d_Model_instruction_442 : decode b_Model_instruction 442 = .ok (.goto 10, 3) := by decide +kernel
theorem d_Model_instruction_445 : decode b_Model_instruction 445 = .ok (.aload_n 0, 1) := by decide +kernel
theorem d_Model_instruction_446 : decode b_Model_instruction 446 = .ok (.iconst 2, 1) := by decide +kernel
theorem d_Model_instruction_447 : decode b_Model_instruction 447 = .ok (.iload_n 3, 1) := by decide +kernel
theorem d_Model_instruction_448 : decode b_Model_instruction 448 = .ok (.iconst 0, 1) := by decide +kernel
theorem d_Model_instruction_449 : decode b_Model_instruction 449 = .ok (.invokevirtual 243, 3) := by decide +kernel
theorem d_Model_instruction_452 : decode b_Model_instruction 452 = .ok (.invokevirtual 228, 3) := by decide +kernel
theorem d_Model_instruction_455 : decode b_Model_instruction 455 = .ok (.ireturn, 1) := by decide +kernel
theorem d_Model_instruction_456 : decode b_Model_instruction 456 = .ok (.aload_n 0, 1) := by decide +kernel
theorem d_Model_instruction_457 : decode b_Model_instruction 457 = .ok (.iconst 2, 1) := by decide +kernel
