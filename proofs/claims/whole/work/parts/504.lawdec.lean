theorem d_law_317 : decode b_law 317 = .ok (.iconst 1, 1) := by decide +kernel
theorem d_law_318 : decode b_law 318 = .ok (.iadd, 1) := by decide +kernel
theorem d_law_319 : decode b_law 319 = .ok (.iaload, 1) := by decide +kernel
theorem d_law_320 : decode b_law 320 = .ok (.aload_n 0, 1) := by decide +kernel
theorem d_law_321 : decode b_law 321 = .ok (.iload_n 3, 1) := by decide +kernel
theorem d_law_322 : decode b_law 322 = .ok (.iconst 2, 1) := by decide +kernel
theorem d_law_323 : decode b_law 323 = .ok (.iadd, 1) := by decide +kernel
theorem d_law_324 : decode b_law 324 = .ok (.iaload, 1) := by decide +kernel
theorem d_law_325 : decode b_law 325 = .ok (.i2l, 1) := by decide +kernel
theorem d_law_326 : decode b_law 326 = .ok (.bipush 32, 2) := by decide +kernel
theorem d_law_328 : decode b_law 328 = .ok (.lshl, 1) := by decide +kernel
theorem d_law_329 : decode b_law 329 = .ok (.aload_n 0, 1) := by decide +kernel
theorem d_law_330 : decode b_law 330 = .ok (.iload_n 3, 1) := by decide +kernel
theorem d_law_331 : decode b_law 331 = .ok (.iconst 3, 1) := by decide +kernel
theorem d_law_332 : decode b_law 332 = .ok (.iadd, 1) := by decide +kernel
theorem d_law_333 : decode b_law 333 = .ok (.iaload, 1) := by decide +kernel
theorem d_law_334 : decode b_law 334 = .ok (.i2l, 1) := by decide +kernel
theorem d_law_335 : decode b_law 335 = .ok (.ldc2_w 22, 3) := by decide +kernel
theorem d_law_338 : decode b_law 338 = .ok (.land, 1) := by decide +kernel
theorem d_law_339 : decode b_law 339 = .ok (.lor, 1) := by decide +kernel
theorem d_law_340 : decode b_law 340 = .ok (.aload_n 0, 1) := by decide +kernel
theorem d_law_341 : decode b_law 341 = .ok (.iload_n 3, 1) := by decide +kernel
theorem d_law_342 : decode b_law 342 = .ok (.iconst 4, 1) := by decide +kernel
theorem d_law_343 : decode b_law 343 = .ok (.iadd, 1) := by decide +kernel
theorem d_law_344 : decode b_law 344 = .ok (.iaload, 1) := by decide +kernel
theorem d_law_345 : decode b_law 345 = .ok (.invokevirtual 47, 3) := by decide +kernel
theorem d_law_348 : decode b_law 348 = .ok (.if_icmp .eq 344, 3) := by decide +kernel
theorem d_law_351 : decode b_law 351 = .ok (.iconst 0, 1) := by decide +kernel
theorem d_law_352 : decode b_law 352 = .ok (.ireturn, 1) := by decide +kernel
theorem d_law_353 : decode b_law 353 = .ok (.aload_n 1, 1) := by decide +kernel
theorem d_law_354 : decode b_law 354 = .ok (.aload_n 0, 1) := by decide +kernel
theorem d_law_355 : decode b_law 355 = .ok (.iload_n 3, 1) := by decide +kernel
theorem d_law_356 : decode b_law 356 = .ok (.iconst 1, 1) := by decide +kernel
theorem d_law_357 : decode b_law 357 = .ok (.iadd, 1) := by decide +kernel
theorem d_law_358 : decode b_law 358 = .ok (.iaload, 1) := by decide +kernel
theorem d_law_359 : decode b_law 359 = .ok (.aload_n 0, 1) := by decide +kernel
theorem d_law_360 : decode b_law 360 = .ok (.iload_n 3, 1) := by decide +kernel
theorem d_law_361 : decode b_law 361 = .ok (.iconst 2, 1) := by decide +kernel
theorem d_law_362 : decode b_law 362 = .ok (.iadd, 1) := by decide +kernel
theorem d_law_363 : decode b_law 363 = .ok (.iaload, 1) := by decide +kernel
theorem d_law_364 : decode b_law 364 = .ok (.i2l, 1) := by decide +kernel
theorem d_law_365 : decode b_law 365 = .ok (.bipush 32, 2) := by decide +kernel
theorem d_law_367 : decode b_law 367 = .ok (.lshl, 1) := by decide +kernel
theorem d_law_368 : decode b_law 368 = .ok (.aload_n 0, 1) := by decide +kernel
theorem d_law_369 : decode b_law 369 = .ok (.iload_n 3, 1) := by decide +kernel
theorem d_law_370 : decode b_law 370 = .ok (.iconst 3, 1) := by decide +kernel
theorem d_law_371 : decode b_law 371 = .ok (.iadd, 1) := by decide +kernel
theorem d_law_372 : decode b_law 372 = .ok (.iaload, 1) := by decide +kernel
theorem d_law_373 : decode b_law 373 = .ok (.i2l, 1) := by decide +kernel
theorem d_law_374 : decode b_law 374 = .ok (.ldc2_w 22, 3) := by decide +kernel
theorem d_law_377 : decode b_law 377 = .ok (.land, 1) := by decide +kernel
theorem d_law_378 : decode b_law 378 = .ok (.lor, 1) := by decide +kernel
theorem d_law_379 : decode b_law 379 = .ok (.aload_n 0, 1) := by decide +kernel
theorem d_law_380 : decode b_law 380 = .ok (.iload_n 3, 1) := by decide +kernel
theorem d_law_381 : decode b_law 381 = .ok (.iconst 4, 1) := by decide +kernel
theorem d_law_382 : decode b_law 382 = .ok (.iadd, 1) := by decide +kernel
theorem d_law_383 : decode b_law 383 = .ok (.iaload, 1) := by decide +kernel
theorem d_law_384 : decode b_law 384 = .ok (.invokevirtual 48, 3) := by decide +kernel
theorem d_law_387 : decode b_law 387 = .ok (.aload_n 2, 1) := by decide +kernel
theorem d_law_388 : decode b_law 388 = .ok (.aload_n 0, 1) := by decide +kernel
