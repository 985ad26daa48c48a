theorem d_Model_others_294 : decode b_Model_others 294 = .ok (.invokevirtual 299, 3) := by decide +kernel
theorem d_Model_others_297 : decode b_Model_others 297 = .ok (.ifCond .eq 7, 3) := by decide +kernel
theorem d_Model_others_300 : decode b_Model_others 300 = .ok (.iconst 1, 1) := by decide +kernel
theorem d_Model_others_301 : decode b_Model_others 301 = .ok (.goto 4, 3) := by decide +kernel
theorem d_Model_others_304 : decode b_Model_others 304 = .ok (.iconst 0, 1) := by decide +kernel
theorem d_Model_others_305 : decode b_Model_others 305 = .ok (.invokevirtual 207, 3) := by decide +kernel
theorem d_Model_others_308 : decode b_Model_others 308 = .ok (.invokevirtual 228, 3) := by decide +kernel
theorem d_Model_others_311 : decode b_Model_others 311 = .ok (.ireturn, 1) := by decide +kernel
theorem d_Model_others_312 : decode b_Model_others 312 = .ok (.aload_n 0, 1) := by decide +kernel
theorem d_Model_others_313 : decode b_Model_others 313 = .ok (.iload_n 3, 1) := by decide +kernel
theorem d_Model_others_314 : decode b_Model_others 314 = .ok (.invokevirtual 302, 3) := by decide +kernel
theorem d_Model_others_317 : decode b_Model_others 317 = .ok (.ireturn, 1) := by decide +kernel
theorem d_Model_others_318 : decode b_Model_others 318 = .ok (.aload_n 0, 1) := by decide +kernel
theorem d_Model_others_319 : decode b_Model_others 319 = .ok (.getfield 188, 3) := by decide +kernel
theorem d_Model_others_322 : decode b_Model_others 322 = .ok (.ifCond .ne 5, 3) := by decide +kernel
theorem d_Model_others_325 : decode b_Model_others 325 = .ok (.iconst 2, 1) := by decide +kernel
theorem d_Model_others_326 : decode b_Model_others 326 = .ok (.ireturn, 1) := by decide +kernel
theorem d_Model_others_327 : decode b_Model_others 327 = .ok (.aload_n 0, 1) := by decide +kernel
theorem d_Model_others_328 : decode b_Model_others 328 = .ok (.dup, 1) := by decide +kernel
theorem d_Model_others_329 : decode b_Model_others 329 = .ok (.getfield 188, 3) := by decide +kernel
theorem d_Model_others_332 : decode b_Model_others 332 = .ok (.iconst 1, 1) := by decide +kernel
theorem d_Model_others_333 : decode b_Model_others 333 = .ok (.isub, 1) := by decide +kernel
theorem d_Model_others_334 : decode b_Model_others 334 = .ok (.putfield 188, 3) := by decide +kernel
theorem d_Model_others_337 : decode b_Model_others 337 = .ok (.aload_n 0, 1) := by decide +kernel
theorem d_Model_others_338 : decode b_Model_others 338 = .ok (.dup, 1) := by decide +kernel
theorem d_Model_others_339 : decode b_Model_others 339 = .ok (.getfield 191, 3) := by decide +kernel
theorem d_Model_others_342 : decode b_Model_others 342 = .ok (.iconst 1, 1) := by decide +kernel
theorem d_Model_others_343 : decode b_Model_others 343 = .ok (.iadd, 1) := by decide +kernel
theorem d_Model_others_344 : decode b_Model_others 344 = .ok (.putfield 191, 3) := by decide +kernel
theorem d_Model_others_347 : decode b_Model_others 347 = .ok (.aload_n 0, 1) := by decide +kernel
theorem d_Model_others_348 : decode b_Model_others 348 = .ok (.iconst 1, 1) := by decide +kernel
theorem d_Model_others_349 : decode b_Model_others 349 = .ok (.iconst 5, 1) := by decide +kernel
theorem d_Model_others_350 : decode b_Model_others 350 = .ok (.invokevirtual 228, 3) := by decide +kernel
theorem d_Model_others_353 : decode b_Model_others 353 = .ok (.ireturn, 1) := by decide +kernel
theorem d_Model_others_354 : decode b_Model_others 354 = .ok (.iload_n 3, 1) := by decide +kernel
theorem d_Model_others_355 : decode b_Model_others 355 = .ok (.ifCond .lt 20, 3) := by decide +kernel
theorem d_Model_others_358 : decode b_Model_others 358 = .ok (.aload_n 0, 1) := by decide +kernel
theorem d_Model_others_359 : decode b_Model_others 359 = .ok (.getfield 164, 3) := by decide +kernel
theorem d_Model_others_362 : decode b_Model_others 362 = .ok (.i2l, 1) := by decide +kernel
theorem d_Model_others_363 : decode b_Model_others 363 = .ok (.iload_n 3, 1) := by decide +kernel
theorem d_Model_others_364 : decode b_Model_others 364 = .ok (.i2l, 1) := by decide +kernel
theorem d_Model_others_365 : decode b_Model_others 365 = .ok (.ladd, 1) := by decide +kernel
theorem d_Model_others_366 : decode b_Model_others 366 = .ok (.aload_n 0, 1) := by decide +kernel
theorem d_Model_others_367 : decode b_Model_others 367 = .ok (.getfield 89, 3) := by decide +kernel
theorem d_Model_others_370 : decode b_Model_others 370 = .ok (.i2l, 1) := by decide +kernel
theorem d_Model_others_371 : decode b_Model_others 371 = .ok (.lcmp, 1) := by decide +kernel
theorem d_Model_others_372 : decode b_Model_others 372 = .ok (.ifCond .le 13, 3) := by decide +kernel
theorem d_Model_others_375 : decode b_Model_others 375 = .ok (.iload_n 3, 1) := by decide +kernel
theorem d_Model_others_376 : decode b_Model_others 376 = .ok (.ifCond .ge 7, 3) := by decide +kernel
theorem d_Model_others_379 : decode b_Model_others 379 = .ok (.iconst 4, 1) := by decide +kernel
theorem d_Model_others_380 : decode b_Model_others 380 = .ok (.goto 4, 3) := by decide +kernel
theorem d_Model_others_383 : decode b_Model_others 383 = .ok (.iconst 3, 1) := by decide +kernel
theorem d_Model_others_384 : decode b_Model_others 384 = .ok (.ireturn, 1) := by decide +kernel
theorem d_Model_others_385 : decode b_Model_others 385 = .ok (.aload_n 0, 1) := by decide +kernel
theorem d_Model_others_386 : decode b_Model_others 386 = .ok (.dup, 1) := by decide +kernel
theorem d_Model_others_387 : decode b_Model_others 387 = .ok (.getfield 164, 3) := by decide +kernel
theorem d_Model_others_390 : decode b_Model_others 390 = .ok (.iload_n 3, 1) := by decide +kernel
theorem d_Model_others_391 : decode b_Model_others 391 = .ok (.iadd, 1) := by decide +kernel
theorem d_Model_others_392 : decode b_Model_others 392 = .ok (.putfield 164, 3) := by decide +kernel
theorem d_Model_others_395 : decode b_Model_others 395 = .ok (.aload_n 0, 1) := by decide +kernel
theorem d_Model_others_396 : decode b_Model_others 396 = .ok (.iconst 2, 1) := by decide +kernel
theorem d_Model_others_397 : decode b_Model_others 397 = .ok (.iconst 5, 1) := by decide +kernel
theorem d_Model_others_398 : decode b_Model_others 398 = .ok (.invokevirtual 228, 3) := by decide +kernel
theorem d_Model_others_401 : decode b_Model_others 401 = .ok (.ireturn, 1) := by decide +kernel
theorem d_Model_others_402 : decode b_Model_others 402 = .ok (.aload_n 0, 1) := by decide +kernel
theorem d_Model_others_403 : decode b_Model_others 403 = .ok (.iconst 2, 1) := by decide +kernel
theorem d_Model_others_404 : decode b_Model_others 404 = .ok (.aload_n 0, 1) := by decide +kernel
theorem d_Model_others_405 : decode b_Model_others 405 = .ok (.iload_n 3, 1) := by decide +kernel
theorem d_Model_others_406 : decode b_Model_others 406 = .ok (.invokevirtual 305, 3) := by decide +kernel
theorem d_Model_others_409 : decode b_Model_others 409 = .ok (.invokevirtual 228, 3) := by decide +kernel
