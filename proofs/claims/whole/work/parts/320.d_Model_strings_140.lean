theorem d_Model_strings_324 : decode b_Model_strings 324 = .ok (.bipush 6, 2) := by decide +kernel
theorem d_Model_strings_326 : decode b_Model_strings 326 = .ok (.invokevirtual 246, 3) := by decide +kernel
theorem d_Model_strings_329 : decode b_Model_strings 329 = .ok (.ifCond .eq 30, 3) := by decide +kernel
theorem d_Model_strings_332 : decode b_Model_strings 332 = .ok (.aload_n 0, 1) := by decide +kernel
theorem d_Model_strings_333 : decode b_Model_strings 333 = .ok (.iconst 2, 1) := by decide +kernel
theorem d_Model_strings_334 : decode b_Model_strings 334 = .ok (.iconst 0, 1) := by decide +kernel
theorem d_Model_strings_335 : decode b_Model_strings 335 = .ok (.iload_n 1, 1) := by decide +kernel
theorem d_Model_strings_336 : decode b_Model_strings 336 = .ok (.aload_n 0, 1) := by decide +kernel
theorem d_Model_strings_337 : decode b_Model_strings 337 = .ok (.aload_n 0, 1) := by decide +kernel
theorem d_Model_strings_338 : decode b_Model_strings 338 = .ok (.iconst 2, 1) := by decide +kernel
theorem d_Model_strings_339 : decode b_Model_strings 339 = .ok (.invokevirtual 250, 3) := by decide +kernel
theorem d_Model_strings_342 : decode b_Model_strings 342 = .ok (.aload_n 0, 1) := by decide +kernel
theorem d_Model_strings_343 : decode b_Model_strings 343 = .ok (.iconst 1, 1) := by decide +kernel
theorem d_Model_strings_344 : decode b_Model_strings 344 = .ok (.invokevirtual 250, 3) := by decide +kernel
theorem d_Model_strings_347 : decode b_Model_strings 347 = .ok (.invokevirtual 344, 3) := by decide +kernel
theorem d_Model_strings_350 : decode b_Model_strings 350 = .ok (.invokestatic 401, 3) := by decide +kernel
theorem d_Model_strings_353 : decode b_Model_strings 353 = .ok (.invokevirtual 207, 3) := by decide +kernel
theorem d_Model_strings_356 : decode b_Model_strings 356 = .ok (.goto 4, 3) := by decide +kernel
theorem d_Model_strings_359 : decode b_Model_strings 359 = .ok (.iconst 4, 1) := by decide +kernel
theorem d_Model_strings_360 : decode b_Model_strings 360 = .ok (.invokevirtual 228, 3) := by decide +kernel
theorem d_Model_strings_363 : decode b_Model_strings 363 = .ok (.ireturn, 1) := by decide +kernel
