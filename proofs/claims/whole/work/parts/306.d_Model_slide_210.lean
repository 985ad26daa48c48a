theorem d_Model_slide_361 : decode b_Model_slide 361 = .ok (.iadd, 1) := by decide +kernel
theorem d_Model_slide_362 : decode b_Model_slide 362 = .ok (.aload_n 0, 1) := by decide +kernel
theorem d_Model_slide_363 : decode b_Model_slide 363 = .ok (.getfield 14, 3) := by decide +kernel
theorem d_Model_slide_366 : decode b_Model_slide 366 = .ok (.iload_n 2, 1) := by decide +kernel
theorem d_Model_slide_367 : decode b_Model_slide 367 = .ok (.iload 5, 2) := by decide +kernel
theorem d_Model_slide_369 : decode b_Model_slide 369 = .ok (.iadd, 1) := by decide +kernel
theorem d_Model_slide_370 : decode b_Model_slide 370 = .ok (.iaload, 1) := by decide +kernel
theorem d_Model_slide_371 : decode b_Model_slide 371 = .ok (.iastore, 1) := by decide +kernel
theorem d_Model_slide_372 : decode b_Model_slide 372 = .ok (.iinc 5 1, 3) := by decide +kernel
theorem d_Model_slide_375 : decode b_Model_slide 375 = .ok (.goto (-53), 3) := by decide +kernel
theorem d_Model_slide_378 : decode b_Model_slide 378 = .ok (.iload_n 2, 1) := by decide +kernel
theorem d_Model_slide_379 : decode b_Model_slide 379 = .ok (.iload_n 3, 1) := by decide +kernel
theorem d_Model_slide_380 : decode b_Model_slide 380 = .ok (.iadd, 1) := by decide +kernel
theorem d_Model_slide_381 : decode b_Model_slide 381 = .ok (.istore_n 2, 1) := by decide +kernel
theorem d_Model_slide_382 : decode b_Model_slide 382 = .ok (.goto (-92), 3) := by decide +kernel
theorem d_Model_slide_385 : decode b_Model_slide 385 = .ok (.aload_n 0, 1) := by decide +kernel
theorem d_Model_slide_386 : decode b_Model_slide 386 = .ok (.iload_n 1, 1) := by decide +kernel
theorem d_Model_slide_387 : decode b_Model_slide 387 = .ok (.putfield 125, 3) := by decide +kernel
theorem d_Model_slide_390 : decode b_Model_slide 390 = .ok (.return_, 1) := by decide +kernel
