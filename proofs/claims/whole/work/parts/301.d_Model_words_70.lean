theorem d_Model_words_291 : decode b_Model_words 291 = .ok (.goto 5, 3) := by decide +kernel
theorem d_Model_words_294 : decode b_Model_words 294 = .ok (.ldc 211, 2) := by decide +kernel
theorem d_Model_words_296 : decode b_Model_words 296 = .ok (.istore_n 1, 1) := by decide +kernel
theorem d_Model_words_297 : decode b_Model_words 297 = .ok (.goto 3, 3) := by decide +kernel
theorem d_Model_words_300 : decode b_Model_words 300 = .ok (.aload_n 0, 1) := by decide +kernel
theorem d_Model_words_301 : decode b_Model_words 301 = .ok (.getfield 185, 3) := by decide +kernel
theorem d_Model_words_304 : decode b_Model_words 304 = .ok (.iload_n 1, 1) := by decide +kernel
theorem d_Model_words_305 : decode b_Model_words 305 = .ok (.iadd, 1) := by decide +kernel
theorem d_Model_words_306 : decode b_Model_words 306 = .ok (.aload_n 0, 1) := by decide +kernel
theorem d_Model_words_307 : decode b_Model_words 307 = .ok (.getfield 171, 3) := by decide +kernel
theorem d_Model_words_310 : decode b_Model_words 310 = .ok (.if_icmp .le 7, 3) := by decide +kernel
theorem d_Model_words_313 : decode b_Model_words 313 = .ok (.iconst 0, 1) := by decide +kernel
theorem d_Model_words_314 : decode b_Model_words 314 = .ok (.goto 4, 3) := by decide +kernel
theorem d_Model_words_317 : decode b_Model_words 317 = .ok (.iload_n 1, 1) := by decide +kernel
theorem d_Model_words_318 : decode b_Model_words 318 = .ok (.ireturn, 1) := by decide +kernel
