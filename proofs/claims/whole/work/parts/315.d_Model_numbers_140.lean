theorem d_Model_numbers_247 : decode b_Model_numbers 247 = .ok (.bipush 39, 2) := by decide +kernel
theorem d_Model_numbers_249 : decode b_Model_numbers 249 = .ok (.if_icmp .ne 24, 3) := by decide +kernel
theorem d_Model_numbers_252 : decode b_Model_numbers 252 = .ok (.iload 4, 2) := by decide +kernel
theorem d_Model_numbers_254 : decode b_Model_numbers 254 = .ok (.ifCond .lt 11, 3) := by decide +kernel
theorem d_Model_numbers_257 : decode b_Model_numbers 257 = .ok (.iload 4, 2) := by decide +kernel
theorem d_Model_numbers_259 : decode b_Model_numbers 259 = .ok (.sipush 255, 3) := by decide +kernel
theorem d_Model_numbers_262 : decode b_Model_numbers 262 = .ok (.if_icmp .le 11, 3) := by decide +kernel
theorem d_Model_numbers_265 : decode b_Model_numbers 265 = .ok (.aload_n 0, 1) := by decide +kernel
theorem d_Model_numbers_266 : decode b_Model_numbers 266 = .ok (.iconst 1, 1) := by decide +kernel
theorem d_Model_numbers_267 : decode b_Model_numbers 267 = .ok (.bipush 6, 2) := by decide +kernel
theorem d_Model_numbers_269 : decode b_Model_numbers 269 = .ok (.invokevirtual 360, 3) := by decide +kernel
theorem d_Model_numbers_272 : decode b_Model_numbers 272 = .ok (.ireturn, 1) := by decide +kernel
theorem d_Model_numbers_273 : decode b_Model_numbers 273 = .ok (.aload_n 0, 1) := by decide +kernel
theorem d_Model_numbers_274 : decode b_Model_numbers 274 = .ok (.iconst 2, 1) := by decide +kernel
theorem d_Model_numbers_275 : decode b_Model_numbers 275 = .ok (.aload_n 0, 1) := by decide +kernel
theorem d_Model_numbers_276 : decode b_Model_numbers 276 = .ok (.iload 5, 2) := by decide +kernel
theorem d_Model_numbers_278 : decode b_Model_numbers 278 = .ok (.iconst 0, 1) := by decide +kernel
theorem d_Model_numbers_279 : decode b_Model_numbers 279 = .ok (.iload_n 1, 1) := by decide +kernel
theorem d_Model_numbers_280 : decode b_Model_numbers 280 = .ok (.iload 4, 2) := by decide +kernel
theorem d_Model_numbers_282 : decode b_Model_numbers 282 = .ok (.iload_n 3, 1) := by decide +kernel
theorem d_Model_numbers_283 : decode b_Model_numbers 283 = .ok (.invokestatic 372, 3) := by decide +kernel
theorem d_Model_numbers_286 : decode b_Model_numbers 286 = .ok (.invokevirtual 207, 3) := by decide +kernel
theorem d_Model_numbers_289 : decode b_Model_numbers 289 = .ok (.invokevirtual 228, 3) := by decide +kernel
theorem d_Model_numbers_292 : decode b_Model_numbers 292 = .ok (.ireturn, 1) := by decide +kernel
