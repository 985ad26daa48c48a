theorem d_Model_slide_246 : decode b_Model_slide 246 = .ok (.aload_n 0, 1) := by decide +kernel
theorem d_Model_slide_247 : decode b_Model_slide 247 = .ok (.getfield 17, 3) := by decide +kernel
theorem d_Model_slide_250 : decode b_Model_slide 250 = .ok (.aload_n 0, 1) := by decide +kernel
theorem d_Model_slide_251 : decode b_Model_slide 251 = .ok (.getfield 14, 3) := by decide +kernel
theorem d_Model_slide_254 : decode b_Model_slide 254 = .ok (.iload_n 2, 1) := by decide +kernel
theorem d_Model_slide_255 : decode b_Model_slide 255 = .ok (.iload_n 3, 1) := by decide +kernel
theorem d_Model_slide_256 : decode b_Model_slide 256 = .ok (.iadd, 1) := by decide +kernel
theorem d_Model_slide_257 : decode b_Model_slide 257 = .ok (.iaload, 1) := by decide +kernel
theorem d_Model_slide_258 : decode b_Model_slide 258 = .ok (.iaload, 1) := by decide +kernel
theorem d_Model_slide_259 : decode b_Model_slide 259 = .ok (.goto 11, 3) := by decide +kernel
theorem d_Model_slide_262 : decode b_Model_slide 262 = .ok (.aload_n 0, 1) := by decide +kernel
theorem d_Model_slide_263 : decode b_Model_slide 263 = .ok (.getfield 14, 3) := by decide +kernel
theorem d_Model_slide_266 : decode b_Model_slide 266 = .ok (.iload_n 2, 1) := by decide +kernel
theorem d_Model_slide_267 : decode b_Model_slide 267 = .ok (.iload_n 3, 1) := by decide +kernel
theorem d_Model_slide_268 : decode b_Model_slide 268 = .ok (.iadd, 1) := by decide +kernel
theorem d_Model_slide_269 : decode b_Model_slide 269 = .ok (.iaload, 1) := by decide +kernel
theorem d_Model_slide_270 : decode b_Model_slide 270 = .ok (.iastore, 1) := by decide +kernel
theorem d_Model_slide_271 : decode b_Model_slide 271 = .ok (.iinc 3 1, 3) := by decide +kernel
theorem d_Model_slide_274 : decode b_Model_slide 274 = .ok (.goto (-66), 3) := by decide +kernel
theorem d_Model_slide_277 : decode b_Model_slide 277 = .ok (.iload_n 2, 1) := by decide +kernel
theorem d_Model_slide_278 : decode b_Model_slide 278 = .ok (.aload_n 0, 1) := by decide +kernel
theorem d_Model_slide_279 : decode b_Model_slide 279 = .ok (.iload_n 2, 1) := by decide +kernel
theorem d_Model_slide_280 : decode b_Model_slide 280 = .ok (.invokevirtual 115, 3) := by decide +kernel
theorem d_Model_slide_283 : decode b_Model_slide 283 = .ok (.iadd, 1) := by decide +kernel
theorem d_Model_slide_284 : decode b_Model_slide 284 = .ok (.istore_n 2, 1) := by decide +kernel
theorem d_Model_slide_285 : decode b_Model_slide 285 = .ok (.goto (-87), 3) := by decide +kernel
theorem d_Model_slide_288 : decode b_Model_slide 288 = .ok (.iconst 0, 1) := by decide +kernel
theorem d_Model_slide_289 : decode b_Model_slide 289 = .ok (.istore_n 2, 1) := by decide +kernel
theorem d_Model_slide_290 : decode b_Model_slide 290 = .ok (.iload_n 2, 1) := by decide +kernel
theorem d_Model_slide_291 : decode b_Model_slide 291 = .ok (.aload_n 0, 1) := by decide +kernel
theorem d_Model_slide_292 : decode b_Model_slide 292 = .ok (.getfield 125, 3) := by decide +kernel
theorem d_Model_slide_295 : decode b_Model_slide 295 = .ok (.if_icmp .ge 90, 3) := by decide +kernel
theorem d_Model_slide_298 : decode b_Model_slide 298 = .ok (.aload_n 0, 1) := by decide +kernel
theorem d_Model_slide_299 : decode b_Model_slide 299 = .ok (.iload_n 2, 1) := by decide +kernel
theorem d_Model_slide_300 : decode b_Model_slide 300 = .ok (.invokevirtual 115, 3) := by decide +kernel
theorem d_Model_slide_303 : decode b_Model_slide 303 = .ok (.istore_n 3, 1) := by decide +kernel
theorem d_Model_slide_304 : decode b_Model_slide 304 = .ok (.aload_n 0, 1) := by decide +kernel
theorem d_Model_slide_305 : decode b_Model_slide 305 = .ok (.getfield 17, 3) := by decide +kernel
theorem d_Model_slide_308 : decode b_Model_slide 308 = .ok (.iload_n 2, 1) := by decide +kernel
theorem d_Model_slide_309 : decode b_Model_slide 309 = .ok (.iaload, 1) := by decide +kernel
theorem d_Model_slide_310 : decode b_Model_slide 310 = .ok (.istore 4, 2) := by decide +kernel
theorem d_Model_slide_312 : decode b_Model_slide 312 = .ok (.aload_n 0, 1) := by decide +kernel
theorem d_Model_slide_313 : decode b_Model_slide 313 = .ok (.getfield 17, 3) := by decide +kernel
theorem d_Model_slide_316 : decode b_Model_slide 316 = .ok (.iload_n 2, 1) := by decide +kernel
theorem d_Model_slide_317 : decode b_Model_slide 317 = .ok (.iconst (-1), 1) := by decide +kernel
theorem d_Model_slide_318 : decode b_Model_slide 318 = .ok (.iastore, 1) := by decide +kernel
theorem d_Model_slide_319 : decode b_Model_slide 319 = .ok (.iconst 0, 1) := by decide +kernel
theorem d_Model_slide_320 : decode b_Model_slide 320 = .ok (.istore 5, 2) := by decide +kernel
theorem d_Model_slide_322 : decode b_Model_slide 322 = .ok (.iload 5, 2) := by decide +kernel
theorem d_Model_slide_324 : decode b_Model_slide 324 = .ok (.iload_n 3, 1) := by decide +kernel
theorem d_Model_slide_325 : decode b_Model_slide 325 = .ok (.if_icmp .ge 53, 3) := by decide +kernel
theorem d_Model_slide_328 : decode b_Model_slide 328 = .ok (.iload 4, 2) := by decide +kernel
theorem d_Model_slide_330 : decode b_Model_slide 330 = .ok (.iconst (-1), 1) := by decide +kernel
theorem d_Model_slide_331 : decode b_Model_slide 331 = .ok (.if_icmp .eq 47, 3) := by decide +kernel
theorem d_Model_slide_334 : decode b_Model_slide 334 = .ok (.aload_n 0, 1) := by decide +kernel
theorem d_Model_slide_335 : decode b_Model_slide 335 = .ok (.getfield 10, 3) := by decide +kernel
theorem d_Model_slide_338 : decode b_Model_slide 338 = .ok (.iload 4, 2) := by decide +kernel
theorem d_Model_slide_340 : decode b_Model_slide 340 = .ok (.iload 5, 2) := by decide +kernel
theorem d_Model_slide_342 : decode b_Model_slide 342 = .ok (.iadd, 1) := by decide +kernel
theorem d_Model_slide_343 : decode b_Model_slide 343 = .ok (.aload_n 0, 1) := by decide +kernel
theorem d_Model_slide_344 : decode b_Model_slide 344 = .ok (.getfield 10, 3) := by decide +kernel
theorem d_Model_slide_347 : decode b_Model_slide 347 = .ok (.iload_n 2, 1) := by decide +kernel
theorem d_Model_slide_348 : decode b_Model_slide 348 = .ok (.iload 5, 2) := by decide +kernel
theorem d_Model_slide_350 : decode b_Model_slide 350 = .ok (.iadd, 1) := by decide +kernel
theorem d_Model_slide_351 : decode b_Model_slide 351 = .ok (.iaload, 1) := by decide +kernel
theorem d_Model_slide_352 : decode b_Model_slide 352 = .ok (.iastore, 1) := by decide +kernel
theorem d_Model_slide_353 : decode b_Model_slide 353 = .ok (.aload_n 0, 1) := by decide +kernel
theorem d_Model_slide_354 : decode b_Model_slide 354 = .ok (.getfield 14, 3) := by decide +kernel
theorem d_Model_slide_357 : decode b_Model_slide 357 = .ok (.iload 4, 2) := by decide +kernel
theorem d_Model_slide_359 : decode b_Model_slide 359 = .ok (.iload 5, 2) := by decide +kernel
