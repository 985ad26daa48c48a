theorem d_Model_instruction_230 : decode b_Model_instruction 230 = .ok (.aload_n 0, 1) := by decide +kernel
theorem d_Model_instruction_231 : decode b_Model_instruction 231 = .ok (.iload_n 3, 1) := by decide +kernel
theorem d_Model_instruction_232 : decode b_Model_instruction 232 = .ok (.invokevirtual 231, 3) := by decide +kernel
theorem d_Model_instruction_235 : decode b_Model_instruction 235 = .ok (.invokevirtual 228, 3) := by decide +kernel
theorem d_Model_instruction_238 : decode b_Model_instruction 238 = .ok (.ireturn, 1) := by decide +kernel
theorem d_Model_instruction_239 : decode b_Model_instruction 239 = .ok (.aload_n 0, 1) := by decide +kernel
theorem d_Model_instruction_240 : decode b_Model_instruction 240 = .ok (.iconst 2, 1) := by decide +kernel
theorem d_Model_instruction_241 : decode b_Model_instruction 241 = .ok (.iload_n 3, 1) := by decide +kernel
theorem d_Model_instruction_242 : decode b_Model_instruction 242 = .ok (.ifCond .lt 18, 3) := by decide +kernel
theorem d_Model_instruction_245 : decode b_Model_instruction 245 = .ok (.iload_n 3, 1) := by decide +kernel
theorem d_Model_instruction_246 : decode b_Model_instruction 246 = .ok (.aload_n 0, 1) := by decide +kernel
theorem d_Model_instruction_247 : decode b_Model_instruction 247 = .ok (.getfield 56, 3) := by decide +kernel
theorem d_Model_instruction_250 : decode b_Model_instruction 250 = .ok (.aload_n 0, 1) := by decide +kernel
theorem d_Model_instruction_251 : decode b_Model_instruction 251 = .ok (.getfield 142, 3) := by decide +kernel
theorem d_Model_instruction_254 : decode b_Model_instruction 254 = .ok (.iconst 1, 1) := by decide +kernel
theorem d_Model_instruction_255 : decode b_Model_instruction 255 = .ok (.isub, 1) := by decide +kernel
theorem d_Model_instruction_256 : decode b_Model_instruction 256 = .ok (.iaload, 1) := by decide +kernel
theorem d_Model_instruction_257 : decode b_Model_instruction 257 = .ok (.if_icmp .lt 7, 3) := by decide +kernel
theorem d_Model_instruction_260 : decode b_Model_instruction 260 = .ok (.iconst 4, 1) := by decide +kernel
theorem d_Model_instruction_261 : decode b_Model_instruction 261 = .ok (.goto 43, 3) := by decide +kernel
theorem d_Model_instruction_264 : decode b_Model_instruction 264 = .ok (.aload_n 0, 1) := by decide +kernel
theorem d_Model_instruction_265 : decode b_Model_instruction 265 = .ok (.aload_n 0, 1) := by decide +kernel
theorem d_Model_instruction_266 : decode b_Model_instruction 266 = .ok (.getfield 63, 3) := by decide +kernel
theorem d_Model_instruction_269 : decode b_Model_instruction 269 = .ok (.aload_n 0, 1) := by decide +kernel
theorem d_Model_instruction_270 : decode b_Model_instruction 270 = .ok (.getfield 53, 3) := by decide +kernel
theorem d_Model_instruction_273 : decode b_Model_instruction 273 = .ok (.aload_n 0, 1) := by decide +kernel
theorem d_Model_instruction_274 : decode b_Model_instruction 274 = .ok (.getfield 142, 3) := by decide +kernel
theorem d_Model_instruction_277 : decode b_Model_instruction 277 = .ok (.iconst 1, 1) := by decide +kernel
theorem d_Model_instruction_278 : decode b_Model_instruction 278 = .ok (.isub, 1) := by decide +kernel
theorem d_Model_instruction_279 : decode b_Model_instruction 279 = .ok (.iaload, 1) := by decide +kernel
theorem d_Model_instruction_280 : decode b_Model_instruction 280 = .ok (.iload_n 3, 1) := by decide +kernel
theorem d_Model_instruction_281 : decode b_Model_instruction 281 = .ok (.iadd, 1) := by decide +kernel
theorem d_Model_instruction_282 : decode b_Model_instruction 282 = .ok (.iaload, 1) := by decide +kernel
theorem d_Model_instruction_283 : decode b_Model_instruction 283 = .ok (.aload_n 0, 1) := by decide +kernel
theorem d_Model_instruction_284 : decode b_Model_instruction 284 = .ok (.getfield 66, 3) := by decide +kernel
theorem d_Model_instruction_287 : decode b_Model_instruction 287 = .ok (.aload_n 0, 1) := by decide +kernel
theorem d_Model_instruction_288 : decode b_Model_instruction 288 = .ok (.getfield 53, 3) := by decide +kernel
theorem d_Model_instruction_291 : decode b_Model_instruction 291 = .ok (.aload_n 0, 1) := by decide +kernel
theorem d_Model_instruction_292 : decode b_Model_instruction 292 = .ok (.getfield 142, 3) := by decide +kernel
theorem d_Model_instruction_295 : decode b_Model_instruction 295 = .ok (.iconst 1, 1) := by decide +kernel
theorem d_Model_instruction_296 : decode b_Model_instruction 296 = .ok (.isub, 1) := by decide +kernel
theorem d_Model_instruction_297 : decode b_Model_instruction 297 = .ok (.iaload, 1) := by decide +kernel
theorem d_Model_instruction_298 : decode b_Model_instruction 298 = .ok (.iload_n 3, 1) := by decide +kernel
theorem d_Model_instruction_299 : decode b_Model_instruction 299 = .ok (.iadd, 1) := by decide +kernel
theorem d_Model_instruction_300 : decode b_Model_instruction 300 = .ok (.iaload, 1) := by decide +kernel
theorem d_Model_instruction_301 : decode b_Model_instruction 301 = .ok (.invokevirtual 225, 3) := by decide +kernel
theorem d_Model_instruction_304 : decode b_Model_instruction 304 = .ok (.invokevirtual 228, 3) := by decide +kernel
theorem d_Model_instruction_307 : decode b_Model_instruction 307 = .ok (.ireturn, 1) := by decide +kernel
theorem d_Model_instruction_308 : decode b_Model_instruction 308 = .ok (.aload_n 0, 1) := by decide +kernel
theorem d_Model_instruction_309 : decode b_Model_instruction 309 = .ok (.iconst 2, 1) := by decide +kernel
theorem d_Model_instruction_310 : decode b_Model_instruction 310 = .ok (.aload_n 0, 1) := by decide +kernel
theorem d_Model_instruction_311 : decode b_Model_instruction 311 = .ok (.iload_n 3, 1) := by decide +kernel
theorem d_Model_instruction_312 : decode b_Model_instruction 312 = .ok (.invokevirtual 234, 3) := by decide +kernel
theorem d_Model_instruction_315 : decode b_Model_instruction 315 = .ok (.invokevirtual 228, 3) := by decide +kernel
theorem d_Model_instruction_318 : decode b_Model_instruction 318 = .ok (.ireturn, 1) := by decide +kernel
theorem d_Model_instruction_319 : decode b_Model_instruction 319 = .ok (.aload_n 0, 1) := by decide +kernel
theorem d_Model_instruction_320 : decode b_Model_instruction 320 = .ok (.iconst 2, 1) := by decide +kernel
theorem d_Model_instruction_321 : decode b_Model_instruction 321 = .ok (.aload_n 0, 1) := by decide +kernel
theorem d_Model_instruction_322 : decode b_Model_instruction 322 = .ok (.iload_n 3, 1) := by decide +kernel
theorem d_Model_instruction_323 : decode b_Model_instruction 323 = .ok (.invokevirtual 237, 3) := by decide +kernel
theorem d_Model_instruction_326 : decode b_Model_instruction 326 = .ok (.invokevirtual 228, 3) := by decide +kernel
theorem d_Model_instruction_329 : decode b_Model_instruction 329 = .ok (.ireturn, 1) := by decide +kernel
theorem d_Model_instruction_330 : decode b_Model_instruction 330 = .ok (.aload_n 0, 1) := by decide +kernel
theorem d_Model_instruction_331 : decode b_Model_instruction 331 = .ok (.iconst 2, 1) := by decide +kernel
theorem d_Model_instruction_332 : decode b_Model_instruction 332 = .ok (.iload_n 3, 1) := by decide +kernel
theorem d_Model_instruction_333 : decode b_Model_instruction 333 = .ok (.ifCond .lt 10, 3) := by decide +kernel
theorem d_Model_instruction_336 : decode b_Model_instruction 336 = .ok (.iload_n 3, 1) := by decide +kernel
theorem d_Model_instruction_337 : decode b_Model_instruction 337 = .ok (.sipush 2048, 3) := by decide +kernel
theorem d_Model_instruction_340 : decode b_Model_instruction 340 = .ok (.if_icmp .lt 7, 3) := by decide +kernel
theorem d_Model_instruction_343 : decode b_Model_instruction 343 = .ok (.iconst 4, 1) := by decide +kernel
