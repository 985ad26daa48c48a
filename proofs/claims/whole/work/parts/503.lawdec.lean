theorem d_law_242 : decode b_law 242 = .ok (.iadd, 1) := by decide +kernel
theorem d_law_243 : decode b_law 243 = .ok (.iaload, 1) := by decide +kernel
theorem d_law_244 : decode b_law 244 = .ok (.aload_n 0, 1) := by decide +kernel
theorem d_law_245 : decode b_law 245 = .ok (.iload_n 3, 1) := by decide +kernel
theorem d_law_246 : decode b_law 246 = .ok (.iconst 2, 1) := by decide +kernel
theorem d_law_247 : decode b_law 247 = .ok (.iadd, 1) := by decide +kernel
theorem d_law_248 : decode b_law 248 = .ok (.iaload, 1) := by decide +kernel
theorem d_law_249 : decode b_law 249 = .ok (.invokevirtual 38, 3) := by decide +kernel
theorem d_law_252 : decode b_law 252 = .ok (.if_icmp .eq 440, 3) := by decide +kernel
theorem d_law_255 : decode b_law 255 = .ok (.iconst 0, 1) := by decide +kernel
theorem d_law_256 : decode b_law 256 = .ok (.ireturn, 1) := by decide +kernel
theorem d_law_257 : decode b_law 257 = .ok (.aload_n 1, 1) := by decide +kernel
theorem d_law_258 : decode b_law 258 = .ok (.aload_n 0, 1) := by decide +kernel
theorem d_law_259 : decode b_law 259 = .ok (.iload_n 3, 1) := by decide +kernel
theorem d_law_260 : decode b_law 260 = .ok (.iconst 1, 1) := by decide +kernel
theorem d_law_261 : decode b_law 261 = .ok (.iadd, 1) := by decide +kernel
theorem d_law_262 : decode b_law 262 = .ok (.iaload, 1) := by decide +kernel
theorem d_law_263 : decode b_law 263 = .ok (.invokevirtual 39, 3) := by decide +kernel
theorem d_law_266 : decode b_law 266 = .ok (.aload_n 2, 1) := by decide +kernel
theorem d_law_267 : decode b_law 267 = .ok (.aload_n 0, 1) := by decide +kernel
theorem d_law_268 : decode b_law 268 = .ok (.iload_n 3, 1) := by decide +kernel
theorem d_law_269 : decode b_law 269 = .ok (.iconst 1, 1) := by decide +kernel
theorem d_law_270 : decode b_law 270 = .ok (.iadd, 1) := by decide +kernel
theorem d_law_271 : decode b_law 271 = .ok (.iaload, 1) := by decide +kernel
theorem d_law_272 : decode b_law 272 = .ok (.invokevirtual 42, 3) := by decide +kernel
theorem d_law_275 : decode b_law 275 = .ok (.if_icmp .eq 417, 3) := by decide +kernel
theorem d_law_278 : decode b_law 278 = .ok (.iconst 0, 1) := by decide +kernel
theorem d_law_279 : decode b_law 279 = .ok (.ireturn, 1) := by decide +kernel
theorem d_law_280 : decode b_law 280 = .ok (.aload_n 1, 1) := by decide +kernel
theorem d_law_281 : decode b_law 281 = .ok (.aload_n 0, 1) := by decide +kernel
theorem d_law_282 : decode b_law 282 = .ok (.iload_n 3, 1) := by decide +kernel
theorem d_law_283 : decode b_law 283 = .ok (.iconst 1, 1) := by decide +kernel
theorem d_law_284 : decode b_law 284 = .ok (.iadd, 1) := by decide +kernel
theorem d_law_285 : decode b_law 285 = .ok (.iaload, 1) := by decide +kernel
theorem d_law_286 : decode b_law 286 = .ok (.aload_n 0, 1) := by decide +kernel
theorem d_law_287 : decode b_law 287 = .ok (.iload_n 3, 1) := by decide +kernel
theorem d_law_288 : decode b_law 288 = .ok (.iconst 2, 1) := by decide +kernel
theorem d_law_289 : decode b_law 289 = .ok (.iadd, 1) := by decide +kernel
theorem d_law_290 : decode b_law 290 = .ok (.iaload, 1) := by decide +kernel
theorem d_law_291 : decode b_law 291 = .ok (.i2l, 1) := by decide +kernel
theorem d_law_292 : decode b_law 292 = .ok (.bipush 32, 2) := by decide +kernel
theorem d_law_294 : decode b_law 294 = .ok (.lshl, 1) := by decide +kernel
theorem d_law_295 : decode b_law 295 = .ok (.aload_n 0, 1) := by decide +kernel
theorem d_law_296 : decode b_law 296 = .ok (.iload_n 3, 1) := by decide +kernel
theorem d_law_297 : decode b_law 297 = .ok (.iconst 3, 1) := by decide +kernel
theorem d_law_298 : decode b_law 298 = .ok (.iadd, 1) := by decide +kernel
theorem d_law_299 : decode b_law 299 = .ok (.iaload, 1) := by decide +kernel
theorem d_law_300 : decode b_law 300 = .ok (.i2l, 1) := by decide +kernel
theorem d_law_301 : decode b_law 301 = .ok (.ldc2_w 22, 3) := by decide +kernel
theorem d_law_304 : decode b_law 304 = .ok (.land, 1) := by decide +kernel
theorem d_law_305 : decode b_law 305 = .ok (.lor, 1) := by decide +kernel
theorem d_law_306 : decode b_law 306 = .ok (.aload_n 0, 1) := by decide +kernel
theorem d_law_307 : decode b_law 307 = .ok (.iload_n 3, 1) := by decide +kernel
theorem d_law_308 : decode b_law 308 = .ok (.iconst 4, 1) := by decide +kernel
theorem d_law_309 : decode b_law 309 = .ok (.iadd, 1) := by decide +kernel
theorem d_law_310 : decode b_law 310 = .ok (.iaload, 1) := by decide +kernel
theorem d_law_311 : decode b_law 311 = .ok (.invokevirtual 43, 3) := by decide +kernel
theorem d_law_314 : decode b_law 314 = .ok (.aload_n 2, 1) := by decide +kernel
theorem d_law_315 : decode b_law 315 = .ok (.aload_n 0, 1) := by decide +kernel
theorem d_law_316 : decode b_law 316 = .ok (.iload_n 3, 1) := by decide +kernel
