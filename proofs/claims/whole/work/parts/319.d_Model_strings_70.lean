theorem d_Model_strings_201 : decode b_Model_strings 201 = .ok (.ifCond .lt 21, 3) := by decide +kernel
theorem d_Model_strings_204 : decode b_Model_strings 204 = .ok (.aload_n 0, 1) := by decide +kernel
theorem d_Model_strings_205 : decode b_Model_strings 205 = .ok (.iconst 1, 1) := by decide +kernel
theorem d_Model_strings_206 : decode b_Model_strings 206 = .ok (.invokevirtual 250, 3) := by decide +kernel
theorem d_Model_strings_209 : decode b_Model_strings 209 = .ok (.aload_n 0, 1) := by decide +kernel
theorem d_Model_strings_210 : decode b_Model_strings 210 = .ok (.getfield 14, 3) := by decide +kernel
theorem d_Model_strings_213 : decode b_Model_strings 213 = .ok (.aload_n 0, 1) := by decide +kernel
theorem d_Model_strings_214 : decode b_Model_strings 214 = .ok (.iconst 2, 1) := by decide +kernel
theorem d_Model_strings_215 : decode b_Model_strings 215 = .ok (.invokevirtual 250, 3) := by decide +kernel
theorem d_Model_strings_218 : decode b_Model_strings 218 = .ok (.iaload, 1) := by decide +kernel
theorem d_Model_strings_219 : decode b_Model_strings 219 = .ok (.if_icmp .lt 12, 3) := by decide +kernel
theorem d_Model_strings_222 : decode b_Model_strings 222 = .ok (.aload_n 0, 1) := by decide +kernel
theorem d_Model_strings_223 : decode b_Model_strings 223 = .ok (.iconst 2, 1) := by decide +kernel
theorem d_Model_strings_224 : decode b_Model_strings 224 = .ok (.iconst 4, 1) := by decide +kernel
theorem d_Model_strings_225 : decode b_Model_strings 225 = .ok (.invokevirtual 360, 3) := by decide +kernel
theorem d_Model_strings_228 : decode b_Model_strings 228 = .ok (.goto 28, 3) := by decide +kernel
theorem d_Model_strings_231 : decode b_Model_strings 231 = .ok (.aload_n 0, 1) := by decide +kernel
theorem d_Model_strings_232 : decode b_Model_strings 232 = .ok (.iconst 2, 1) := by decide +kernel
theorem d_Model_strings_233 : decode b_Model_strings 233 = .ok (.aload_n 0, 1) := by decide +kernel
theorem d_Model_strings_234 : decode b_Model_strings 234 = .ok (.iconst 2, 1) := by decide +kernel
theorem d_Model_strings_235 : decode b_Model_strings 235 = .ok (.iconst 0, 1) := by decide +kernel
theorem d_Model_strings_236 : decode b_Model_strings 236 = .ok (.aload_n 0, 1) := by decide +kernel
theorem d_Model_strings_237 : decode b_Model_strings 237 = .ok (.aload_n 0, 1) := by decide +kernel
theorem d_Model_strings_238 : decode b_Model_strings 238 = .ok (.iconst 2, 1) := by decide +kernel
theorem d_Model_strings_239 : decode b_Model_strings 239 = .ok (.invokevirtual 250, 3) := by decide +kernel
theorem d_Model_strings_242 : decode b_Model_strings 242 = .ok (.aload_n 0, 1) := by decide +kernel
theorem d_Model_strings_243 : decode b_Model_strings 243 = .ok (.iconst 1, 1) := by decide +kernel
theorem d_Model_strings_244 : decode b_Model_strings 244 = .ok (.invokevirtual 250, 3) := by decide +kernel
theorem d_Model_strings_247 : decode b_Model_strings 247 = .ok (.invokevirtual 350, 3) := by decide +kernel
theorem d_Model_strings_250 : decode b_Model_strings 250 = .ok (.invokevirtual 207, 3) := by decide +kernel
theorem d_Model_strings_253 : decode b_Model_strings 253 = .ok (.invokevirtual 228, 3) := by decide +kernel
theorem d_Model_strings_256 : decode b_Model_strings 256 = .ok (.ireturn, 1) := by decide +kernel
theorem d_Model_strings_257 : decode b_Model_strings 257 = .ok (.aload_n 0, 1) := by decide +kernel
theorem d_Model_strings_258 : decode b_Model_strings 258 = .ok (.iconst 2, 1) := by decide +kernel
theorem d_Model_strings_259 : decode b_Model_strings 259 = .ok (.aload_n 0, 1) := by decide +kernel
theorem d_Model_strings_260 : decode b_Model_strings 260 = .ok (.iconst 1, 1) := by decide +kernel
theorem d_Model_strings_261 : decode b_Model_strings 261 = .ok (.bipush 6, 2) := by decide +kernel
theorem d_Model_strings_263 : decode b_Model_strings 263 = .ok (.invokevirtual 246, 3) := by decide +kernel
theorem d_Model_strings_266 : decode b_Model_strings 266 = .ok (.ifCond .eq 10, 3) := by decide +kernel
theorem d_Model_strings_269 : decode b_Model_strings 269 = .ok (.aload_n 0, 1) := by decide +kernel
theorem d_Model_strings_270 : decode b_Model_strings 270 = .ok (.invokevirtual 392, 3) := by decide +kernel
theorem d_Model_strings_273 : decode b_Model_strings 273 = .ok (.goto 4, 3) := by decide +kernel
theorem d_Model_strings_276 : decode b_Model_strings 276 = .ok (.iconst 4, 1) := by decide +kernel
theorem d_Model_strings_277 : decode b_Model_strings 277 = .ok (.invokevirtual 228, 3) := by decide +kernel
theorem d_Model_strings_280 : decode b_Model_strings 280 = .ok (.ireturn, 1) := by decide +kernel
theorem d_Model_strings_281 : decode b_Model_strings 281 = .ok (.aload_n 0, 1) := by decide +kernel
theorem d_Model_strings_282 : decode b_Model_strings 282 = .ok (.invokevirtual 395, 3) := by decide +kernel
theorem d_Model_strings_285 : decode b_Model_strings 285 = .ok (.ireturn, 1) := by decide +kernel
theorem d_Model_strings_286 : decode b_Model_strings 286 = .ok (.aload_n 0, 1) := by decide +kernel
theorem d_Model_strings_287 : decode b_Model_strings 287 = .ok (.iconst 2, 1) := by decide +kernel
theorem d_Model_strings_288 : decode b_Model_strings 288 = .ok (.aload_n 0, 1) := by decide +kernel
theorem d_Model_strings_289 : decode b_Model_strings 289 = .ok (.iconst 1, 1) := by decide +kernel
theorem d_Model_strings_290 : decode b_Model_strings 290 = .ok (.bipush 6, 2) := by decide +kernel
theorem d_Model_strings_292 : decode b_Model_strings 292 = .ok (.invokevirtual 246, 3) := by decide +kernel
theorem d_Model_strings_295 : decode b_Model_strings 295 = .ok (.ifCond .eq 10, 3) := by decide +kernel
theorem d_Model_strings_298 : decode b_Model_strings 298 = .ok (.aload_n 0, 1) := by decide +kernel
theorem d_Model_strings_299 : decode b_Model_strings 299 = .ok (.invokevirtual 398, 3) := by decide +kernel
theorem d_Model_strings_302 : decode b_Model_strings 302 = .ok (.goto 4, 3) := by decide +kernel
theorem d_Model_strings_305 : decode b_Model_strings 305 = .ok (.iconst 4, 1) := by decide +kernel
theorem d_Model_strings_306 : decode b_Model_strings 306 = .ok (.invokevirtual 228, 3) := by decide +kernel
theorem d_Model_strings_309 : decode b_Model_strings 309 = .ok (.ireturn, 1) := by decide +kernel
theorem d_Model_strings_310 : decode b_Model_strings 310 = .ok (.aload_n 0, 1) := by decide +kernel
theorem d_Model_strings_311 : decode b_Model_strings 311 = .ok (.iconst 2, 1) := by decide +kernel
theorem d_Model_strings_312 : decode b_Model_strings 312 = .ok (.aload_n 0, 1) := by decide +kernel
theorem d_Model_strings_313 : decode b_Model_strings 313 = .ok (.iconst 1, 1) := by decide +kernel
theorem d_Model_strings_314 : decode b_Model_strings 314 = .ok (.bipush 6, 2) := by decide +kernel
theorem d_Model_strings_316 : decode b_Model_strings 316 = .ok (.invokevirtual 246, 3) := by decide +kernel
theorem d_Model_strings_319 : decode b_Model_strings 319 = .ok (.ifCond .eq 40, 3) := by decide +kernel
theorem d_Model_strings_322 : decode b_Model_strings 322 = .ok (.aload_n 0, 1) := by decide +kernel
theorem d_Model_strings_323 : decode b_Model_strings 323 = .ok (.iconst 2, 1) := by decide +kernel
