theorem d_Model_others_179 : decode b_Model_others 179 = .ok (.iload_n 3, 1) := by decide +kernel
theorem d_Model_others_180 : decode b_Model_others 180 = .ok (.invokevirtual 290, 3) := by decide +kernel
theorem d_Model_others_183 : decode b_Model_others 183 = .ok (.invokevirtual 228, 3) := by decide +kernel
theorem d_Model_others_186 : decode b_Model_others 186 = .ok (.ireturn, 1) := by decide +kernel
theorem d_Model_others_187 : decode b_Model_others 187 = .ok (.aload_n 0, 1) := by decide +kernel
theorem d_Model_others_188 : decode b_Model_others 188 = .ok (.iconst 1, 1) := by decide +kernel
theorem d_Model_others_189 : decode b_Model_others 189 = .ok (.aload_n 0, 1) := by decide +kernel
theorem d_Model_others_190 : decode b_Model_others 190 = .ok (.invokevirtual 293, 3) := by decide +kernel
theorem d_Model_others_193 : decode b_Model_others 193 = .ok (.invokevirtual 228, 3) := by decide +kernel
theorem d_Model_others_196 : decode b_Model_others 196 = .ok (.ireturn, 1) := by decide +kernel
theorem d_Model_others_197 : decode b_Model_others 197 = .ok (.aload_n 0, 1) := by decide +kernel
theorem d_Model_others_198 : decode b_Model_others 198 = .ok (.iconst 1, 1) := by decide +kernel
theorem d_Model_others_199 : decode b_Model_others 199 = .ok (.aload_n 0, 1) := by decide +kernel
theorem d_Model_others_200 : decode b_Model_others 200 = .ok (.iconst 1, 1) := by decide +kernel
theorem d_Model_others_201 : decode b_Model_others 201 = .ok (.invokevirtual 283, 3) := by decide +kernel
theorem d_Model_others_204 : decode b_Model_others 204 = .ok (.ifCond .eq 7, 3) := by decide +kernel
theorem d_Model_others_207 : decode b_Model_others 207 = .ok (.iconst 5, 1) := by decide +kernel
theorem d_Model_others_208 : decode b_Model_others 208 = .ok (.goto 50, 3) := by decide +kernel
theorem d_Model_others_211 : decode b_Model_others 211 = .ok (.aload_n 0, 1) := by decide +kernel
theorem d_Model_others_212 : decode b_Model_others 212 = .ok (.iconst 1, 1) := by decide +kernel
theorem d_Model_others_213 : decode b_Model_others 213 = .ok (.bipush 7, 2) := by decide +kernel
theorem d_Model_others_215 : decode b_Model_others 215 = .ok (.invokevirtual 246, 3) := by decide +kernel
theorem d_Model_others_218 : decode b_Model_others 218 = .ok (.ifCond .eq 39, 3) := by decide +kernel
theorem d_Model_others_221 : decode b_Model_others 221 = .ok (.aload_n 0, 1) := by decide +kernel
theorem d_Model_others_222 : decode b_Model_others 222 = .ok (.iconst 1, 1) := by decide +kernel
theorem d_Model_others_223 : decode b_Model_others 223 = .ok (.iconst 1, 1) := by decide +kernel
theorem d_Model_others_224 : decode b_Model_others 224 = .ok (.aload_n 0, 1) := by decide +kernel
theorem d_Model_others_225 : decode b_Model_others 225 = .ok (.getfield 10, 3) := by decide +kernel
theorem d_Model_others_228 : decode b_Model_others 228 = .ok (.aload_n 0, 1) := by decide +kernel
theorem d_Model_others_229 : decode b_Model_others 229 = .ok (.iconst 1, 1) := by decide +kernel
theorem d_Model_others_230 : decode b_Model_others 230 = .ok (.invokevirtual 250, 3) := by decide +kernel
theorem d_Model_others_233 : decode b_Model_others 233 = .ok (.iaload, 1) := by decide +kernel
theorem d_Model_others_234 : decode b_Model_others 234 = .ok (.bipush 8, 2) := by decide +kernel
theorem d_Model_others_236 : decode b_Model_others 236 = .ok (.iushr, 1) := by decide +kernel
theorem d_Model_others_237 : decode b_Model_others 237 = .ok (.bipush 8, 2) := by decide +kernel
theorem d_Model_others_239 : decode b_Model_others 239 = .ok (.ishl, 1) := by decide +kernel
theorem d_Model_others_240 : decode b_Model_others 240 = .ok (.ior, 1) := by decide +kernel
theorem d_Model_others_241 : decode b_Model_others 241 = .ok (.aload_n 0, 1) := by decide +kernel
theorem d_Model_others_242 : decode b_Model_others 242 = .ok (.getfield 14, 3) := by decide +kernel
theorem d_Model_others_245 : decode b_Model_others 245 = .ok (.aload_n 0, 1) := by decide +kernel
theorem d_Model_others_246 : decode b_Model_others 246 = .ok (.iconst 1, 1) := by decide +kernel
theorem d_Model_others_247 : decode b_Model_others 247 = .ok (.invokevirtual 250, 3) := by decide +kernel
theorem d_Model_others_250 : decode b_Model_others 250 = .ok (.iaload, 1) := by decide +kernel
theorem d_Model_others_251 : decode b_Model_others 251 = .ok (.invokevirtual 207, 3) := by decide +kernel
theorem d_Model_others_254 : decode b_Model_others 254 = .ok (.goto 4, 3) := by decide +kernel
theorem d_Model_others_257 : decode b_Model_others 257 = .ok (.iconst 4, 1) := by decide +kernel
theorem d_Model_others_258 : decode b_Model_others 258 = .ok (.invokevirtual 228, 3) := by decide +kernel
theorem d_Model_others_261 : decode b_Model_others 261 = .ok (.ireturn, 1) := by decide +kernel
theorem d_Model_others_262 : decode b_Model_others 262 = .ok (.aload_n 0, 1) := by decide +kernel
theorem d_Model_others_263 : decode b_Model_others 263 = .ok (.iconst 1, 1) := by decide +kernel
theorem d_Model_others_264 : decode b_Model_others 264 = .ok (.aload_n 0, 1) := by decide +kernel
theorem d_Model_others_265 : decode b_Model_others 265 = .ok (.iconst 2, 1) := by decide +kernel
theorem d_Model_others_266 : decode b_Model_others 266 = .ok (.iconst 0, 1) := by decide +kernel
theorem d_Model_others_267 : decode b_Model_others 267 = .ok (.aload_n 0, 1) := by decide +kernel
theorem d_Model_others_268 : decode b_Model_others 268 = .ok (.iconst 2, 1) := by decide +kernel
theorem d_Model_others_269 : decode b_Model_others 269 = .ok (.iconst 1, 1) := by decide +kernel
theorem d_Model_others_270 : decode b_Model_others 270 = .ok (.invokevirtual 296, 3) := by decide +kernel
theorem d_Model_others_273 : decode b_Model_others 273 = .ok (.ifCond .eq 7, 3) := by decide +kernel
theorem d_Model_others_276 : decode b_Model_others 276 = .ok (.iconst 1, 1) := by decide +kernel
theorem d_Model_others_277 : decode b_Model_others 277 = .ok (.goto 4, 3) := by decide +kernel
theorem d_Model_others_280 : decode b_Model_others 280 = .ok (.iconst 0, 1) := by decide +kernel
theorem d_Model_others_281 : decode b_Model_others 281 = .ok (.invokevirtual 207, 3) := by decide +kernel
theorem d_Model_others_284 : decode b_Model_others 284 = .ok (.invokevirtual 228, 3) := by decide +kernel
theorem d_Model_others_287 : decode b_Model_others 287 = .ok (.ireturn, 1) := by decide +kernel
theorem d_Model_others_288 : decode b_Model_others 288 = .ok (.aload_n 0, 1) := by decide +kernel
theorem d_Model_others_289 : decode b_Model_others 289 = .ok (.iconst 1, 1) := by decide +kernel
theorem d_Model_others_290 : decode b_Model_others 290 = .ok (.aload_n 0, 1) := by decide +kernel
theorem d_Model_others_291 : decode b_Model_others 291 = .ok (.iconst 2, 1) := by decide +kernel
theorem d_Model_others_292 : decode b_Model_others 292 = .ok (.iconst 0, 1) := by decide +kernel
theorem d_Model_others_293 : decode b_Model_others 293 = .ok (.aload_n 0, 1) := by decide +kernel
