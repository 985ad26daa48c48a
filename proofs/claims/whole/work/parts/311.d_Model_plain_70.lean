theorem d_Model_plain_195 : decode b_Model_plain 195 = .ok (.ireturn, 1) := by decide +kernel
theorem d_Model_plain_196 : decode b_Model_plain 196 = .ok (.lload_n 3, 1) := by decide +kernel
theorem d_Model_plain_197 : decode b_Model_plain 197 = .ok (.lload 5, 2) := by decide +kernel
theorem d_Model_plain_199 : decode b_Model_plain 199 = .ok (.lcmp, 1) := by decide +kernel
theorem d_Model_plain_200 : decode b_Model_plain 200 = .ok (.ifCond .gt 7, 3) := by decide +kernel
theorem d_Model_plain_203 : decode b_Model_plain 203 = .ok (.iconst 1, 1) := by decide +kernel
theorem d_Model_plain_204 : decode b_Model_plain 204 = .ok (.goto 4, 3) := by decide +kernel
theorem d_Model_plain_207 : decode b_Model_plain 207 = .ok (.iconst 0, 1) := by decide +kernel
theorem d_Model_plain_208 : decode b_Model_plain 208 = .ok (.ireturn, 1) := by decide +kernel
theorem d_Model_plain_209 : decode b_Model_plain 209 = .ok (.lload_n 3, 1) := by decide +kernel
theorem d_Model_plain_210 : decode b_Model_plain 210 = .ok (.lload 5, 2) := by decide +kernel
theorem d_Model_plain_212 : decode b_Model_plain 212 = .ok (.lcmp, 1) := by decide +kernel
theorem d_Model_plain_213 : decode b_Model_plain 213 = .ok (.ifCond .lt 7, 3) := by decide +kernel
theorem d_Model_plain_216 : decode b_Model_plain 216 = .ok (.iconst 1, 1) := by decide +kernel
theorem d_Model_plain_217 : decode b_Model_plain 217 = .ok (.goto 4, 3) := by decide +kernel
theorem d_Model_plain_220 : decode b_Model_plain 220 = .ok (.iconst 0, 1) := by decide +kernel
theorem d_Model_plain_221 : decode b_Model_plain 221 = .ok (.ireturn, 1) := by decide +kernel
theorem d_Model_plain_222 : decode b_Model_plain 222 = .ok (.iload_n 1, 1) := by decide +kernel
theorem d_Model_plain_223 : decode b_Model_plain 223 = .ok (.iload_n 2, 1) := by decide +kernel
theorem d_Model_plain_224 : decode b_Model_plain 224 = .ok (.iand, 1) := by decide +kernel
theorem d_Model_plain_225 : decode b_Model_plain 225 = .ok (.ireturn, 1) := by decide +kernel
theorem d_Model_plain_226 : decode b_Model_plain 226 = .ok (.iload_n 1, 1) := by decide +kernel
theorem d_Model_plain_227 : decode b_Model_plain 227 = .ok (.iload_n 2, 1) := by decide +kernel
theorem d_Model_plain_228 : decode b_Model_plain 228 = .ok (.ior, 1) := by decide +kernel
theorem d_Model_plain_229 : decode b_Model_plain 229 = .ok (.ireturn, 1) := by decide +kernel
theorem d_Model_plain_230 : decode b_Model_plain 230 = .ok (.iload_n 1, 1) := by decide +kernel
theorem d_Model_plain_231 : decode b_Model_plain 231 = .ok (.iload_n 2, 1) := by decide +kernel
theorem d_Model_plain_232 : decode b_Model_plain 232 = .ok (.ixor, 1) := by decide +kernel
theorem d_Model_plain_233 : decode b_Model_plain 233 = .ok (.ireturn, 1) := by decide +kernel
theorem d_Model_plain_234 : decode b_Model_plain 234 = .ok (.iload_n 1, 1) := by decide +kernel
theorem d_Model_plain_235 : decode b_Model_plain 235 = .ok (.iconst (-1), 1) := by decide +kernel
theorem d_Model_plain_236 : decode b_Model_plain 236 = .ok (.ixor, 1) := by decide +kernel
theorem d_Model_plain_237 : decode b_Model_plain 237 = .ok (.ireturn, 1) := by decide +kernel
theorem d_Model_plain_238 : decode b_Model_plain 238 = .ok (.lload 5, 2) := by decide +kernel
theorem d_Model_plain_240 : decode b_Model_plain 240 = .ok (.ldc2_w 377, 3) := by decide +kernel
theorem d_Model_plain_243 : decode b_Model_plain 243 = .ok (.lcmp, 1) := by decide +kernel
theorem d_Model_plain_244 : decode b_Model_plain 244 = .ok (.ifCond .le 7, 3) := by decide +kernel
theorem d_Model_plain_247 : decode b_Model_plain 247 = .ok (.iconst 0, 1) := by decide +kernel
theorem d_Model_plain_248 : decode b_Model_plain 248 = .ok (.goto 9, 3) := by decide +kernel
theorem d_Model_plain_251 : decode b_Model_plain 251 = .ok (.lload_n 3, 1) := by decide +kernel
theorem d_Model_plain_252 : decode b_Model_plain 252 = .ok (.lload 5, 2) := by decide +kernel
theorem d_Model_plain_254 : decode b_Model_plain 254 = .ok (.l2i, 1) := by decide +kernel
theorem d_Model_plain_255 : decode b_Model_plain 255 = .ok (.lshl, 1) := by decide +kernel
theorem d_Model_plain_256 : decode b_Model_plain 256 = .ok (.l2i, 1) := by decide +kernel
theorem d_Model_plain_257 : decode b_Model_plain 257 = .ok (.ireturn, 1) := by decide +kernel
theorem d_Model_plain_258 : decode b_Model_plain 258 = .ok (.lload 5, 2) := by decide +kernel
theorem d_Model_plain_260 : decode b_Model_plain 260 = .ok (.ldc2_w 377, 3) := by decide +kernel
theorem d_Model_plain_263 : decode b_Model_plain 263 = .ok (.lcmp, 1) := by decide +kernel
theorem d_Model_plain_264 : decode b_Model_plain 264 = .ok (.ifCond .le 7, 3) := by decide +kernel
theorem d_Model_plain_267 : decode b_Model_plain 267 = .ok (.iconst 0, 1) := by decide +kernel
theorem d_Model_plain_268 : decode b_Model_plain 268 = .ok (.goto 9, 3) := by decide +kernel
theorem d_Model_plain_271 : decode b_Model_plain 271 = .ok (.lload_n 3, 1) := by decide +kernel
theorem d_Model_plain_272 : decode b_Model_plain 272 = .ok (.lload 5, 2) := by decide +kernel
theorem d_Model_plain_274 : decode b_Model_plain 274 = .ok (.l2i, 1) := by decide +kernel
theorem d_Model_plain_275 : decode b_Model_plain 275 = .ok (.lshr, 1) := by decide +kernel
theorem d_Model_plain_276 : decode b_Model_plain 276 = .ok (.l2i, 1) := by decide +kernel
theorem d_Model_plain_277 : decode b_Model_plain 277 = .ok (.ireturn, 1) := by decide +kernel
theorem d_Model_plain_278 : decode b_Model_plain 278 = .ok (.iload_n 1, 1) := by decide +kernel
theorem d_Model_plain_279 : decode b_Model_plain 279 = .ok (.ireturn, 1) := by decide +kernel
