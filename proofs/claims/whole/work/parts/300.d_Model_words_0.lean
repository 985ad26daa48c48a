theorem d_Model_words_0 : decode b_Model_words 0 = .ok (.aload_n 0, 1) := by decide +kernel
theorem d_Model_words_1 : decode b_Model_words 1 = .ok (.getfield 185, 3) := by decide +kernel
theorem d_Model_words_4 : decode b_Model_words 4 = .ok (.ifCond .lt 40, 3) := by decide +kernel
theorem d_Model_words_7 : decode b_Model_words 7 = .ok (.aload_n 0, 1) := by decide +kernel
theorem d_Model_words_8 : decode b_Model_words 8 = .ok (.getfield 185, 3) := by decide +kernel
theorem d_Model_words_11 : decode b_Model_words 11 = .ok (.aload_n 0, 1) := by decide +kernel
theorem d_Model_words_12 : decode b_Model_words 12 = .ok (.getfield 171, 3) := by decide +kernel
theorem d_Model_words_15 : decode b_Model_words 15 = .ok (.if_icmp .ge 29, 3) := by decide +kernel
theorem d_Model_words_18 : decode b_Model_words 18 = .ok (.aload_n 0, 1) := by decide +kernel
theorem d_Model_words_19 : decode b_Model_words 19 = .ok (.getfield 39, 3) := by decide +kernel
theorem d_Model_words_22 : decode b_Model_words 22 = .ok (.aload_n 0, 1) := by decide +kernel
theorem d_Model_words_23 : decode b_Model_words 23 = .ok (.getfield 185, 3) := by decide +kernel
theorem d_Model_words_26 : decode b_Model_words 26 = .ok (.iaload, 1) := by decide +kernel
theorem d_Model_words_27 : decode b_Model_words 27 = .ok (.ifCond .lt 17, 3) := by decide +kernel
theorem d_Model_words_30 : decode b_Model_words 30 = .ok (.aload_n 0, 1) := by decide +kernel
theorem d_Model_words_31 : decode b_Model_words 31 = .ok (.getfield 39, 3) := by decide +kernel
theorem d_Model_words_34 : decode b_Model_words 34 = .ok (.aload_n 0, 1) := by decide +kernel
theorem d_Model_words_35 : decode b_Model_words 35 = .ok (.getfield 185, 3) := by decide +kernel
theorem d_Model_words_38 : decode b_Model_words 38 = .ok (.iaload, 1) := by decide +kernel
theorem d_Model_words_39 : decode b_Model_words 39 = .ok (.bipush 39, 2) := by decide +kernel
theorem d_Model_words_41 : decode b_Model_words 41 = .ok (.if_icmp .le 5, 3) := by decide +kernel
theorem d_Model_words_44 : decode b_Model_words 44 = .ok (.iconst 0, 1) := by decide +kernel
theorem d_Model_words_45 : decode b_Model_words 45 = .ok (.ireturn, 1) := by decide +kernel
theorem d_Model_words_46 : decode b_Model_words 46 = .ok (.iconst 1, 1) := by decide +kernel
theorem d_Model_words_47 : decode b_Model_words 47 = .ok (.istore_n 1, 1) := by decide +kernel
theorem d_Model_words_48 : decode b_Model_words 48 = .ok (.aload_n 0, 1) := by decide +kernel
theorem d_Model_words_49 : decode b_Model_words 49 = .ok (.getfield 39, 3) := by decide +kernel
theorem d_Model_words_52 : decode b_Model_words 52 = .ok (.aload_n 0, 1) := by decide +kernel
theorem d_Model_words_53 : decode b_Model_words 53 = .ok (.getfield 185, 3) := by decide +kernel
theorem d_Model_words_56 : decode b_Model_words 56 = .ok (.iaload, 1) := by decide +kernel
theorem d_Model_words_57 : decode b_Model_words 57 = .ok (.tableswitch 243 1 38 #[167, 167, 167, 167, 167, 167, 167, 243, 243, 167, 167, 167, 243, 243, 172, 167, 243, 243, 243, 167, 167, 177, 243, 243, 243, 167, 243, 243, 167, 243, 243, 243, 243, 167, 243, 167, 167, 167], 167) := by decide +kernel
theorem d_Model_words_224 : decode b_Model_words 224 = .ok (.iconst 2, 1) := by decide +kernel
theorem d_Model_words_225 : decode b_Model_words 225 = .ok (.istore_n 1, 1) := by decide +kernel
theorem d_Model_words_226 : decode b_Model_words 226 = .ok (.goto 74, 3) := by decide +kernel
theorem d_Model_words_229 : decode b_Model_words 229 = .ok (.iconst 3, 1) := by decide +kernel
theorem d_Model_words_230 : decode b_Model_words 230 = .ok (.istore_n 1, 1) := by decide +kernel
theorem d_Model_words_231 : decode b_Model_words 231 = .ok (.goto 69, 3) := by decide +kernel
theorem d_Model_words_234 : decode b_Model_words 234 = .ok (.aload_n 0, 1) := by decide +kernel
theorem d_Model_words_235 : decode b_Model_words 235 = .ok (.getfield 185, 3) := by decide +kernel
theorem d_Model_words_238 : decode b_Model_words 238 = .ok (.iconst 1, 1) := by decide +kernel
theorem d_Model_words_239 : decode b_Model_words 239 = .ok (.iadd, 1) := by decide +kernel
theorem d_Model_words_240 : decode b_Model_words 240 = .ok (.aload_n 0, 1) := by decide +kernel
theorem d_Model_words_241 : decode b_Model_words 241 = .ok (.getfield 171, 3) := by decide +kernel
theorem d_Model_words_244 : decode b_Model_words 244 = .ok (.if_icmp .ge 50, 3) := by decide +kernel
theorem d_Model_words_247 : decode b_Model_words 247 = .ok (.aload_n 0, 1) := by decide +kernel
theorem d_Model_words_248 : decode b_Model_words 248 = .ok (.getfield 39, 3) := by decide +kernel
theorem d_Model_words_251 : decode b_Model_words 251 = .ok (.aload_n 0, 1) := by decide +kernel
theorem d_Model_words_252 : decode b_Model_words 252 = .ok (.getfield 185, 3) := by decide +kernel
theorem d_Model_words_255 : decode b_Model_words 255 = .ok (.iconst 1, 1) := by decide +kernel
theorem d_Model_words_256 : decode b_Model_words 256 = .ok (.iadd, 1) := by decide +kernel
theorem d_Model_words_257 : decode b_Model_words 257 = .ok (.iaload, 1) := by decide +kernel
theorem d_Model_words_258 : decode b_Model_words 258 = .ok (.ifCond .lt 36, 3) := by decide +kernel
theorem d_Model_words_261 : decode b_Model_words 261 = .ok (.aload_n 0, 1) := by decide +kernel
theorem d_Model_words_262 : decode b_Model_words 262 = .ok (.getfield 39, 3) := by decide +kernel
theorem d_Model_words_265 : decode b_Model_words 265 = .ok (.aload_n 0, 1) := by decide +kernel
theorem d_Model_words_266 : decode b_Model_words 266 = .ok (.getfield 185, 3) := by decide +kernel
theorem d_Model_words_269 : decode b_Model_words 269 = .ok (.iconst 1, 1) := by decide +kernel
theorem d_Model_words_270 : decode b_Model_words 270 = .ok (.iadd, 1) := by decide +kernel
theorem d_Model_words_271 : decode b_Model_words 271 = .ok (.iaload, 1) := by decide +kernel
theorem d_Model_words_272 : decode b_Model_words 272 = .ok (.sipush 256, 3) := by decide +kernel
theorem d_Model_words_275 : decode b_Model_words 275 = .ok (.if_icmp .ge 19, 3) := by decide +kernel
theorem d_Model_words_278 : decode b_Model_words 278 = .ok (.aload_n 0, 1) := by decide +kernel
theorem d_Model_words_279 : decode b_Model_words 279 = .ok (.getfield 39, 3) := by decide +kernel
theorem d_Model_words_282 : decode b_Model_words 282 = .ok (.aload_n 0, 1) := by decide +kernel
theorem d_Model_words_283 : decode b_Model_words 283 = .ok (.getfield 185, 3) := by decide +kernel
theorem d_Model_words_286 : decode b_Model_words 286 = .ok (.iconst 1, 1) := by decide +kernel
theorem d_Model_words_287 : decode b_Model_words 287 = .ok (.iadd, 1) := by decide +kernel
theorem d_Model_words_288 : decode b_Model_words 288 = .ok (.iaload, 1) := by decide +kernel
theorem d_Model_words_289 : decode b_Model_words 289 = .ok (.iconst 3, 1) := by decide +kernel
theorem d_Model_words_290 : decode b_Model_words 290 = .ok (.iadd, 1) := by decide +kernel
