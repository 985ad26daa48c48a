theorem d_Model_instruction_0 : decode b_Model_instruction 0 = .ok (.aload_n 0, 1) := by decide +kernel
theorem d_Model_instruction_1 : decode b_Model_instruction 1 = .ok (.invokevirtual 212, 3) := by decide +kernel
theorem d_Model_instruction_4 : decode b_Model_instruction 4 = .ok (.istore_n 1, 1) := by decide +kernel
theorem d_Model_instruction_5 : decode b_Model_instruction 5 = .ok (.iload_n 1, 1) := by decide +kernel
theorem d_Model_instruction_6 : decode b_Model_instruction 6 = .ok (.ifCond .ne 5, 3) := by decide +kernel
theorem d_Model_instruction_9 : decode b_Model_instruction 9 = .ok (.iconst 4, 1) := by decide +kernel
theorem d_Model_instruction_10 : decode b_Model_instruction 10 = .ok (.ireturn, 1) := by decide +kernel
theorem d_Model_instruction_11 : decode b_Model_instruction 11 = .ok (.aload_n 0, 1) := by decide +kernel
theorem d_Model_instruction_12 : decode b_Model_instruction 12 = .ok (.getfield 39, 3) := by decide +kernel
theorem d_Model_instruction_15 : decode b_Model_instruction 15 = .ok (.aload_n 0, 1) := by decide +kernel
theorem d_Model_instruction_16 : decode b_Model_instruction 16 = .ok (.getfield 185, 3) := by decide +kernel
theorem d_Model_instruction_19 : decode b_Model_instruction 19 = .ok (.iaload, 1) := by decide +kernel
theorem d_Model_instruction_20 : decode b_Model_instruction 20 = .ok (.istore_n 2, 1) := by decide +kernel
theorem d_Model_instruction_21 : decode b_Model_instruction 21 = .ok (.iload_n 1, 1) := by decide +kernel
theorem d_Model_instruction_22 : decode b_Model_instruction 22 = .ok (.iconst 1, 1) := by decide +kernel
theorem d_Model_instruction_23 : decode b_Model_instruction 23 = .ok (.if_icmp .le 11, 3) := by decide +kernel
theorem d_Model_instruction_26 : decode b_Model_instruction 26 = .ok (.aload_n 0, 1) := by decide +kernel
theorem d_Model_instruction_27 : decode b_Model_instruction 27 = .ok (.iconst 1, 1) := by decide +kernel
theorem d_Model_instruction_28 : decode b_Model_instruction 28 = .ok (.invokevirtual 215, 3) := by decide +kernel
theorem d_Model_instruction_31 : decode b_Model_instruction 31 = .ok (.goto 4, 3) := by decide +kernel
theorem d_Model_instruction_34 : decode b_Model_instruction 34 = .ok (.iconst 0, 1) := by decide +kernel
theorem d_Model_instruction_35 : decode b_Model_instruction 35 = .ok (.istore_n 3, 1) := by decide +kernel
theorem d_Model_instruction_36 : decode b_Model_instruction 36 = .ok (.aload_n 0, 1) := by decide +kernel
theorem d_Model_instruction_37 : decode b_Model_instruction 37 = .ok (.invokevirtual 218, 3) := by decide +kernel
theorem d_Model_instruction_40 : decode b_Model_instruction 40 = .ok (.iload_n 2, 1) := by decide +kernel
theorem d_Model_instruction_41 : decode b_Model_instruction 41 = .ok (.iload_n 3, 1) := by decide +kernel
theorem d_Model_instruction_42 : decode b_Model_instruction 42 = .ok (.invokestatic 221, 3) := by decide +kernel
theorem d_Model_instruction_45 : decode b_Model_instruction 45 = .ok (.if_icmp .ge 5, 3) := by decide +kernel
theorem d_Model_instruction_48 : decode b_Model_instruction 48 = .ok (.iconst 4, 1) := by decide +kernel
theorem d_Model_instruction_49 : decode b_Model_instruction 49 = .ok (.ireturn, 1) := by decide +kernel
theorem d_Model_instruction_50 : decode b_Model_instruction 50 = .ok (.iload_n 2, 1) := by decide +kernel
theorem d_Model_instruction_51 : decode b_Model_instruction 51 = .ok (.tableswitch 686 0 25 #[117, 165, 177, 188, 257, 268, 279, 316, 327, 344, 376, 405, 446, 459, 493, 540, 592, 603, 608, 613, 618, 625, 632, 639, 652, 676], 117) := by decide +kernel
theorem d_Model_instruction_168 : decode b_Model_instruction 168 = .ok (.aload_n 0, 1) := by decide +kernel
theorem d_Model_instruction_169 : decode b_Model_instruction 169 = .ok (.dup, 1) := by decide +kernel
theorem d_Model_instruction_170 : decode b_Model_instruction 170 = .ok (.getfield 135, 3) := by decide +kernel
theorem d_Model_instruction_173 : decode b_Model_instruction 173 = .ok (.iconst 1, 1) := by decide +kernel
theorem d_Model_instruction_174 : decode b_Model_instruction 174 = .ok (.isub, 1) := by decide +kernel
theorem d_Model_instruction_175 : decode b_Model_instruction 175 = .ok (.putfield 135, 3) := by decide +kernel
theorem d_Model_instruction_178 : decode b_Model_instruction 178 = .ok (.aload_n 0, 1) := by decide +kernel
theorem d_Model_instruction_179 : decode b_Model_instruction 179 = .ok (.aload_n 0, 1) := by decide +kernel
theorem d_Model_instruction_180 : decode b_Model_instruction 180 = .ok (.getfield 63, 3) := by decide +kernel
theorem d_Model_instruction_183 : decode b_Model_instruction 183 = .ok (.aload_n 0, 1) := by decide +kernel
theorem d_Model_instruction_184 : decode b_Model_instruction 184 = .ok (.getfield 135, 3) := by decide +kernel
theorem d_Model_instruction_187 : decode b_Model_instruction 187 = .ok (.iaload, 1) := by decide +kernel
theorem d_Model_instruction_188 : decode b_Model_instruction 188 = .ok (.putfield 145, 3) := by decide +kernel
theorem d_Model_instruction_191 : decode b_Model_instruction 191 = .ok (.aload_n 0, 1) := by decide +kernel
theorem d_Model_instruction_192 : decode b_Model_instruction 192 = .ok (.aload_n 0, 1) := by decide +kernel
theorem d_Model_instruction_193 : decode b_Model_instruction 193 = .ok (.getfield 66, 3) := by decide +kernel
theorem d_Model_instruction_196 : decode b_Model_instruction 196 = .ok (.aload_n 0, 1) := by decide +kernel
theorem d_Model_instruction_197 : decode b_Model_instruction 197 = .ok (.getfield 135, 3) := by decide +kernel
theorem d_Model_instruction_200 : decode b_Model_instruction 200 = .ok (.iaload, 1) := by decide +kernel
theorem d_Model_instruction_201 : decode b_Model_instruction 201 = .ok (.putfield 148, 3) := by decide +kernel
theorem d_Model_instruction_204 : decode b_Model_instruction 204 = .ok (.aload_n 0, 1) := by decide +kernel
theorem d_Model_instruction_205 : decode b_Model_instruction 205 = .ok (.dup, 1) := by decide +kernel
theorem d_Model_instruction_206 : decode b_Model_instruction 206 = .ok (.getfield 185, 3) := by decide +kernel
theorem d_Model_instruction_209 : decode b_Model_instruction 209 = .ok (.iconst 1, 1) := by decide +kernel
theorem d_Model_instruction_210 : decode b_Model_instruction 210 = .ok (.iadd, 1) := by decide +kernel
theorem d_Model_instruction_211 : decode b_Model_instruction 211 = .ok (.putfield 185, 3) := by decide +kernel
theorem d_Model_instruction_214 : decode b_Model_instruction 214 = .ok (.iconst 0, 1) := by decide +kernel
theorem d_Model_instruction_215 : decode b_Model_instruction 215 = .ok (.ireturn, 1) := by decide +kernel
theorem d_Model_instruction_216 : decode b_Model_instruction 216 = .ok (.aload_n 0, 1) := by decide +kernel
theorem d_Model_instruction_217 : decode b_Model_instruction 217 = .ok (.iconst 2, 1) := by decide +kernel
theorem d_Model_instruction_218 : decode b_Model_instruction 218 = .ok (.aload_n 0, 1) := by decide +kernel
theorem d_Model_instruction_219 : decode b_Model_instruction 219 = .ok (.iconst 0, 1) := by decide +kernel
theorem d_Model_instruction_220 : decode b_Model_instruction 220 = .ok (.iload_n 3, 1) := by decide +kernel
theorem d_Model_instruction_221 : decode b_Model_instruction 221 = .ok (.invokevirtual 225, 3) := by decide +kernel
theorem d_Model_instruction_224 : decode b_Model_instruction 224 = .ok (.invokevirtual 228, 3) := by decide +kernel
theorem d_Model_instruction_227 : decode b_Model_instruction 227 = .ok (.ireturn, 1) := by decide +kernel
theorem d_Model_instruction_228 : decode b_Model_instruction 228 = .ok (.aload_n 0, 1) := by decide +kernel
theorem d_Model_instruction_229 : decode b_Model_instruction 229 = .ok (.iconst 2, 1) := by decide +kernel
