theorem d_Model_slide_122 : decode b_Model_slide 122 = .ok (.if_icmp .ge 46, 3) := by decide +kernel
theorem d_Model_slide_125 : decode b_Model_slide 125 = .ok (.aload_n 0, 1) := by decide +kernel
theorem d_Model_slide_126 : decode b_Model_slide 126 = .ok (.invokevirtual 138, 3) := by decide +kernel
theorem d_Model_slide_129 : decode b_Model_slide 129 = .ok (.ifCond .eq 39, 3) := by decide +kernel
theorem d_Model_slide_132 : decode b_Model_slide 132 = .ok (.aload_n 0, 1) := by decide +kernel
theorem d_Model_slide_133 : decode b_Model_slide 133 = .ok (.getfield 50, 3) := by decide +kernel
theorem d_Model_slide_136 : decode b_Model_slide 136 = .ok (.iload_n 2, 1) := by decide +kernel
theorem d_Model_slide_137 : decode b_Model_slide 137 = .ok (.aload_n 0, 1) := by decide +kernel
theorem d_Model_slide_138 : decode b_Model_slide 138 = .ok (.getfield 50, 3) := by decide +kernel
theorem d_Model_slide_141 : decode b_Model_slide 141 = .ok (.iload_n 2, 1) := by decide +kernel
theorem d_Model_slide_142 : decode b_Model_slide 142 = .ok (.iaload, 1) := by decide +kernel
theorem d_Model_slide_143 : decode b_Model_slide 143 = .ok (.ifCond .ge 7, 3) := by decide +kernel
theorem d_Model_slide_146 : decode b_Model_slide 146 = .ok (.iconst (-1), 1) := by decide +kernel
theorem d_Model_slide_147 : decode b_Model_slide 147 = .ok (.goto 14, 3) := by decide +kernel
theorem d_Model_slide_150 : decode b_Model_slide 150 = .ok (.aload_n 0, 1) := by decide +kernel
theorem d_Model_slide_151 : decode b_Model_slide 151 = .ok (.getfield 17, 3) := by decide +kernel
theorem d_Model_slide_154 : decode b_Model_slide 154 = .ok (.aload_n 0, 1) := by decide +kernel
theorem d_Model_slide_155 : decode b_Model_slide 155 = .ok (.getfield 50, 3) := by decide +kernel
theorem d_Model_slide_158 : decode b_Model_slide 158 = .ok (.iload_n 2, 1) := by decide +kernel
theorem d_Model_slide_159 : decode b_Model_slide 159 = .ok (.iaload, 1) := by decide +kernel
theorem d_Model_slide_160 : decode b_Model_slide 160 = .ok (.iaload, 1) := by decide +kernel
theorem d_Model_slide_161 : decode b_Model_slide 161 = .ok (.iastore, 1) := by decide +kernel
theorem d_Model_slide_162 : decode b_Model_slide 162 = .ok (.iinc 2 1, 3) := by decide +kernel
theorem d_Model_slide_165 : decode b_Model_slide 165 = .ok (.goto (-48), 3) := by decide +kernel
theorem d_Model_slide_168 : decode b_Model_slide 168 = .ok (.aload_n 0, 1) := by decide +kernel
theorem d_Model_slide_169 : decode b_Model_slide 169 = .ok (.aload_n 0, 1) := by decide +kernel
theorem d_Model_slide_170 : decode b_Model_slide 170 = .ok (.getfield 145, 3) := by decide +kernel
theorem d_Model_slide_173 : decode b_Model_slide 173 = .ok (.iconst 2, 1) := by decide +kernel
theorem d_Model_slide_174 : decode b_Model_slide 174 = .ok (.if_icmp .ne 15, 3) := by decide +kernel
theorem d_Model_slide_177 : decode b_Model_slide 177 = .ok (.aload_n 0, 1) := by decide +kernel
theorem d_Model_slide_178 : decode b_Model_slide 178 = .ok (.getfield 17, 3) := by decide +kernel
theorem d_Model_slide_181 : decode b_Model_slide 181 = .ok (.aload_n 0, 1) := by decide +kernel
theorem d_Model_slide_182 : decode b_Model_slide 182 = .ok (.getfield 148, 3) := by decide +kernel
theorem d_Model_slide_185 : decode b_Model_slide 185 = .ok (.iaload, 1) := by decide +kernel
theorem d_Model_slide_186 : decode b_Model_slide 186 = .ok (.goto 7, 3) := by decide +kernel
theorem d_Model_slide_189 : decode b_Model_slide 189 = .ok (.aload_n 0, 1) := by decide +kernel
theorem d_Model_slide_190 : decode b_Model_slide 190 = .ok (.getfield 148, 3) := by decide +kernel
theorem d_Model_slide_193 : decode b_Model_slide 193 = .ok (.putfield 148, 3) := by decide +kernel
theorem d_Model_slide_196 : decode b_Model_slide 196 = .ok (.iconst 0, 1) := by decide +kernel
theorem d_Model_slide_197 : decode b_Model_slide 197 = .ok (.istore_n 2, 1) := by decide +kernel
theorem d_Model_slide_198 : decode b_Model_slide 198 = .ok (.iload_n 2, 1) := by decide +kernel
theorem d_Model_slide_199 : decode b_Model_slide 199 = .ok (.aload_n 0, 1) := by decide +kernel
theorem d_Model_slide_200 : decode b_Model_slide 200 = .ok (.getfield 125, 3) := by decide +kernel
theorem d_Model_slide_203 : decode b_Model_slide 203 = .ok (.if_icmp .ge 85, 3) := by decide +kernel
theorem d_Model_slide_206 : decode b_Model_slide 206 = .ok (.iconst 1, 1) := by decide +kernel
theorem d_Model_slide_207 : decode b_Model_slide 207 = .ok (.istore_n 3, 1) := by decide +kernel
theorem d_Model_slide_208 : decode b_Model_slide 208 = .ok (.iload_n 3, 1) := by decide +kernel
theorem d_Model_slide_209 : decode b_Model_slide 209 = .ok (.aload_n 0, 1) := by decide +kernel
theorem d_Model_slide_210 : decode b_Model_slide 210 = .ok (.iload_n 2, 1) := by decide +kernel
theorem d_Model_slide_211 : decode b_Model_slide 211 = .ok (.invokevirtual 106, 3) := by decide +kernel
theorem d_Model_slide_214 : decode b_Model_slide 214 = .ok (.if_icmp .gt 63, 3) := by decide +kernel
theorem d_Model_slide_217 : decode b_Model_slide 217 = .ok (.aload_n 0, 1) := by decide +kernel
theorem d_Model_slide_218 : decode b_Model_slide 218 = .ok (.getfield 17, 3) := by decide +kernel
theorem d_Model_slide_221 : decode b_Model_slide 221 = .ok (.iload_n 2, 1) := by decide +kernel
theorem d_Model_slide_222 : decode b_Model_slide 222 = .ok (.iaload, 1) := by decide +kernel
theorem d_Model_slide_223 : decode b_Model_slide 223 = .ok (.iconst (-1), 1) := by decide +kernel
theorem d_Model_slide_224 : decode b_Model_slide 224 = .ok (.if_icmp .eq 53, 3) := by decide +kernel
theorem d_Model_slide_227 : decode b_Model_slide 227 = .ok (.aload_n 0, 1) := by decide +kernel
theorem d_Model_slide_228 : decode b_Model_slide 228 = .ok (.getfield 14, 3) := by decide +kernel
theorem d_Model_slide_231 : decode b_Model_slide 231 = .ok (.iload_n 2, 1) := by decide +kernel
theorem d_Model_slide_232 : decode b_Model_slide 232 = .ok (.iload_n 3, 1) := by decide +kernel
theorem d_Model_slide_233 : decode b_Model_slide 233 = .ok (.iadd, 1) := by decide +kernel
theorem d_Model_slide_234 : decode b_Model_slide 234 = .ok (.aload_n 0, 1) := by decide +kernel
theorem d_Model_slide_235 : decode b_Model_slide 235 = .ok (.getfield 10, 3) := by decide +kernel
theorem d_Model_slide_238 : decode b_Model_slide 238 = .ok (.iload_n 2, 1) := by decide +kernel
theorem d_Model_slide_239 : decode b_Model_slide 239 = .ok (.iload_n 3, 1) := by decide +kernel
theorem d_Model_slide_240 : decode b_Model_slide 240 = .ok (.iadd, 1) := by decide +kernel
theorem d_Model_slide_241 : decode b_Model_slide 241 = .ok (.iaload, 1) := by decide +kernel
theorem d_Model_slide_242 : decode b_Model_slide 242 = .ok (.iconst 2, 1) := by decide +kernel
theorem d_Model_slide_243 : decode b_Model_slide 243 = .ok (.if_icmp .ne 19, 3) := by decide +kernel
