theorem d_Model_numbers_118 : decode b_Model_numbers 118 = .ok (.iload 5, 2) := by decide +kernel
theorem d_Model_numbers_120 : decode b_Model_numbers 120 = .ok (.iconst 2, 1) := by decide +kernel
theorem d_Model_numbers_121 : decode b_Model_numbers 121 = .ok (.invokevirtual 360, 3) := by decide +kernel
theorem d_Model_numbers_124 : decode b_Model_numbers 124 = .ok (.goto 18, 3) := by decide +kernel
theorem d_Model_numbers_127 : decode b_Model_numbers 127 = .ok (.aload_n 0, 1) := by decide +kernel
theorem d_Model_numbers_128 : decode b_Model_numbers 128 = .ok (.iconst 2, 1) := by decide +kernel
theorem d_Model_numbers_129 : decode b_Model_numbers 129 = .ok (.aload_n 0, 1) := by decide +kernel
theorem d_Model_numbers_130 : decode b_Model_numbers 130 = .ok (.iload 5, 2) := by decide +kernel
theorem d_Model_numbers_132 : decode b_Model_numbers 132 = .ok (.iconst 0, 1) := by decide +kernel
theorem d_Model_numbers_133 : decode b_Model_numbers 133 = .ok (.lload 6, 2) := by decide +kernel
theorem d_Model_numbers_135 : decode b_Model_numbers 135 = .ok (.l2i, 1) := by decide +kernel
theorem d_Model_numbers_136 : decode b_Model_numbers 136 = .ok (.invokevirtual 207, 3) := by decide +kernel
theorem d_Model_numbers_139 : decode b_Model_numbers 139 = .ok (.invokevirtual 228, 3) := by decide +kernel
theorem d_Model_numbers_142 : decode b_Model_numbers 142 = .ok (.ireturn, 1) := by decide +kernel
theorem d_Model_numbers_143 : decode b_Model_numbers 143 = .ok (.iload_n 1, 1) := by decide +kernel
theorem d_Model_numbers_144 : decode b_Model_numbers 144 = .ok (.iconst 5, 1) := by decide +kernel
theorem d_Model_numbers_145 : decode b_Model_numbers 145 = .ok (.if_icmp .eq 21, 3) := by decide +kernel
theorem d_Model_numbers_148 : decode b_Model_numbers 148 = .ok (.iload_n 1, 1) := by decide +kernel
theorem d_Model_numbers_149 : decode b_Model_numbers 149 = .ok (.bipush 6, 2) := by decide +kernel
theorem d_Model_numbers_151 : decode b_Model_numbers 151 = .ok (.if_icmp .eq 15, 3) := by decide +kernel
theorem d_Model_numbers_154 : decode b_Model_numbers 154 = .ok (.iload_n 1, 1) := by decide +kernel
theorem d_Model_numbers_155 : decode b_Model_numbers 155 = .ok (.bipush 14, 2) := by decide +kernel
theorem d_Model_numbers_157 : decode b_Model_numbers 157 = .ok (.if_icmp .eq 9, 3) := by decide +kernel
theorem d_Model_numbers_160 : decode b_Model_numbers 160 = .ok (.iload_n 1, 1) := by decide +kernel
theorem d_Model_numbers_161 : decode b_Model_numbers 161 = .ok (.bipush 15, 2) := by decide +kernel
theorem d_Model_numbers_163 : decode b_Model_numbers 163 = .ok (.if_icmp .ne 12, 3) := by decide +kernel
theorem d_Model_numbers_166 : decode b_Model_numbers 166 = .ok (.aload_n 0, 1) := by decide +kernel
theorem d_Model_numbers_167 : decode b_Model_numbers 167 = .ok (.iload_n 1, 1) := by decide +kernel
theorem d_Model_numbers_168 : decode b_Model_numbers 168 = .ok (.iload 4, 2) := by decide +kernel
theorem d_Model_numbers_170 : decode b_Model_numbers 170 = .ok (.iload_n 3, 1) := by decide +kernel
theorem d_Model_numbers_171 : decode b_Model_numbers 171 = .ok (.invokevirtual 363, 3) := by decide +kernel
theorem d_Model_numbers_174 : decode b_Model_numbers 174 = .ok (.ireturn, 1) := by decide +kernel
theorem d_Model_numbers_175 : decode b_Model_numbers 175 = .ok (.iload_n 1, 1) := by decide +kernel
theorem d_Model_numbers_176 : decode b_Model_numbers 176 = .ok (.bipush 26, 2) := by decide +kernel
theorem d_Model_numbers_178 : decode b_Model_numbers 178 = .ok (.if_icmp .ne 15, 3) := by decide +kernel
theorem d_Model_numbers_181 : decode b_Model_numbers 181 = .ok (.iload 4, 2) := by decide +kernel
theorem d_Model_numbers_183 : decode b_Model_numbers 183 = .ok (.ifCond .ge 10, 3) := by decide +kernel
theorem d_Model_numbers_186 : decode b_Model_numbers 186 = .ok (.aload_n 0, 1) := by decide +kernel
theorem d_Model_numbers_187 : decode b_Model_numbers 187 = .ok (.iconst 1, 1) := by decide +kernel
theorem d_Model_numbers_188 : decode b_Model_numbers 188 = .ok (.iconst 2, 1) := by decide +kernel
theorem d_Model_numbers_189 : decode b_Model_numbers 189 = .ok (.invokevirtual 360, 3) := by decide +kernel
theorem d_Model_numbers_192 : decode b_Model_numbers 192 = .ok (.ireturn, 1) := by decide +kernel
theorem d_Model_numbers_193 : decode b_Model_numbers 193 = .ok (.iload_n 1, 1) := by decide +kernel
theorem d_Model_numbers_194 : decode b_Model_numbers 194 = .ok (.bipush 29, 2) := by decide +kernel
theorem d_Model_numbers_196 : decode b_Model_numbers 196 = .ok (.if_icmp .ne 32, 3) := by decide +kernel
theorem d_Model_numbers_199 : decode b_Model_numbers 199 = .ok (.iload 4, 2) := by decide +kernel
theorem d_Model_numbers_201 : decode b_Model_numbers 201 = .ok (.ifCond .lt 11, 3) := by decide +kernel
theorem d_Model_numbers_204 : decode b_Model_numbers 204 = .ok (.iload 4, 2) := by decide +kernel
theorem d_Model_numbers_206 : decode b_Model_numbers 206 = .ok (.sipush 255, 3) := by decide +kernel
theorem d_Model_numbers_209 : decode b_Model_numbers 209 = .ok (.if_icmp .le 7, 3) := by decide +kernel
theorem d_Model_numbers_212 : decode b_Model_numbers 212 = .ok (.iconst 4, 1) := by decide +kernel
theorem d_Model_numbers_213 : decode b_Model_numbers 213 = .ok (.goto 14, 3) := by decide +kernel
theorem d_Model_numbers_216 : decode b_Model_numbers 216 = .ok (.aload_n 0, 1) := by decide +kernel
theorem d_Model_numbers_217 : decode b_Model_numbers 217 = .ok (.iconst 2, 1) := by decide +kernel
theorem d_Model_numbers_218 : decode b_Model_numbers 218 = .ok (.aload_n 0, 1) := by decide +kernel
theorem d_Model_numbers_219 : decode b_Model_numbers 219 = .ok (.iload 4, 2) := by decide +kernel
theorem d_Model_numbers_221 : decode b_Model_numbers 221 = .ok (.invokevirtual 366, 3) := by decide +kernel
theorem d_Model_numbers_224 : decode b_Model_numbers 224 = .ok (.invokevirtual 228, 3) := by decide +kernel
theorem d_Model_numbers_227 : decode b_Model_numbers 227 = .ok (.ireturn, 1) := by decide +kernel
theorem d_Model_numbers_228 : decode b_Model_numbers 228 = .ok (.iload_n 1, 1) := by decide +kernel
theorem d_Model_numbers_229 : decode b_Model_numbers 229 = .ok (.bipush 38, 2) := by decide +kernel
theorem d_Model_numbers_231 : decode b_Model_numbers 231 = .ok (.if_icmp .ne 15, 3) := by decide +kernel
theorem d_Model_numbers_234 : decode b_Model_numbers 234 = .ok (.aload_n 0, 1) := by decide +kernel
theorem d_Model_numbers_235 : decode b_Model_numbers 235 = .ok (.iconst 2, 1) := by decide +kernel
theorem d_Model_numbers_236 : decode b_Model_numbers 236 = .ok (.aload_n 0, 1) := by decide +kernel
theorem d_Model_numbers_237 : decode b_Model_numbers 237 = .ok (.iload 4, 2) := by decide +kernel
theorem d_Model_numbers_239 : decode b_Model_numbers 239 = .ok (.invokevirtual 369, 3) := by decide +kernel
theorem d_Model_numbers_242 : decode b_Model_numbers 242 = .ok (.invokevirtual 228, 3) := by decide +kernel
theorem d_Model_numbers_245 : decode b_Model_numbers 245 = .ok (.ireturn, 1) := by decide +kernel
theorem d_Model_numbers_246 : decode b_Model_numbers 246 = .ok (.iload_n 1, 1) := by decide +kernel
