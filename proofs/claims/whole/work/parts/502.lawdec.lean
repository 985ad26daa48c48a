theorem d_law_162 : decode b_law 162 = .ok (.iadd, 1) := by decide +kernel
theorem d_law_163 : decode b_law 163 = .ok (.iaload, 1) := by decide +kernel
theorem d_law_164 : decode b_law 164 = .ok (.i2l, 1) := by decide +kernel
theorem d_law_165 : decode b_law 165 = .ok (.bipush 32, 2) := by decide +kernel
theorem d_law_167 : decode b_law 167 = .ok (.lshl, 1) := by decide +kernel
theorem d_law_168 : decode b_law 168 = .ok (.aload_n 0, 1) := by decide +kernel
theorem d_law_169 : decode b_law 169 = .ok (.iload_n 3, 1) := by decide +kernel
theorem d_law_170 : decode b_law 170 = .ok (.iconst 2, 1) := by decide +kernel
theorem d_law_171 : decode b_law 171 = .ok (.iadd, 1) := by decide +kernel
theorem d_law_172 : decode b_law 172 = .ok (.iaload, 1) := by decide +kernel
theorem d_law_173 : decode b_law 173 = .ok (.i2l, 1) := by decide +kernel
theorem d_law_174 : decode b_law 174 = .ok (.ldc2_w 22, 3) := by decide +kernel
theorem d_law_177 : decode b_law 177 = .ok (.land, 1) := by decide +kernel
theorem d_law_178 : decode b_law 178 = .ok (.lor, 1) := by decide +kernel
theorem d_law_179 : decode b_law 179 = .ok (.invokevirtual 24, 3) := by decide +kernel
theorem d_law_182 : decode b_law 182 = .ok (.aload_n 2, 1) := by decide +kernel
theorem d_law_183 : decode b_law 183 = .ok (.aload_n 0, 1) := by decide +kernel
theorem d_law_184 : decode b_law 184 = .ok (.iload_n 3, 1) := by decide +kernel
theorem d_law_185 : decode b_law 185 = .ok (.iconst 1, 1) := by decide +kernel
theorem d_law_186 : decode b_law 186 = .ok (.iadd, 1) := by decide +kernel
theorem d_law_187 : decode b_law 187 = .ok (.iaload, 1) := by decide +kernel
theorem d_law_188 : decode b_law 188 = .ok (.i2l, 1) := by decide +kernel
theorem d_law_189 : decode b_law 189 = .ok (.bipush 32, 2) := by decide +kernel
theorem d_law_191 : decode b_law 191 = .ok (.lshl, 1) := by decide +kernel
theorem d_law_192 : decode b_law 192 = .ok (.aload_n 0, 1) := by decide +kernel
theorem d_law_193 : decode b_law 193 = .ok (.iload_n 3, 1) := by decide +kernel
theorem d_law_194 : decode b_law 194 = .ok (.iconst 2, 1) := by decide +kernel
theorem d_law_195 : decode b_law 195 = .ok (.iadd, 1) := by decide +kernel
theorem d_law_196 : decode b_law 196 = .ok (.iaload, 1) := by decide +kernel
theorem d_law_197 : decode b_law 197 = .ok (.i2l, 1) := by decide +kernel
theorem d_law_198 : decode b_law 198 = .ok (.ldc2_w 22, 3) := by decide +kernel
theorem d_law_201 : decode b_law 201 = .ok (.land, 1) := by decide +kernel
theorem d_law_202 : decode b_law 202 = .ok (.lor, 1) := by decide +kernel
theorem d_law_203 : decode b_law 203 = .ok (.invokevirtual 28, 3) := by decide +kernel
theorem d_law_206 : decode b_law 206 = .ok (.if_icmp .eq 486, 3) := by decide +kernel
theorem d_law_209 : decode b_law 209 = .ok (.iconst 0, 1) := by decide +kernel
theorem d_law_210 : decode b_law 210 = .ok (.ireturn, 1) := by decide +kernel
theorem d_law_211 : decode b_law 211 = .ok (.aload_n 1, 1) := by decide +kernel
theorem d_law_212 : decode b_law 212 = .ok (.invokevirtual 29, 3) := by decide +kernel
theorem d_law_215 : decode b_law 215 = .ok (.aload_n 2, 1) := by decide +kernel
theorem d_law_216 : decode b_law 216 = .ok (.invokevirtual 33, 3) := by decide +kernel
theorem d_law_219 : decode b_law 219 = .ok (.if_icmp .eq 473, 3) := by decide +kernel
theorem d_law_222 : decode b_law 222 = .ok (.iconst 0, 1) := by decide +kernel
theorem d_law_223 : decode b_law 223 = .ok (.ireturn, 1) := by decide +kernel
theorem d_law_224 : decode b_law 224 = .ok (.aload_n 1, 1) := by decide +kernel
theorem d_law_225 : decode b_law 225 = .ok (.aload_n 0, 1) := by decide +kernel
theorem d_law_226 : decode b_law 226 = .ok (.iload_n 3, 1) := by decide +kernel
theorem d_law_227 : decode b_law 227 = .ok (.iconst 1, 1) := by decide +kernel
theorem d_law_228 : decode b_law 228 = .ok (.iadd, 1) := by decide +kernel
theorem d_law_229 : decode b_law 229 = .ok (.iaload, 1) := by decide +kernel
theorem d_law_230 : decode b_law 230 = .ok (.aload_n 0, 1) := by decide +kernel
theorem d_law_231 : decode b_law 231 = .ok (.iload_n 3, 1) := by decide +kernel
theorem d_law_232 : decode b_law 232 = .ok (.iconst 2, 1) := by decide +kernel
theorem d_law_233 : decode b_law 233 = .ok (.iadd, 1) := by decide +kernel
theorem d_law_234 : decode b_law 234 = .ok (.iaload, 1) := by decide +kernel
theorem d_law_235 : decode b_law 235 = .ok (.invokevirtual 34, 3) := by decide +kernel
theorem d_law_238 : decode b_law 238 = .ok (.aload_n 2, 1) := by decide +kernel
theorem d_law_239 : decode b_law 239 = .ok (.aload_n 0, 1) := by decide +kernel
theorem d_law_240 : decode b_law 240 = .ok (.iload_n 3, 1) := by decide +kernel
theorem d_law_241 : decode b_law 241 = .ok (.iconst 1, 1) := by decide +kernel
