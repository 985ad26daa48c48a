theorem d_Model_implode_0 : decode b_Model_implode 0 = .ok (.iconst 0, 1) := by decide +kernel
theorem d_Model_implode_1 : decode b_Model_implode 1 = .ok (.istore_n 1, 1) := by decide +kernel
theorem d_Model_implode_2 : decode b_Model_implode 2 = .ok (.aload_n 0, 1) := by decide +kernel
theorem d_Model_implode_3 : decode b_Model_implode 3 = .ok (.getfield 63, 3) := by decide +kernel
theorem d_Model_implode_6 : decode b_Model_implode 6 = .ok (.aload_n 0, 1) := by decide +kernel
theorem d_Model_implode_7 : decode b_Model_implode 7 = .ok (.getfield 135, 3) := by decide +kernel
theorem d_Model_implode_10 : decode b_Model_implode 10 = .ok (.iconst 1, 1) := by decide +kernel
theorem d_Model_implode_11 : decode b_Model_implode 11 = .ok (.isub, 1) := by decide +kernel
theorem d_Model_implode_12 : decode b_Model_implode 12 = .ok (.iaload, 1) := by decide +kernel
theorem d_Model_implode_13 : decode b_Model_implode 13 = .ok (.istore_n 2, 1) := by decide +kernel
theorem d_Model_implode_14 : decode b_Model_implode 14 = .ok (.aload_n 0, 1) := by decide +kernel
theorem d_Model_implode_15 : decode b_Model_implode 15 = .ok (.getfield 66, 3) := by decide +kernel
theorem d_Model_implode_18 : decode b_Model_implode 18 = .ok (.aload_n 0, 1) := by decide +kernel
theorem d_Model_implode_19 : decode b_Model_implode 19 = .ok (.getfield 135, 3) := by decide +kernel
theorem d_Model_implode_22 : decode b_Model_implode 22 = .ok (.iconst 1, 1) := by decide +kernel
theorem d_Model_implode_23 : decode b_Model_implode 23 = .ok (.isub, 1) := by decide +kernel
theorem d_Model_implode_24 : decode b_Model_implode 24 = .ok (.iaload, 1) := by decide +kernel
theorem d_Model_implode_25 : decode b_Model_implode 25 = .ok (.istore_n 3, 1) := by decide +kernel
theorem d_Model_implode_26 : decode b_Model_implode 26 = .ok (.aload_n 0, 1) := by decide +kernel
theorem d_Model_implode_27 : decode b_Model_implode 27 = .ok (.iload_n 2, 1) := by decide +kernel
theorem d_Model_implode_28 : decode b_Model_implode 28 = .ok (.iload_n 3, 1) := by decide +kernel
theorem d_Model_implode_29 : decode b_Model_implode 29 = .ok (.invokevirtual 404, 3) := by decide +kernel
theorem d_Model_implode_32 : decode b_Model_implode 32 = .ok (.ifCond .eq 80, 3) := by decide +kernel
theorem d_Model_implode_35 : decode b_Model_implode 35 = .ok (.aload_n 0, 1) := by decide +kernel
theorem d_Model_implode_36 : decode b_Model_implode 36 = .ok (.getfield 14, 3) := by decide +kernel
theorem d_Model_implode_39 : decode b_Model_implode 39 = .ok (.iload_n 3, 1) := by decide +kernel
theorem d_Model_implode_40 : decode b_Model_implode 40 = .ok (.iconst 1, 1) := by decide +kernel
theorem d_Model_implode_41 : decode b_Model_implode 41 = .ok (.iadd, 1) := by decide +kernel
theorem d_Model_implode_42 : decode b_Model_implode 42 = .ok (.iaload, 1) := by decide +kernel
theorem d_Model_implode_43 : decode b_Model_implode 43 = .ok (.istore 4, 2) := by decide +kernel
theorem d_Model_implode_45 : decode b_Model_implode 45 = .ok (.aload_n 0, 1) := by decide +kernel
theorem d_Model_implode_46 : decode b_Model_implode 46 = .ok (.getfield 10, 3) := by decide +kernel
theorem d_Model_implode_49 : decode b_Model_implode 49 = .ok (.iload 4, 2) := by decide +kernel
theorem d_Model_implode_51 : decode b_Model_implode 51 = .ok (.iconst 1, 1) := by decide +kernel
theorem d_Model_implode_52 : decode b_Model_implode 52 = .ok (.iadd, 1) := by decide +kernel
theorem d_Model_implode_53 : decode b_Model_implode 53 = .ok (.iaload, 1) := by decide +kernel
theorem d_Model_implode_54 : decode b_Model_implode 54 = .ok (.ifCond .ne 30, 3) := by decide +kernel
theorem d_Model_implode_57 : decode b_Model_implode 57 = .ok (.aload_n 0, 1) := by decide +kernel
theorem d_Model_implode_58 : decode b_Model_implode 58 = .ok (.getfield 14, 3) := by decide +kernel
theorem d_Model_implode_61 : decode b_Model_implode 61 = .ok (.iload 4, 2) := by decide +kernel
theorem d_Model_implode_63 : decode b_Model_implode 63 = .ok (.iconst 1, 1) := by decide +kernel
theorem d_Model_implode_64 : decode b_Model_implode 64 = .ok (.iadd, 1) := by decide +kernel
theorem d_Model_implode_65 : decode b_Model_implode 65 = .ok (.iaload, 1) := by decide +kernel
theorem d_Model_implode_66 : decode b_Model_implode 66 = .ok (.ifCond .lt 18, 3) := by decide +kernel
theorem d_Model_implode_69 : decode b_Model_implode 69 = .ok (.aload_n 0, 1) := by decide +kernel
theorem d_Model_implode_70 : decode b_Model_implode 70 = .ok (.getfield 14, 3) := by decide +kernel
theorem d_Model_implode_73 : decode b_Model_implode 73 = .ok (.iload 4, 2) := by decide +kernel
theorem d_Model_implode_75 : decode b_Model_implode 75 = .ok (.iconst 1, 1) := by decide +kernel
theorem d_Model_implode_76 : decode b_Model_implode 76 = .ok (.iadd, 1) := by decide +kernel
theorem d_Model_implode_77 : decode b_Model_implode 77 = .ok (.iaload, 1) := by decide +kernel
theorem d_Model_implode_78 : decode b_Model_implode 78 = .ok (.sipush 255, 3) := by decide +kernel
theorem d_Model_implode_81 : decode b_Model_implode 81 = .ok (.if_icmp .le 5, 3) := by decide +kernel
theorem d_Model_implode_84 : decode b_Model_implode 84 = .ok (.iconst 4, 1) := by decide +kernel
theorem d_Model_implode_85 : decode b_Model_implode 85 = .ok (.ireturn, 1) := by decide +kernel
theorem d_Model_implode_86 : decode b_Model_implode 86 = .ok (.aload_n 0, 1) := by decide +kernel
theorem d_Model_implode_87 : decode b_Model_implode 87 = .ok (.getfield 10, 3) := by decide +kernel
theorem d_Model_implode_90 : decode b_Model_implode 90 = .ok (.iload 4, 2) := by decide +kernel
theorem d_Model_implode_92 : decode b_Model_implode 92 = .ok (.iconst 2, 1) := by decide +kernel
theorem d_Model_implode_93 : decode b_Model_implode 93 = .ok (.iadd, 1) := by decide +kernel
theorem d_Model_implode_94 : decode b_Model_implode 94 = .ok (.iaload, 1) := by decide +kernel
theorem d_Model_implode_95 : decode b_Model_implode 95 = .ok (.istore_n 2, 1) := by decide +kernel
theorem d_Model_implode_96 : decode b_Model_implode 96 = .ok (.aload_n 0, 1) := by decide +kernel
theorem d_Model_implode_97 : decode b_Model_implode 97 = .ok (.getfield 14, 3) := by decide +kernel
theorem d_Model_implode_100 : decode b_Model_implode 100 = .ok (.iload 4, 2) := by decide +kernel
theorem d_Model_implode_102 : decode b_Model_implode 102 = .ok (.iconst 2, 1) := by decide +kernel
theorem d_Model_implode_103 : decode b_Model_implode 103 = .ok (.iadd, 1) := by decide +kernel
theorem d_Model_implode_104 : decode b_Model_implode 104 = .ok (.iaload, 1) := by decide +kernel
theorem d_Model_implode_105 : decode b_Model_implode 105 = .ok (.istore_n 3, 1) := by decide +kernel
theorem d_Model_implode_106 : decode b_Model_implode 106 = .ok (.iinc 1 1, 3) := by decide +kernel
theorem d_Model_implode_109 : decode b_Model_implode 109 = .ok (.goto (-83), 3) := by decide +kernel
theorem d_Model_implode_112 : decode b_Model_implode 112 = .ok (.iload_n 2, 1) := by decide +kernel
theorem d_Model_implode_113 : decode b_Model_implode 113 = .ok (.ifCond .ne 7, 3) := by decide +kernel
theorem d_Model_implode_116 : decode b_Model_implode 116 = .ok (.iload_n 3, 1) := by decide +kernel
theorem d_Model_implode_117 : decode b_Model_implode 117 = .ok (.ifCond .eq 5, 3) := by decide +kernel
theorem d_Model_implode_120 : decode b_Model_implode 120 = .ok (.iconst 4, 1) := by decide +kernel
theorem d_Model_implode_121 : decode b_Model_implode 121 = .ok (.ireturn, 1) := by decide +kernel
theorem d_Model_implode_122 : decode b_Model_implode 122 = .ok (.iload_n 1, 1) := by decide +kernel
theorem d_Model_implode_123 : decode b_Model_implode 123 = .ok (.ldc_w 324, 3) := by decide +kernel
theorem d_Model_implode_126 : decode b_Model_implode 126 = .ok (.if_icmp .le 10, 3) := by decide +kernel
theorem d_Model_implode_129 : decode b_Model_implode 129 = .ok (.aload_n 0, 1) := by decide +kernel
theorem d_Model_implode_130 : decode b_Model_implode 130 = .ok (.iconst 1, 1) := by decide +kernel
theorem d_Model_implode_131 : decode b_Model_implode 131 = .ok (.iconst 5, 1) := by decide +kernel
theorem d_Model_implode_132 : decode b_Model_implode 132 = .ok (.invokevirtual 360, 3) := by decide +kernel
theorem d_Model_implode_135 : decode b_Model_implode 135 = .ok (.ireturn, 1) := by decide +kernel
theorem d_Model_implode_136 : decode b_Model_implode 136 = .ok (.aload_n 0, 1) := by decide +kernel
theorem d_Model_implode_137 : decode b_Model_implode 137 = .ok (.iconst 1, 1) := by decide +kernel
theorem d_Model_implode_138 : decode b_Model_implode 138 = .ok (.iload_n 1, 1) := by decide +kernel
theorem d_Model_implode_139 : decode b_Model_implode 139 = .ok (.iconst 3, 1) := by decide +kernel
theorem d_Model_implode_140 : decode b_Model_implode 140 = .ok (.iadd, 1) := by decide +kernel
theorem d_Model_implode_141 : decode b_Model_implode 141 = .ok (.iconst 4, 1) := by decide +kernel
theorem d_Model_implode_142 : decode b_Model_implode 142 = .ok (.idiv, 1) := by decide +kernel
theorem d_Model_implode_143 : decode b_Model_implode 143 = .ok (.iadd, 1) := by decide +kernel
theorem d_Model_implode_144 : decode b_Model_implode 144 = .ok (.invokevirtual 379, 3) := by decide +kernel
theorem d_Model_implode_147 : decode b_Model_implode 147 = .ok (.ifCond .ne 5, 3) := by decide +kernel
theorem d_Model_implode_150 : decode b_Model_implode 150 = .ok (.iconst 3, 1) := by decide +kernel
theorem d_Model_implode_151 : decode b_Model_implode 151 = .ok (.ireturn, 1) := by decide +kernel
theorem d_Model_implode_152 : decode b_Model_implode 152 = .ok (.aload_n 0, 1) := by decide +kernel
theorem d_Model_implode_153 : decode b_Model_implode 153 = .ok (.iload_n 1, 1) := by decide +kernel
theorem d_Model_implode_154 : decode b_Model_implode 154 = .ok (.invokevirtual 311, 3) := by decide +kernel
theorem d_Model_implode_157 : decode b_Model_implode 157 = .ok (.istore 4, 2) := by decide +kernel
theorem d_Model_implode_159 : decode b_Model_implode 159 = .ok (.aload_n 0, 1) := by decide +kernel
theorem d_Model_implode_160 : decode b_Model_implode 160 = .ok (.getfield 66, 3) := by decide +kernel
theorem d_Model_implode_163 : decode b_Model_implode 163 = .ok (.aload_n 0, 1) := by decide +kernel
theorem d_Model_implode_164 : decode b_Model_implode 164 = .ok (.getfield 135, 3) := by decide +kernel
theorem d_Model_implode_167 : decode b_Model_implode 167 = .ok (.iconst 1, 1) := by decide +kernel
theorem d_Model_implode_168 : decode b_Model_implode 168 = .ok (.isub, 1) := by decide +kernel
theorem d_Model_implode_169 : decode b_Model_implode 169 = .ok (.iaload, 1) := by decide +kernel
theorem d_Model_implode_170 : decode b_Model_implode 170 = .ok (.istore 5, 2) := by decide +kernel
theorem d_Model_implode_172 : decode b_Model_implode 172 = .ok (.iconst 0, 1) := by decide +kernel
theorem d_Model_implode_173 : decode b_Model_implode 173 = .ok (.istore 6, 2) := by decide +kernel
theorem d_Model_implode_175 : decode b_Model_implode 175 = .ok (.iload 6, 2) := by decide +kernel
theorem d_Model_implode_177 : decode b_Model_implode 177 = .ok (.iload_n 1, 1) := by decide +kernel
theorem d_Model_implode_178 : decode b_Model_implode 178 = .ok (.if_icmp .ge 48, 3) := by decide +kernel
theorem d_Model_implode_181 : decode b_Model_implode 181 = .ok (.aload_n 0, 1) := by decide +kernel
theorem d_Model_implode_182 : decode b_Model_implode 182 = .ok (.getfield 14, 3) := by decide +kernel
theorem d_Model_implode_185 : decode b_Model_implode 185 = .ok (.iload 5, 2) := by decide +kernel
theorem d_Model_implode_187 : decode b_Model_implode 187 = .ok (.iconst 1, 1) := by decide +kernel
theorem d_Model_implode_188 : decode b_Model_implode 188 = .ok (.iadd, 1) := by decide +kernel
theorem d_Model_implode_189 : decode b_Model_implode 189 = .ok (.iaload, 1) := by decide +kernel
theorem d_Model_implode_190 : decode b_Model_implode 190 = .ok (.istore 7, 2) := by decide +kernel
theorem d_Model_implode_192 : decode b_Model_implode 192 = .ok (.aload_n 0, 1) := by decide +kernel
theorem d_Model_implode_193 : decode b_Model_implode 193 = .ok (.iload 4, 2) := by decide +kernel
theorem d_Model_implode_195 : decode b_Model_implode 195 = .ok (.iload 6, 2) := by decide +kernel
theorem d_Model_implode_197 : decode b_Model_implode 197 = .ok (.aload_n 0, 1) := by decide +kernel
theorem d_Model_implode_198 : decode b_Model_implode 198 = .ok (.getfield 14, 3) := by decide +kernel
theorem d_Model_implode_201 : decode b_Model_implode 201 = .ok (.iload 7, 2) := by decide +kernel
theorem d_Model_implode_203 : decode b_Model_implode 203 = .ok (.iconst 1, 1) := by decide +kernel
theorem d_Model_implode_204 : decode b_Model_implode 204 = .ok (.iadd, 1) := by decide +kernel
theorem d_Model_implode_205 : decode b_Model_implode 205 = .ok (.iaload, 1) := by decide +kernel
theorem d_Model_implode_206 : decode b_Model_implode 206 = .ok (.invokevirtual 314, 3) := by decide +kernel
theorem d_Model_implode_209 : decode b_Model_implode 209 = .ok (.aload_n 0, 1) := by decide +kernel
theorem d_Model_implode_210 : decode b_Model_implode 210 = .ok (.getfield 14, 3) := by decide +kernel
theorem d_Model_implode_213 : decode b_Model_implode 213 = .ok (.iload 7, 2) := by decide +kernel
theorem d_Model_implode_215 : decode b_Model_implode 215 = .ok (.iconst 2, 1) := by decide +kernel
theorem d_Model_implode_216 : decode b_Model_implode 216 = .ok (.iadd, 1) := by decide +kernel
theorem d_Model_implode_217 : decode b_Model_implode 217 = .ok (.iaload, 1) := by decide +kernel
theorem d_Model_implode_218 : decode b_Model_implode 218 = .ok (.istore 5, 2) := by decide +kernel
theorem d_Model_implode_220 : decode b_Model_implode 220 = .ok (.iinc 6 1, 3) := by decide +kernel
theorem d_Model_implode_223 : decode b_Model_implode 223 = .ok (.goto (-48), 3) := by decide +kernel
theorem d_Model_implode_226 : decode b_Model_implode 226 = .ok (.aload_n 0, 1) := by decide +kernel
theorem d_Model_implode_227 : decode b_Model_implode 227 = .ok (.iconst 2, 1) := by decide +kernel
theorem d_Model_implode_228 : decode b_Model_implode 228 = .ok (.aload_n 0, 1) := by decide +kernel
theorem d_Model_implode_229 : decode b_Model_implode 229 = .ok (.iconst 1, 1) := by decide +kernel
theorem d_Model_implode_230 : decode b_Model_implode 230 = .ok (.iconst 2, 1) := by decide +kernel
theorem d_Model_implode_231 : decode b_Model_implode 231 = .ok (.iload 4, 2) := by decide +kernel
theorem d_Model_implode_233 : decode b_Model_implode 233 = .ok (.invokevirtual 207, 3) := by decide +kernel
theorem d_Model_implode_236 : decode b_Model_implode 236 = .ok (.invokevirtual 228, 3) := by decide +kernel
theorem d_Model_implode_239 : decode b_Model_implode 239 = .ok (.ireturn, 1) := by decide +kernel
theorem d_Model_explode_0 : decode b_Model_explode 0 = .ok (.aload_n 0, 1) := by decide +kernel
theorem d_Model_explode_1 : decode b_Model_explode 1 = .ok (.getfield 14, 3) := by decide +kernel
theorem d_Model_explode_4 : decode b_Model_explode 4 = .ok (.aload_n 0, 1) := by decide +kernel
theorem d_Model_explode_5 : decode b_Model_explode 5 = .ok (.iconst 1, 1) := by decide +kernel
theorem d_Model_explode_6 : decode b_Model_explode 6 = .ok (.invokevirtual 250, 3) := by decide +kernel
theorem d_Model_explode_9 : decode b_Model_explode 9 = .ok (.iaload, 1) := by decide +kernel
theorem d_Model_explode_10 : decode b_Model_explode 10 = .ok (.istore_n 1, 1) := by decide +kernel
theorem d_Model_explode_11 : decode b_Model_explode 11 = .ok (.iload_n 1, 1) := by decide +kernel
theorem d_Model_explode_12 : decode b_Model_explode 12 = .ok (.ifCond .le 15, 3) := by decide +kernel
theorem d_Model_explode_15 : decode b_Model_explode 15 = .ok (.aload_n 0, 1) := by decide +kernel
theorem d_Model_explode_16 : decode b_Model_explode 16 = .ok (.iconst 5, 1) := by decide +kernel
theorem d_Model_explode_17 : decode b_Model_explode 17 = .ok (.iload_n 1, 1) := by decide +kernel
theorem d_Model_explode_18 : decode b_Model_explode 18 = .ok (.imul, 1) := by decide +kernel
theorem d_Model_explode_19 : decode b_Model_explode 19 = .ok (.invokevirtual 379, 3) := by decide +kernel
theorem d_Model_explode_22 : decode b_Model_explode 22 = .ok (.ifCond .ne 5, 3) := by decide +kernel
theorem d_Model_explode_25 : decode b_Model_explode 25 = .ok (.iconst 3, 1) := by decide +kernel
theorem d_Model_explode_26 : decode b_Model_explode 26 = .ok (.ireturn, 1) := by decide +kernel
theorem d_Model_explode_27 : decode b_Model_explode 27 = .ok (.aload_n 0, 1) := by decide +kernel
theorem d_Model_explode_28 : decode b_Model_explode 28 = .ok (.iconst 1, 1) := by decide +kernel
theorem d_Model_explode_29 : decode b_Model_explode 29 = .ok (.invokevirtual 250, 3) := by decide +kernel
theorem d_Model_explode_32 : decode b_Model_explode 32 = .ok (.istore_n 2, 1) := by decide +kernel
theorem d_Model_explode_33 : decode b_Model_explode 33 = .ok (.iconst 0, 1) := by decide +kernel
theorem d_Model_explode_34 : decode b_Model_explode 34 = .ok (.istore_n 3, 1) := by decide +kernel
theorem d_Model_explode_35 : decode b_Model_explode 35 = .ok (.iconst 0, 1) := by decide +kernel
theorem d_Model_explode_36 : decode b_Model_explode 36 = .ok (.istore 4, 2) := by decide +kernel
theorem d_Model_explode_38 : decode b_Model_explode 38 = .ok (.iload_n 1, 1) := by decide +kernel
theorem d_Model_explode_39 : decode b_Model_explode 39 = .ok (.iconst 1, 1) := by decide +kernel
theorem d_Model_explode_40 : decode b_Model_explode 40 = .ok (.isub, 1) := by decide +kernel
theorem d_Model_explode_41 : decode b_Model_explode 41 = .ok (.istore 5, 2) := by decide +kernel
theorem d_Model_explode_43 : decode b_Model_explode 43 = .ok (.iload 5, 2) := by decide +kernel
theorem d_Model_explode_45 : decode b_Model_explode 45 = .ok (.ifCond .lt 99, 3) := by decide +kernel
theorem d_Model_explode_48 : decode b_Model_explode 48 = .ok (.aload_n 0, 1) := by decide +kernel
theorem d_Model_explode_49 : decode b_Model_explode 49 = .ok (.iconst 2, 1) := by decide +kernel
theorem d_Model_explode_50 : decode b_Model_explode 50 = .ok (.iconst 2, 1) := by decide +kernel
theorem d_Model_explode_51 : decode b_Model_explode 51 = .ok (.iconst 0, 1) := by decide +kernel
theorem d_Model_explode_52 : decode b_Model_explode 52 = .ok (.iconst 3, 1) := by decide +kernel
theorem d_Model_explode_53 : decode b_Model_explode 53 = .ok (.invokevirtual 318, 3) := by decide +kernel
theorem d_Model_explode_56 : decode b_Model_explode 56 = .ok (.istore 6, 2) := by decide +kernel
theorem d_Model_explode_58 : decode b_Model_explode 58 = .ok (.aload_n 0, 1) := by decide +kernel
theorem d_Model_explode_59 : decode b_Model_explode 59 = .ok (.getfield 10, 3) := by decide +kernel
theorem d_Model_explode_62 : decode b_Model_explode 62 = .ok (.iload 6, 2) := by decide +kernel
theorem d_Model_explode_64 : decode b_Model_explode 64 = .ok (.iconst 1, 1) := by decide +kernel
theorem d_Model_explode_65 : decode b_Model_explode 65 = .ok (.iadd, 1) := by decide +kernel
theorem d_Model_explode_66 : decode b_Model_explode 66 = .ok (.iconst 0, 1) := by decide +kernel
theorem d_Model_explode_67 : decode b_Model_explode 67 = .ok (.iastore, 1) := by decide +kernel
theorem d_Model_explode_68 : decode b_Model_explode 68 = .ok (.aload_n 0, 1) := by decide +kernel
theorem d_Model_explode_69 : decode b_Model_explode 69 = .ok (.getfield 14, 3) := by decide +kernel
theorem d_Model_explode_72 : decode b_Model_explode 72 = .ok (.iload 6, 2) := by decide +kernel
theorem d_Model_explode_74 : decode b_Model_explode 74 = .ok (.iconst 1, 1) := by decide +kernel
theorem d_Model_explode_75 : decode b_Model_explode 75 = .ok (.iadd, 1) := by decide +kernel
theorem d_Model_explode_76 : decode b_Model_explode 76 = .ok (.aload_n 0, 1) := by decide +kernel
theorem d_Model_explode_77 : decode b_Model_explode 77 = .ok (.iload_n 2, 1) := by decide +kernel
theorem d_Model_explode_78 : decode b_Model_explode 78 = .ok (.iload 5, 2) := by decide +kernel
theorem d_Model_explode_80 : decode b_Model_explode 80 = .ok (.invokevirtual 350, 3) := by decide +kernel
theorem d_Model_explode_83 : decode b_Model_explode 83 = .ok (.iastore, 1) := by decide +kernel
theorem d_Model_explode_84 : decode b_Model_explode 84 = .ok (.aload_n 0, 1) := by decide +kernel
theorem d_Model_explode_85 : decode b_Model_explode 85 = .ok (.getfield 10, 3) := by decide +kernel
theorem d_Model_explode_88 : decode b_Model_explode 88 = .ok (.iload 6, 2) := by decide +kernel
theorem d_Model_explode_90 : decode b_Model_explode 90 = .ok (.iconst 2, 1) := by decide +kernel
theorem d_Model_explode_91 : decode b_Model_explode 91 = .ok (.iadd, 1) := by decide +kernel
theorem d_Model_explode_92 : decode b_Model_explode 92 = .ok (.iload_n 3, 1) := by decide +kernel
theorem d_Model_explode_93 : decode b_Model_explode 93 = .ok (.iastore, 1) := by decide +kernel
theorem d_Model_explode_94 : decode b_Model_explode 94 = .ok (.aload_n 0, 1) := by decide +kernel
theorem d_Model_explode_95 : decode b_Model_explode 95 = .ok (.getfield 14, 3) := by decide +kernel
theorem d_Model_explode_98 : decode b_Model_explode 98 = .ok (.iload 6, 2) := by decide +kernel
theorem d_Model_explode_100 : decode b_Model_explode 100 = .ok (.iconst 2, 1) := by decide +kernel
theorem d_Model_explode_101 : decode b_Model_explode 101 = .ok (.iadd, 1) := by decide +kernel
theorem d_Model_explode_102 : decode b_Model_explode 102 = .ok (.iload 4, 2) := by decide +kernel
theorem d_Model_explode_104 : decode b_Model_explode 104 = .ok (.iastore, 1) := by decide +kernel
theorem d_Model_explode_105 : decode b_Model_explode 105 = .ok (.aload_n 0, 1) := by decide +kernel
theorem d_Model_explode_106 : decode b_Model_explode 106 = .ok (.iconst 3, 1) := by decide +kernel
theorem d_Model_explode_107 : decode b_Model_explode 107 = .ok (.iconst 1, 1) := by decide +kernel
theorem d_Model_explode_108 : decode b_Model_explode 108 = .ok (.iconst 1, 1) := by decide +kernel
theorem d_Model_explode_109 : decode b_Model_explode 109 = .ok (.iconst 2, 1) := by decide +kernel
theorem d_Model_explode_110 : decode b_Model_explode 110 = .ok (.invokevirtual 318, 3) := by decide +kernel
theorem d_Model_explode_113 : decode b_Model_explode 113 = .ok (.istore 4, 2) := by decide +kernel
theorem d_Model_explode_115 : decode b_Model_explode 115 = .ok (.aload_n 0, 1) := by decide +kernel
theorem d_Model_explode_116 : decode b_Model_explode 116 = .ok (.getfield 10, 3) := by decide +kernel
theorem d_Model_explode_119 : decode b_Model_explode 119 = .ok (.iload 4, 2) := by decide +kernel
theorem d_Model_explode_121 : decode b_Model_explode 121 = .ok (.iconst 1, 1) := by decide +kernel
theorem d_Model_explode_122 : decode b_Model_explode 122 = .ok (.iadd, 1) := by decide +kernel
theorem d_Model_explode_123 : decode b_Model_explode 123 = .ok (.iconst 2, 1) := by decide +kernel
theorem d_Model_explode_124 : decode b_Model_explode 124 = .ok (.iastore, 1) := by decide +kernel
theorem d_Model_explode_125 : decode b_Model_explode 125 = .ok (.aload_n 0, 1) := by decide +kernel
theorem d_Model_explode_126 : decode b_Model_explode 126 = .ok (.getfield 14, 3) := by decide +kernel
theorem d_Model_explode_129 : decode b_Model_explode 129 = .ok (.iload 4, 2) := by decide +kernel
theorem d_Model_explode_131 : decode b_Model_explode 131 = .ok (.iconst 1, 1) := by decide +kernel
theorem d_Model_explode_132 : decode b_Model_explode 132 = .ok (.iadd, 1) := by decide +kernel
theorem d_Model_explode_133 : decode b_Model_explode 133 = .ok (.iload 6, 2) := by decide +kernel
theorem d_Model_explode_135 : decode b_Model_explode 135 = .ok (.iastore, 1) := by decide +kernel
theorem d_Model_explode_136 : decode b_Model_explode 136 = .ok (.iconst 2, 1) := by decide +kernel
theorem d_Model_explode_137 : decode b_Model_explode 137 = .ok (.istore_n 3, 1) := by decide +kernel
theorem d_Model_explode_138 : decode b_Model_explode 138 = .ok (.iinc 5 (-1), 3) := by decide +kernel
theorem d_Model_explode_141 : decode b_Model_explode 141 = .ok (.goto (-98), 3) := by decide +kernel
theorem d_Model_explode_144 : decode b_Model_explode 144 = .ok (.aload_n 0, 1) := by decide +kernel
theorem d_Model_explode_145 : decode b_Model_explode 145 = .ok (.iconst 1, 1) := by decide +kernel
theorem d_Model_explode_146 : decode b_Model_explode 146 = .ok (.iload_n 3, 1) := by decide +kernel
theorem d_Model_explode_147 : decode b_Model_explode 147 = .ok (.iload 4, 2) := by decide +kernel
theorem d_Model_explode_149 : decode b_Model_explode 149 = .ok (.invokevirtual 207, 3) := by decide +kernel
theorem d_Model_explode_152 : decode b_Model_explode 152 = .ok (.ireturn, 1) := by decide +kernel
theorem d_Model_ordered_0 : decode b_Model_ordered 0 = .ok (.iload_n 0, 1) := by decide +kernel
theorem d_Model_ordered_1 : decode b_Model_ordered 1 = .ok (.bipush 33, 2) := by decide +kernel
theorem d_Model_ordered_3 : decode b_Model_ordered 3 = .ok (.if_icmp .ne 15, 3) := by decide +kernel
theorem d_Model_ordered_6 : decode b_Model_ordered 6 = .ok (.iload_n 1, 1) := by decide +kernel
theorem d_Model_ordered_7 : decode b_Model_ordered 7 = .ok (.ifCond .ge 7, 3) := by decide +kernel
theorem d_Model_ordered_10 : decode b_Model_ordered 10 = .ok (.iconst 1, 1) := by decide +kernel
theorem d_Model_ordered_11 : decode b_Model_ordered 11 = .ok (.goto 52, 3) := by decide +kernel
theorem d_Model_ordered_14 : decode b_Model_ordered 14 = .ok (.iconst 0, 1) := by decide +kernel
theorem d_Model_ordered_15 : decode b_Model_ordered 15 = .ok (.goto 48, 3) := by decide +kernel
theorem d_Model_ordered_18 : decode b_Model_ordered 18 = .ok (.iload_n 0, 1) := by decide +kernel
theorem d_Model_ordered_19 : decode b_Model_ordered 19 = .ok (.bipush 34, 2) := by decide +kernel
theorem d_Model_ordered_21 : decode b_Model_ordered 21 = .ok (.if_icmp .ne 15, 3) := by decide +kernel
theorem d_Model_ordered_24 : decode b_Model_ordered 24 = .ok (.iload_n 1, 1) := by decide +kernel
theorem d_Model_ordered_25 : decode b_Model_ordered 25 = .ok (.ifCond .le 7, 3) := by decide +kernel
theorem d_Model_ordered_28 : decode b_Model_ordered 28 = .ok (.iconst 1, 1) := by decide +kernel
theorem d_Model_ordered_29 : decode b_Model_ordered 29 = .ok (.goto 34, 3) := by decide +kernel
theorem d_Model_ordered_32 : decode b_Model_ordered 32 = .ok (.iconst 0, 1) := by decide +kernel
theorem d_Model_ordered_33 : decode b_Model_ordered 33 = .ok (.goto 30, 3) := by decide +kernel
theorem d_Model_ordered_36 : decode b_Model_ordered 36 = .ok (.iload_n 0, 1) := by decide +kernel
theorem d_Model_ordered_37 : decode b_Model_ordered 37 = .ok (.bipush 35, 2) := by decide +kernel
theorem d_Model_ordered_39 : decode b_Model_ordered 39 = .ok (.if_icmp .ne 15, 3) := by decide +kernel
theorem d_Model_ordered_42 : decode b_Model_ordered 42 = .ok (.iload_n 1, 1) := by decide +kernel
theorem d_Model_ordered_43 : decode b_Model_ordered 43 = .ok (.ifCond .gt 7, 3) := by decide +kernel
theorem d_Model_ordered_46 : decode b_Model_ordered 46 = .ok (.iconst 1, 1) := by decide +kernel
theorem d_Model_ordered_47 : decode b_Model_ordered 47 = .ok (.goto 16, 3) := by decide +kernel
theorem d_Model_ordered_50 : decode b_Model_ordered 50 = .ok (.iconst 0, 1) := by decide +kernel
theorem d_Model_ordered_51 : decode b_Model_ordered 51 = .ok (.goto 12, 3) := by decide +kernel
theorem d_Model_ordered_54 : decode b_Model_ordered 54 = .ok (.iload_n 1, 1) := by decide +kernel
theorem d_Model_ordered_55 : decode b_Model_ordered 55 = .ok (.ifCond .lt 7, 3) := by decide +kernel
theorem d_Model_ordered_58 : decode b_Model_ordered 58 = .ok (.iconst 1, 1) := by decide +kernel
theorem d_Model_ordered_59 : decode b_Model_ordered 59 = .ok (.goto 4, 3) := by decide +kernel
theorem d_Model_ordered_62 : decode b_Model_ordered 62 = .ok (.iconst 0, 1) := by decide +kernel
theorem d_Model_ordered_63 : decode b_Model_ordered 63 = .ok (.istore_n 2, 1) := by decide +kernel
theorem d_Model_ordered_64 : decode b_Model_ordered 64 = .ok (.iload_n 0, 1) := by decide +kernel
theorem d_Model_ordered_65 : decode b_Model_ordered 65 = .ok (.bipush 32, 2) := by decide +kernel
theorem d_Model_ordered_67 : decode b_Model_ordered 67 = .ok (.if_icmp .ne 23, 3) := by decide +kernel
theorem d_Model_ordered_70 : decode b_Model_ordered 70 = .ok (.iload_n 1, 1) := by decide +kernel
theorem d_Model_ordered_71 : decode b_Model_ordered 71 = .ok (.ifCond .ge 7, 3) := by decide +kernel
theorem d_Model_ordered_74 : decode b_Model_ordered 74 = .ok (.iconst (-1), 1) := by decide +kernel
theorem d_Model_ordered_75 : decode b_Model_ordered 75 = .ok (.goto 24, 3) := by decide +kernel
theorem d_Model_ordered_78 : decode b_Model_ordered 78 = .ok (.iload_n 1, 1) := by decide +kernel
theorem d_Model_ordered_79 : decode b_Model_ordered 79 = .ok (.ifCond .le 7, 3) := by decide +kernel
theorem d_Model_ordered_82 : decode b_Model_ordered 82 = .ok (.iconst 1, 1) := by decide +kernel
theorem d_Model_ordered_83 : decode b_Model_ordered 83 = .ok (.goto 16, 3) := by decide +kernel
theorem d_Model_ordered_86 : decode b_Model_ordered 86 = .ok (.iconst 0, 1) := by decide +kernel
theorem d_Model_ordered_87 : decode b_Model_ordered 87 = .ok (.goto 12, 3) := by decide +kernel
theorem d_Model_ordered_90 : decode b_Model_ordered 90 = .ok (.iload_n 2, 1) := by decide +kernel
theorem d_Model_ordered_91 : decode b_Model_ordered 91 = .ok (.ifCond .eq 7, 3) := by decide +kernel
theorem d_Model_ordered_94 : decode b_Model_ordered 94 = .ok (.iconst 1, 1) := by decide +kernel
theorem d_Model_ordered_95 : decode b_Model_ordered 95 = .ok (.goto 4, 3) := by decide +kernel
theorem d_Model_ordered_98 : decode b_Model_ordered 98 = .ok (.iconst 0, 1) := by decide +kernel
theorem d_Model_ordered_99 : decode b_Model_ordered 99 = .ok (.ireturn, 1) := by decide +kernel
theorem k902 : Cond.code y_Model_isList b_Model_isList 3 (some .boolean) ∈ lw_g := kg (List.mem_append_right _ (List.mem_of_getElem? (i := 1474) (by decide +kernel))) rfl
theorem k903 : Cond.methodLink R_Model 404 y_Model_isList ∈ lw_g := kg (List.mem_append_right _ (List.mem_of_getElem? (i := 1471) (by decide +kernel))) rfl
theorem k904 : Cond.instanceMethod y_Model_isList ∈ lw_g := kg (List.mem_append_right _ (List.mem_of_getElem? (i := 1473) (by decide +kernel))) rfl
theorem k905 : Cond.selects R_Model y_Model_isList y_Model_isList ∈ lw_g := kg (List.mem_append_left _ (List.mem_of_getElem? (i := 100) (by decide +kernel))) rfl
set_option maxHeartbeats 4000000 in
set_option maxRecDepth 100000 in
theorem l_Model_implode_1 {p : Program} {l : Launch} {e : Env} {s : State} {m : MethodId} {args : Array Value} {below : List Frame} {meth : Method} {c : Code} {Q : State → Prop} {A : Nat → Prop} (dC : Nat → ClassId) (dI : Nat → Nat → Nat) (N : Nat) (cB : ClassId) (cI : ClassId) (o_Model : Nat) (r : Nat → Nat) (I : Nat → Int32) (F : Nat → Nat → Int32) {ζ : Type} {z : ζ} (hx : p.tables.exec = Jvm.exec) (hb : c.code = b_Model_implode) (hml : c.maxLocals = 8) (hown : s.vm.findClass R_Model = some m.cls) (hg : ∀ w ∈ lw_g, w.before args s = true) (hN : dz_N s) (hK : va_K (dC, dI) classes [(cB, .byte), (cI, .int)] s) (hA : ∀ q : Nat, s.heap.size ≤ q → A q) {k1_112 : Int32 → Int32 → Int32 → Option (ζ)} {k1_84 : Int32 → Int32 → Int32 → Option (ζ)} (hk1_112 : ∀ (v1_1 : Int32) (v1_2 : Int32) (v1_3 : Int32)    (H : Heap) (locs : List Loc) (ls : Array Slot), k1_112 v1_1 v1_2 v1_3 = some z → va_P (dC, dI) classes (wD cB cI o_Model r I F) H → va_D A (wD cB cI o_Model r I F) → va_S A s.heap H locs → lv_has ls 8 [(3, .int v1_3), (2, .int v1_2), (1, .int v1_1), (0, .ref o_Model)] → W p l e ({ frames := 8, cells := 0, slots := 0, locals := 171 } : Room) s m args below meth c H locs 0 0 Q (F0 m 112 ls [])) (hk1_84 : ∀ (v1_1 : Int32) (v1_2 : Int32) (v1_3 : Int32)    (H : Heap) (locs : List Loc) (ls : Array Slot), k1_84 v1_1 v1_2 v1_3 = some z → va_P (dC, dI) classes (wD cB cI o_Model r I F) H → va_D A (wD cB cI o_Model r I F) → va_S A s.heap H locs → lv_has ls 8 [(3, .int v1_3), (2, .int v1_2), (1, .int v1_1), (0, .ref o_Model)] → W p l e ({ frames := 8, cells := 0, slots := 0, locals := 171 } : Room) s m args below meth c H locs 0 0 Q (F0 m 84 ls [])) : ∀ (n1 : Nat) (v1_1 : Int32) (v1_2 : Int32) (v1_3 : Int32)   (H : Heap) (locs : List Loc) (ls : Array Slot), lm_Model_implode_1 N I F k1_112 k1_84 n1 v1_1 v1_2 v1_3 = some z → va_P (dC, dI) classes (wD cB cI o_Model r I F) H → va_D A (wD cB cI o_Model r I F) → va_S A s.heap H locs → lv_has ls 8 [(3, .int v1_3), (2, .int v1_2), (1, .int v1_1), (0, .ref o_Model)] → W p l e ({ frames := 8, cells := 0, slots := 0, locals := 171 } : Room) s m args below meth c H locs 0 0 Q (F0 m 26 ls []) := by
  intro n1
  induction n1 with
  | zero =>
    intro v1_1 v1_2 v1_3 H locs ls h hP hD hS hl
    rw [lm_Model_implode_1] at h
    cases h
  | succ n1 ih1 =>
    intro v1_1 v1_2 v1_3 H locs ls h hP hD hS hl
    rw [lm_Model_implode_1] at h
    refine lv_aload_n hx hb d_Model_implode_26 rfl (lv_at hl 3 rfl) ?_
    refine lv_iload_n hx hb d_Model_implode_27 rfl (lv_at hl 1 rfl) ?_
    refine lv_iload_n hx hb d_Model_implode_28 rfl (lv_at hl 0 rfl) ?_
    obtain ⟨z3_1, hc3, h⟩ := dz_ob h
    try dsimp only at h
    have hPc := hP
    have hKc := hK
    refine vp_callSi (va_Run.run (va_runV (As := [.int v1_2, .int v1_3]) (rest := []) ⟨hx, hb, hml, hown, hg⟩ (c_Model_isList l dC dI N cB cI o_Model r I F v1_2 v1_3 z3_1 hc3) (cwV 2 hg (gd_V k903 k904 k905 k707 k902) rfl rfl rfl (by decide +kernel) ⟨Nat.le_of_ble_eq_true rfl, Nat.le_of_ble_eq_true rfl⟩) ⟨dz_blindR, va_recv hKc hPc (ci := 10) (q0 := 0) rfl rfl, fun U hU hW => ⟨rfl, dz_Nw hW hN, by rw [hU]; exact hPc, va_K.moved hW.alike hKc⟩⟩ rfl rfl hl.1 rfl (lv_room (Nat.le_of_ble_eq_true rfl)) d_Model_implode_29 ⟨Nat.le_of_ble_eq_true rfl, Nat.le_of_ble_eq_true rfl⟩)) (fun r3 hw => ?_)
    obtain ⟨hw, hbz3⟩ := hw
    have hw : z3_1 = r3 := hw.symm
    subst hw
    refine lv_if_eq (tgt := 112) hx hb d_Model_implode_32 (by decide) (fun c4 => ?_) (fun c4 => ?_)
    · rw [if_pos c4] at h
      exact hk1_112 v1_1 v1_2 v1_3 _ _ _ h hP hD hS (lv_sub hl [0, 1, 2, 3] rfl)
    · rw [if_neg c4] at h
      refine lv_aload_n hx hb d_Model_implode_35 rfl (lv_at hl 3 rfl) ?_
      refine va_get (D := (dC, dI)) (ci := 10) (v := .ref (r 1)) (C := R_Model) (T := F_Model) (N := 54) hx hb hg i_Model hown hK hP 0 rfl rfl 1 (by decide) (hg _ k742) (fun _ h9 => h9) rfl d_Model_implode_36 ?_
      refine lv_iload_n hx hb d_Model_implode_39 rfl (lv_at hl 0 rfl) ?_
      refine lv_iconst (v := 1) hx hb d_Model_implode_40 (by decide) ?_
      refine lv_iadd hx hb d_Model_implode_41 ?_
      obtain ⟨i5, h⟩ := dz_oi h
      refine va_iald (D := (dC, dI)) (f := F 1) hx hb hK hP 2 1 rfl rfl i5 d_Model_implode_42 ?_
      refine lv_istore (lv' := [(4, .int ((F 1) (v1_3 + 1).toNatClampNeg)), (3, .int v1_3), (2, .int v1_2), (1, .int v1_1), (0, .ref o_Model)]) hx hb d_Model_implode_43 hl (by decide) rfl (fun ls hl => ?_)
      refine lv_aload_n hx hb d_Model_implode_45 rfl (lv_at hl 4 rfl) ?_
      refine va_get (D := (dC, dI)) (ci := 10) (v := .ref (r 0)) (C := R_Model) (T := F_Model) (N := 54) hx hb hg i_Model hown hK hP 0 rfl rfl 0 (by decide) (hg _ k737) (fun _ h9 => h9) rfl d_Model_implode_46 ?_
      refine lv_iload hx hb d_Model_implode_49 (lv_at hl 0 rfl) ?_
      refine lv_iconst (v := 1) hx hb d_Model_implode_51 (by decide) ?_
      refine lv_iadd hx hb d_Model_implode_52 ?_
      obtain ⟨i6, h⟩ := dz_oi h
      refine va_iald (D := (dC, dI)) (f := F 0) hx hb hK hP 1 1 rfl rfl i6 d_Model_implode_53 ?_
      refine lv_if_ne (tgt := 84) hx hb d_Model_implode_54 (by decide) (fun c7 => ?_) (fun c7 => ?_)
      · rw [if_neg c7] at h
        exact hk1_84 v1_1 v1_2 v1_3 _ _ _ h hP hD hS (lv_sub hl [1, 2, 3, 4] rfl)
      · rw [if_pos c7] at h
        refine lv_aload_n hx hb d_Model_implode_57 rfl (lv_at hl 4 rfl) ?_
        refine va_get (D := (dC, dI)) (ci := 10) (v := .ref (r 1)) (C := R_Model) (T := F_Model) (N := 54) hx hb hg i_Model hown hK hP 0 rfl rfl 1 (by decide) (hg _ k742) (fun _ h9 => h9) rfl d_Model_implode_58 ?_
        refine lv_iload hx hb d_Model_implode_61 (lv_at hl 0 rfl) ?_
        refine lv_iconst (v := 1) hx hb d_Model_implode_63 (by decide) ?_
        refine lv_iadd hx hb d_Model_implode_64 ?_
        obtain ⟨i8, h⟩ := dz_oi h
        refine va_iald (D := (dC, dI)) (f := F 1) hx hb hK hP 2 1 rfl rfl i8 d_Model_implode_65 ?_
        refine lv_if_lt (tgt := 84) hx hb d_Model_implode_66 (by decide) (fun c9 => ?_) (fun c9 => ?_)
        · rw [if_pos c9] at h
          exact hk1_84 v1_1 v1_2 v1_3 _ _ _ h hP hD hS (lv_sub hl [1, 2, 3, 4] rfl)
        · rw [if_neg c9] at h
          refine lv_aload_n hx hb d_Model_implode_69 rfl (lv_at hl 4 rfl) ?_
          refine va_get (D := (dC, dI)) (ci := 10) (v := .ref (r 1)) (C := R_Model) (T := F_Model) (N := 54) hx hb hg i_Model hown hK hP 0 rfl rfl 1 (by decide) (hg _ k742) (fun _ h9 => h9) rfl d_Model_implode_70 ?_
          refine lv_iload hx hb d_Model_implode_73 (lv_at hl 0 rfl) ?_
          refine lv_iconst (v := 1) hx hb d_Model_implode_75 (by decide) ?_
          refine lv_iadd hx hb d_Model_implode_76 ?_
          obtain ⟨i10, h⟩ := dz_oi h
          refine va_iald (D := (dC, dI)) (f := F 1) hx hb hK hP 2 1 rfl rfl i10 d_Model_implode_77 ?_
          refine lv_sipush (v := 255) hx hb d_Model_implode_78 (by decide) ?_
          refine lv_icmp_le (tgt := 86) hx hb d_Model_implode_81 (by decide) (fun c11 => ?_) (fun c11 => ?_)
          · rw [if_pos c11] at h
            refine lv_aload_n hx hb d_Model_implode_86 rfl (lv_at hl 4 rfl) ?_
            refine va_get (D := (dC, dI)) (ci := 10) (v := .ref (r 0)) (C := R_Model) (T := F_Model) (N := 54) hx hb hg i_Model hown hK hP 0 rfl rfl 0 (by decide) (hg _ k737) (fun _ h9 => h9) rfl d_Model_implode_87 ?_
            refine lv_iload hx hb d_Model_implode_90 (lv_at hl 0 rfl) ?_
            refine lv_iconst (v := 2) hx hb d_Model_implode_92 (by decide) ?_
            refine lv_iadd hx hb d_Model_implode_93 ?_
            obtain ⟨i12, h⟩ := dz_oi h
            refine va_iald (D := (dC, dI)) (f := F 0) hx hb hK hP 1 1 rfl rfl i12 d_Model_implode_94 ?_
            refine lv_istore_n (lv' := [(2, .int ((F 0) (((F 1) (v1_3 + 1).toNatClampNeg) + 2).toNatClampNeg)), (4, .int ((F 1) (v1_3 + 1).toNatClampNeg)), (3, .int v1_3), (1, .int v1_1), (0, .ref o_Model)]) hx hb d_Model_implode_95 rfl hl (by decide) rfl (fun ls hl => ?_)
            refine lv_aload_n hx hb d_Model_implode_96 rfl (lv_at hl 4 rfl) ?_
            refine va_get (D := (dC, dI)) (ci := 10) (v := .ref (r 1)) (C := R_Model) (T := F_Model) (N := 54) hx hb hg i_Model hown hK hP 0 rfl rfl 1 (by decide) (hg _ k742) (fun _ h9 => h9) rfl d_Model_implode_97 ?_
            refine lv_iload hx hb d_Model_implode_100 (lv_at hl 1 rfl) ?_
            refine lv_iconst (v := 2) hx hb d_Model_implode_102 (by decide) ?_
            refine lv_iadd hx hb d_Model_implode_103 ?_
            obtain ⟨i13, h⟩ := dz_oi h
            refine va_iald (D := (dC, dI)) (f := F 1) hx hb hK hP 2 1 rfl rfl i13 d_Model_implode_104 ?_
            refine lv_istore_n (lv' := [(3, .int ((F 1) (((F 1) (v1_3 + 1).toNatClampNeg) + 2).toNatClampNeg)), (2, .int ((F 0) (((F 1) (v1_3 + 1).toNatClampNeg) + 2).toNatClampNeg)), (4, .int ((F 1) (v1_3 + 1).toNatClampNeg)), (1, .int v1_1), (0, .ref o_Model)]) hx hb d_Model_implode_105 rfl hl (by decide) rfl (fun ls hl => ?_)
            refine lv_iinc (v := v1_1 + 1) (lv' := [(1, .int (v1_1 + 1)), (3, .int ((F 1) (((F 1) (v1_3 + 1).toNatClampNeg) + 2).toNatClampNeg)), (2, .int ((F 0) (((F 1) (v1_3 + 1).toNatClampNeg) + 2).toNatClampNeg)), (4, .int ((F 1) (v1_3 + 1).toNatClampNeg)), (0, .ref o_Model)]) hx hb d_Model_implode_106 hl (k := 3) rfl rfl (by decide) rfl (fun ls hl => ?_)
            refine lv_goto (tgt := 26) hx hb d_Model_implode_109 (by decide) ?_
            exact ih1 (v1_1 + 1) ((F 0) (((F 1) (v1_3 + 1).toNatClampNeg) + 2).toNatClampNeg) ((F 1) (((F 1) (v1_3 + 1).toNatClampNeg) + 2).toNatClampNeg) _ _ _ h hP hD hS (lv_sub hl [1, 2, 0, 4] rfl)
          · rw [if_neg c11] at h
            exact hk1_84 v1_1 v1_2 v1_3 _ _ _ h hP hD hS (lv_sub hl [1, 2, 3, 4] rfl)
set_option maxHeartbeats 4000000 in
set_option maxRecDepth 100000 in
theorem l_Model_implode_2 {p : Program} {l : Launch} {e : Env} {s : State} {m : MethodId} {args : Array Value} {below : List Frame} {meth : Method} {c : Code} {Q : State → Prop} {A : Nat → Prop} (dC : Nat → ClassId) (dI : Nat → Nat → Nat) (N : Nat) (cB : ClassId) (cI : ClassId) (o_Model : Nat) (r : Nat → Nat) (v1_3 : Int32) (v1_2 : Int32) (v1_1 : Int32) (z20_1 : Int32) (z20_3 : Nat → Int32) {ζ : Type} {z : ζ} (hx : p.tables.exec = Jvm.exec) (hb : c.code = b_Model_implode) (hml : c.maxLocals = 8) (hown : s.vm.findClass R_Model = some m.cls) (hg : ∀ w ∈ lw_g, w.before args s = true) (hN : dz_N s) (hK : va_K (dC, dI) classes [(cB, .byte), (cI, .int)] s) (hA : ∀ q : Nat, s.heap.size ≤ q → A q) {k2_226 : Int32 → Int32 → (Nat → Nat → Int32) → Option (ζ)} (hk2_226 : ∀ (v2_5 : Int32) (v2_6 : Int32) (w2_F : (Nat → Nat → Int32))    (H : Heap) (locs : List Loc) (ls : Array Slot), k2_226 v2_5 v2_6 w2_F = some z → va_P (dC, dI) classes (wD cB cI o_Model r z20_3 w2_F) H → va_D A (wD cB cI o_Model r z20_3 w2_F) → va_S A s.heap H locs → lv_has ls 8 [(6, .int v2_6), (5, .int v2_5), (4, .int z20_1), (3, .int v1_3), (2, .int v1_2), (1, .int v1_1), (0, .ref o_Model)] → W p l e ({ frames := 8, cells := 0, slots := 0, locals := 171 } : Room) s m args below meth c H locs 0 0 Q (F0 m 226 ls [])) : ∀ (n2 : Nat) (v2_5 : Int32) (v2_6 : Int32) (w2_F : (Nat → Nat → Int32))   (H : Heap) (locs : List Loc) (ls : Array Slot), lm_Model_implode_2 N v1_1 z20_1 z20_3 k2_226 n2 v2_5 v2_6 w2_F = some z → va_P (dC, dI) classes (wD cB cI o_Model r z20_3 w2_F) H → va_D A (wD cB cI o_Model r z20_3 w2_F) → va_S A s.heap H locs → lv_has ls 8 [(6, .int v2_6), (5, .int v2_5), (4, .int z20_1), (3, .int v1_3), (2, .int v1_2), (1, .int v1_1), (0, .ref o_Model)] → W p l e ({ frames := 8, cells := 0, slots := 0, locals := 171 } : Room) s m args below meth c H locs 0 0 Q (F0 m 175 ls []) := by
  intro n2
  induction n2 with
  | zero =>
    intro v2_5 v2_6 w2_F H locs ls h hP hD hS hl
    rw [lm_Model_implode_2] at h
    cases h
  | succ n2 ih2 =>
    intro v2_5 v2_6 w2_F H locs ls h hP hD hS hl
    rw [lm_Model_implode_2] at h
    refine lv_iload hx hb d_Model_implode_175 (lv_at hl 0 rfl) ?_
    refine lv_iload_n hx hb d_Model_implode_177 rfl (lv_at hl 5 rfl) ?_
    refine lv_icmp_ge (tgt := 226) hx hb d_Model_implode_178 (by decide) (fun c22 => ?_) (fun c22 => ?_)
    · rw [if_pos c22] at h
      exact hk2_226 v2_5 v2_6 w2_F _ _ _ h hP hD hS (lv_sub hl [0, 1, 2, 3, 4, 5, 6] rfl)
    · rw [if_neg c22] at h
      refine lv_aload_n hx hb d_Model_implode_181 rfl (lv_at hl 6 rfl) ?_
      refine va_get (D := (dC, dI)) (ci := 10) (v := .ref (r 1)) (C := R_Model) (T := F_Model) (N := 54) hx hb hg i_Model hown hK hP 0 rfl rfl 1 (by decide) (hg _ k742) (fun _ h9 => h9) rfl d_Model_implode_182 ?_
      refine lv_iload hx hb d_Model_implode_185 (lv_at hl 1 rfl) ?_
      refine lv_iconst (v := 1) hx hb d_Model_implode_187 (by decide) ?_
      refine lv_iadd hx hb d_Model_implode_188 ?_
      obtain ⟨i23, h⟩ := dz_oi h
      refine va_iald (D := (dC, dI)) (f := w2_F 1) hx hb hK hP 2 1 rfl rfl i23 d_Model_implode_189 ?_
      refine lv_istore (lv' := [(7, .int ((w2_F 1) (v2_5 + 1).toNatClampNeg)), (6, .int v2_6), (5, .int v2_5), (4, .int z20_1), (3, .int v1_3), (2, .int v1_2), (1, .int v1_1), (0, .ref o_Model)]) hx hb d_Model_implode_190 hl (by decide) rfl (fun ls hl => ?_)
      refine lv_aload_n hx hb d_Model_implode_192 rfl (lv_at hl 7 rfl) ?_
      refine lv_iload hx hb d_Model_implode_193 (lv_at hl 3 rfl) ?_
      refine lv_iload hx hb d_Model_implode_195 (lv_at hl 1 rfl) ?_
      refine lv_aload_n hx hb d_Model_implode_197 rfl (lv_at hl 7 rfl) ?_
      refine va_get (D := (dC, dI)) (ci := 10) (v := .ref (r 1)) (C := R_Model) (T := F_Model) (N := 54) hx hb hg i_Model hown hK hP 0 rfl rfl 1 (by decide) (hg _ k742) (fun _ h9 => h9) rfl d_Model_implode_198 ?_
      refine lv_iload hx hb d_Model_implode_201 (lv_at hl 0 rfl) ?_
      refine lv_iconst (v := 1) hx hb d_Model_implode_203 (by decide) ?_
      refine lv_iadd hx hb d_Model_implode_204 ?_
      obtain ⟨i24, h⟩ := dz_oi h
      refine va_iald (D := (dC, dI)) (f := w2_F 1) hx hb hK hP 2 1 rfl rfl i24 d_Model_implode_205 ?_
      obtain ⟨z25_1, hc25, h⟩ := dz_ob h
      try dsimp only at h
      have hPc := hP
      have hKc := hK
      have hDc := hD
      have hFc := dz_freeall hD hS hA
      refine va_callv (va_runV (As := [.int z20_1, .int v2_6, .int ((w2_F 1) (((w2_F 1) (v2_5 + 1).toNatClampNeg) + 1).toNatClampNeg)]) (rest := []) ⟨hx, hb, hml, hown, hg⟩ (c_Model_setByte l dC dI N cB cI o_Model r z20_3 w2_F z20_1 v2_6 ((w2_F 1) (((w2_F 1) (v2_5 + 1).toNatClampNeg) + 1).toNatClampNeg) H.size z25_1 hc25) (cwV 3 hg (gd_V k796 k797 k798 k707 k795) rfl rfl rfl (by decide +kernel) ⟨Nat.le_of_ble_eq_true rfl, Nat.le_of_ble_eq_true rfl⟩) ⟨dz_blind, va_recv hKc hPc (ci := 10) (q0 := 0) rfl rfl, fun U hU hW => ⟨rfl, dz_Nw hW hN, by rw [hU], by rw [hU]; exact hPc, va_K.moved hW.alike hKc, hDc.weaken (fun _ _ _ _ => trivial)⟩⟩ rfl rfl hl.1 rfl (lv_room (Nat.le_of_ble_eq_true rfl)) d_Model_implode_206 ⟨Nat.le_of_ble_eq_true rfl, Nat.le_of_ble_eq_true rfl⟩) hS (fun q _ h => hFc q h) hFc (fun u25 t25 H1 locs ht hvm hw hB hz1 hk1 hS => ?_)
      obtain ⟨hP1, hK1, hD1⟩ := hB
      rw [ht] at hP1
      have hP := hP1
      have hD := hD1.weaken (fun _ q _ h => hFc q.1 h)
      generalize H1 = H at hP hS ⊢
      have hP : va_P (dC, dI) classes (wD cB cI o_Model r z20_3 z25_1) H := hP
      have hD : va_D A (wD cB cI o_Model r z20_3 z25_1) := hD
      refine lv_aload_n hx hb d_Model_implode_209 rfl (lv_at hl 7 rfl) ?_
      refine va_get (D := (dC, dI)) (ci := 10) (v := .ref (r 1)) (C := R_Model) (T := F_Model) (N := 54) hx hb hg i_Model hown hK hP 0 rfl rfl 1 (by decide) (hg _ k742) (fun _ h9 => h9) rfl d_Model_implode_210 ?_
      refine lv_iload hx hb d_Model_implode_213 (lv_at hl 0 rfl) ?_
      refine lv_iconst (v := 2) hx hb d_Model_implode_215 (by decide) ?_
      refine lv_iadd hx hb d_Model_implode_216 ?_
      obtain ⟨i26, h⟩ := dz_oi h
      refine va_iald (D := (dC, dI)) (f := z25_1 1) hx hb hK hP 2 1 rfl rfl i26 d_Model_implode_217 ?_
      refine lv_istore (lv' := [(5, .int ((z25_1 1) (((w2_F 1) (v2_5 + 1).toNatClampNeg) + 2).toNatClampNeg)), (7, .int ((w2_F 1) (v2_5 + 1).toNatClampNeg)), (6, .int v2_6), (4, .int z20_1), (3, .int v1_3), (2, .int v1_2), (1, .int v1_1), (0, .ref o_Model)]) hx hb d_Model_implode_218 hl (by decide) rfl (fun ls hl => ?_)
      refine lv_iinc (v := v2_6 + 1) (lv' := [(6, .int (v2_6 + 1)), (5, .int ((z25_1 1) (((w2_F 1) (v2_5 + 1).toNatClampNeg) + 2).toNatClampNeg)), (7, .int ((w2_F 1) (v2_5 + 1).toNatClampNeg)), (4, .int z20_1), (3, .int v1_3), (2, .int v1_2), (1, .int v1_1), (0, .ref o_Model)]) hx hb d_Model_implode_220 hl (k := 2) rfl rfl (by decide) rfl (fun ls hl => ?_)
      refine lv_goto (tgt := 175) hx hb d_Model_implode_223 (by decide) ?_
      exact ih2 ((z25_1 1) (((w2_F 1) (v2_5 + 1).toNatClampNeg) + 2).toNatClampNeg) (v2_6 + 1) z25_1 _ _ _ h hP hD hS (lv_sub hl [0, 1, 3, 4, 5, 6, 7] rfl)
set_option maxHeartbeats 4000000 in
set_option maxRecDepth 100000 in
theorem c_Model_implode (l : Launch) (dC : Nat → ClassId) (dI : Nat → Nat → Nat) (N : Nat) (cB : ClassId) (cI : ClassId) (o_Model : Nat) (r : Nat → Nat) (I : Nat → Int32) (F : Nat → Nat → Int32) (sz : Nat) (z : Int32 × (Nat → Nat → Int32) × (Nat → Int32)) (h : m_Model_implode N I F = some z) : Met l y_Model_implode (.code y_Model_implode b_Model_implode 8 (some .int) :: lw_g) ({ frames := 8, cells := 0, slots := 0, locals := 171 }) (va_Pc [.ref o_Model] (fun U => dz_N U ∧ U.heap.size = sz ∧ va_P (dC, dI) classes (wD cB cI o_Model r I F) U.heap ∧ va_K (dC, dI) classes [(cB, .byte), (cI, .int)] U ∧ va_D (fun _ => True) (wD cB cI o_Model r I F))) (va_Qi (fun (r : Int32) (_ : Unit) => r = z.1) (fun (u : Unit) t => va_P (dC, dI) classes (wD cB cI o_Model r z.2.2 z.2.1) t.heap ∧ va_K (dC, dI) classes [(cB, .byte), (cI, .int)] t ∧ va_D (va_A (wD cB cI o_Model r I F) sz) (wD cB cI o_Model r z.2.2 z.2.1)) (va_A (wD cB cI o_Model r I F) sz)) 0 0 (va_A (wD cB cI o_Model r I F) sz) := by
  refine Met.ofW (cc := b_Model_implode) (maxL := 8) (ret := (some .int)) (by decide +kernel) rfl ?_
  intro p e s m args below meth c s₁ B hml hv
  obtain ⟨rfl, hN, hsz, hP, hK, hD0⟩ := hv
  have hx := B.exec
  have hb := B.bytes
  have hr := B.returns
  have hg : ∀ w ∈ lw_g, w.before _ s = true := fun w hw => atoms_spec (ws := .code y_Model_implode b_Model_implode 8 (some .int) :: lw_g) B.pre w (List.mem_cons_of_mem _ hw)
  have hown : s.vm.findClass R_Model = some m.cls := findClass_of_methodNamed B.named
  have hlocks := B.notSynchronized
  clear B
  subst hsz
  have hD := hD0.self (sz := s.heap.size)
  generalize hAe : va_A (wD cB cI o_Model r I F) s.heap.size = A at hD ⊢
  have hA : ∀ q : Nat, s.heap.size ≤ q → A q := fun q h => by rw [← hAe]; exact Or.inr h
  have hS : va_S A s.heap s.heap [] := va_S.rf
  have hP : va_P (dC, dI) classes (wD cB cI o_Model r I F) s.heap := hP
  have hl := lv_entry ([.ref o_Model]) (n := 8) (Nat.le_of_ble_eq_true rfl)
  rw [lg_entry_eq]
  generalize (lg_sl ([.ref o_Model]) ++ List.replicate (8 - (lg_sl ([.ref o_Model])).length) Slot.unset).toArray = ls at hl ⊢
  have hl : lv_has ls 8 [(0, .ref o_Model)] := hl
  unfold m_Model_implode at h
  refine lv_iconst (v := 0) hx hb d_Model_implode_0 (by decide) ?_
  refine lv_istore_n (lv' := [(1, .int 0), (0, .ref o_Model)]) hx hb d_Model_implode_1 rfl hl (by decide) rfl (fun ls hl => ?_)
  refine lv_aload_n hx hb d_Model_implode_2 rfl (lv_at hl 1 rfl) ?_
  refine va_get (D := (dC, dI)) (ci := 10) (v := .ref (r 27)) (C := R_Model) (T := F_Model) (N := 54) hx hb hg i_Model hown hK hP 0 rfl rfl 27 (by decide) (hg _ k731) (fun _ h9 => h9) rfl d_Model_implode_3 ?_
  refine lv_aload_n hx hb d_Model_implode_6 rfl (lv_at hl 1 rfl) ?_
  refine va_get (D := (dC, dI)) (ci := 10) (v := .int (I 29)) (C := R_Model) (T := F_Model) (N := 54) hx hb hg i_Model hown hK hP 0 rfl rfl 29 (by decide) (hg _ k719) (fun _ h9 => h9) rfl d_Model_implode_7 ?_
  refine lv_iconst (v := 1) hx hb d_Model_implode_10 (by decide) ?_
  refine lv_isub hx hb d_Model_implode_11 ?_
  obtain ⟨i1, h⟩ := dz_oi h
  refine va_iald (D := (dC, dI)) (f := F 27) hx hb hK hP 17 1 rfl rfl i1 d_Model_implode_12 ?_
  refine lv_istore_n (lv' := [(2, .int ((F 27) ((I 29) - 1).toNatClampNeg)), (1, .int 0), (0, .ref o_Model)]) hx hb d_Model_implode_13 rfl hl (by decide) rfl (fun ls hl => ?_)
  refine lv_aload_n hx hb d_Model_implode_14 rfl (lv_at hl 2 rfl) ?_
  refine va_get (D := (dC, dI)) (ci := 10) (v := .ref (r 28)) (C := R_Model) (T := F_Model) (N := 54) hx hb hg i_Model hown hK hP 0 rfl rfl 28 (by decide) (hg _ k732) (fun _ h9 => h9) rfl d_Model_implode_15 ?_
  refine lv_aload_n hx hb d_Model_implode_18 rfl (lv_at hl 2 rfl) ?_
  refine va_get (D := (dC, dI)) (ci := 10) (v := .int (I 29)) (C := R_Model) (T := F_Model) (N := 54) hx hb hg i_Model hown hK hP 0 rfl rfl 29 (by decide) (hg _ k719) (fun _ h9 => h9) rfl d_Model_implode_19 ?_
  refine lv_iconst (v := 1) hx hb d_Model_implode_22 (by decide) ?_
  refine lv_isub hx hb d_Model_implode_23 ?_
  obtain ⟨i2, h⟩ := dz_oi h
  refine va_iald (D := (dC, dI)) (f := F 28) hx hb hK hP 18 1 rfl rfl i2 d_Model_implode_24 ?_
  refine lv_istore_n (lv' := [(3, .int ((F 28) ((I 29) - 1).toNatClampNeg)), (2, .int ((F 27) ((I 29) - 1).toNatClampNeg)), (1, .int 0), (0, .ref o_Model)]) hx hb d_Model_implode_25 rfl hl (by decide) rfl (fun ls hl => ?_)
  refine l_Model_implode_1 dC dI N cB cI o_Model r I F hx hb hml hown hg hN hK hA (fun v1_1 v1_2 v1_3 H locs ls h hP hD hS hl => ?_) (fun v1_1 v1_2 v1_3 H locs ls h hP hD hS hl => ?_) N (0 : Int32) ((F 27) ((I 29) - 1).toNatClampNeg) ((F 28) ((I 29) - 1).toNatClampNeg) _ _ _ h hP hD hS (lv_sub hl [0, 1, 2, 3] rfl)
  · skip
    refine lv_iload_n hx hb d_Model_implode_112 rfl (lv_at hl 1 rfl) ?_
    refine lv_if_ne (tgt := 120) hx hb d_Model_implode_113 (by decide) (fun c14 => ?_) (fun c14 => ?_)
    · rw [if_neg c14] at h
      refine lv_iconst (v := 4) hx hb d_Model_implode_120 (by decide) ?_
      obtain rfl := Option.some.inj h
      have hP9 := hP
      have hD9 := hD
      have hK9 := hK
      exact W.iret (v := 4) hx hb hr (fun t ht hW => ⟨⟨4, (), rfl, rfl, by rw [ht]; exact hP9, va_K.moved hW.alike hK9, hD9⟩, hS.F ht⟩) hS.2.2 d_Model_implode_121
    · rw [if_pos c14] at h
      refine lv_iload_n hx hb d_Model_implode_116 rfl (lv_at hl 0 rfl) ?_
      refine lv_if_eq (tgt := 122) hx hb d_Model_implode_117 (by decide) (fun c15 => ?_) (fun c15 => ?_)
      · rw [if_pos c15] at h
        refine lv_iload_n hx hb d_Model_implode_122 rfl (lv_at hl 2 rfl) ?_
        refine lv_ldcw (v := 65535) hx hb hown (hg _ k832) d_Model_implode_123 ?_
        refine lv_icmp_le (tgt := 136) hx hb d_Model_implode_126 (by decide) (fun c16 => ?_) (fun c16 => ?_)
        · rw [if_pos c16] at h
          refine lv_aload_n hx hb d_Model_implode_136 rfl (lv_at hl 3 rfl) ?_
          refine lv_iconst (v := 1) hx hb d_Model_implode_137 (by decide) ?_
          refine lv_iload_n hx hb d_Model_implode_138 rfl (lv_at hl 2 rfl) ?_
          refine lv_iconst (v := 3) hx hb d_Model_implode_139 (by decide) ?_
          refine lv_iadd hx hb d_Model_implode_140 ?_
          refine lv_iconst (v := 4) hx hb d_Model_implode_141 (by decide) ?_
          refine lv_idiv hx hb d_Model_implode_142 (by decide) ?_
          refine lv_iadd hx hb d_Model_implode_143 ?_
          obtain ⟨⟨z18_1, z18_2, z18_3⟩, hc18, h⟩ := dz_ob h
          try dsimp only at h
          have hPc := hP
          have hKc := hK
          have hDc := hD
          have hFc := dz_freeall hD hS hA
          refine va_calli (va_runV (As := [.int (1 + ((v1_1 + 3) / 4))]) (rest := []) ⟨hx, hb, hml, hown, hg⟩ (c_Model_makes l dC dI N cB cI o_Model r I F (1 + ((v1_1 + 3) / 4)) H.size (z18_1, z18_2, z18_3) hc18) (cwV 1 hg (gd_V k880 k881 k882 k707 k879) rfl rfl rfl (by decide +kernel) ⟨Nat.le_of_ble_eq_true rfl, Nat.le_of_ble_eq_true rfl⟩) ⟨dz_blind, va_recv hKc hPc (ci := 10) (q0 := 0) rfl rfl, fun U hU hW => ⟨rfl, dz_Nw hW hN, by rw [hU], by rw [hU]; exact hPc, va_K.moved hW.alike hKc, hDc.weaken (fun _ _ _ _ => trivial)⟩⟩ rfl rfl hl.1 rfl (lv_room (Nat.le_of_ble_eq_true rfl)) d_Model_implode_144 ⟨Nat.le_of_ble_eq_true rfl, Nat.le_of_ble_eq_true rfl⟩) hS (fun q _ h => hFc q h) hFc (fun r18 u18 t18 H1 locs ht hvm hw hB hz1 hk1 hS => ?_)
          obtain ⟨hP1, hK1, hD1⟩ := hB
          rw [ht] at hP1
          have hP := hP1
          have hD := hD1.weaken (fun _ q _ h => hFc q.1 h)
          obtain ⟨hw, hbz18⟩ := hw
          have hw : z18_1 = r18 := hw.symm
          subst hw
          generalize H1 = H at hP hS ⊢
          have hP : va_P (dC, dI) classes (wD cB cI o_Model r z18_3 z18_2) H := hP
          have hD : va_D A (wD cB cI o_Model r z18_3 z18_2) := hD
          refine lv_if_ne (tgt := 152) hx hb d_Model_implode_147 (by decide) (fun c19 => ?_) (fun c19 => ?_)
          · rw [if_neg c19] at h
            refine lv_aload_n hx hb d_Model_implode_152 rfl (lv_at hl 3 rfl) ?_
            refine lv_iload_n hx hb d_Model_implode_153 rfl (lv_at hl 2 rfl) ?_
            obtain ⟨⟨z20_1, z20_2, z20_3⟩, hc20, h⟩ := dz_ob h
            try dsimp only at h
            have hPc := hP
            have hKc := hK
            have hDc := hD
            have hFc := dz_freeall hD hS hA
            refine va_calli (va_runV (As := [.int v1_1]) (rest := []) ⟨hx, hb, hml, hown, hg⟩ (c_Model_string l dC dI N cB cI o_Model r z18_3 z18_2 v1_1 H.size (z20_1, z20_2, z20_3) hc20) (cwV 1 hg (gd_V k792 k793 k794 k707 k791) rfl rfl rfl (by decide +kernel) ⟨Nat.le_of_ble_eq_true rfl, Nat.le_of_ble_eq_true rfl⟩) ⟨dz_blind, va_recv hKc hPc (ci := 10) (q0 := 0) rfl rfl, fun U hU hW => ⟨rfl, dz_Nw hW hN, by rw [hU], by rw [hU]; exact hPc, va_K.moved hW.alike hKc, hDc.weaken (fun _ _ _ _ => trivial)⟩⟩ rfl rfl hl.1 rfl (lv_room (Nat.le_of_ble_eq_true rfl)) d_Model_implode_154 ⟨Nat.le_of_ble_eq_true rfl, Nat.le_of_ble_eq_true rfl⟩) hS (fun q _ h => hFc q h) hFc (fun r20 u20 t20 H1 locs ht hvm hw hB hz1 hk1 hS => ?_)
            obtain ⟨hP1, hK1, hD1⟩ := hB
            rw [ht] at hP1
            have hP := hP1
            have hD := hD1.weaken (fun _ q _ h => hFc q.1 h)
            have hw : z20_1 = r20 := hw.symm
            subst hw
            generalize H1 = H at hP hS ⊢
            have hP : va_P (dC, dI) classes (wD cB cI o_Model r z20_3 z20_2) H := hP
            have hD : va_D A (wD cB cI o_Model r z20_3 z20_2) := hD
            refine lv_istore (lv' := [(4, .int z20_1), (3, .int v1_3), (2, .int v1_2), (1, .int v1_1), (0, .ref o_Model)]) hx hb d_Model_implode_157 hl (by decide) rfl (fun ls hl => ?_)
            refine lv_aload_n hx hb d_Model_implode_159 rfl (lv_at hl 4 rfl) ?_
            refine va_get (D := (dC, dI)) (ci := 10) (v := .ref (r 28)) (C := R_Model) (T := F_Model) (N := 54) hx hb hg i_Model hown hK hP 0 rfl rfl 28 (by decide) (hg _ k732) (fun _ h9 => h9) rfl d_Model_implode_160 ?_
            refine lv_aload_n hx hb d_Model_implode_163 rfl (lv_at hl 4 rfl) ?_
            refine va_get (D := (dC, dI)) (ci := 10) (v := .int (z20_3 29)) (C := R_Model) (T := F_Model) (N := 54) hx hb hg i_Model hown hK hP 0 rfl rfl 29 (by decide) (hg _ k719) (fun _ h9 => h9) rfl d_Model_implode_164 ?_
            refine lv_iconst (v := 1) hx hb d_Model_implode_167 (by decide) ?_
            refine lv_isub hx hb d_Model_implode_168 ?_
            obtain ⟨i21, h⟩ := dz_oi h
            refine va_iald (D := (dC, dI)) (f := z20_2 28) hx hb hK hP 18 1 rfl rfl i21 d_Model_implode_169 ?_
            refine lv_istore (lv' := [(5, .int ((z20_2 28) ((z20_3 29) - 1).toNatClampNeg)), (4, .int z20_1), (3, .int v1_3), (2, .int v1_2), (1, .int v1_1), (0, .ref o_Model)]) hx hb d_Model_implode_170 hl (by decide) rfl (fun ls hl => ?_)
            refine lv_iconst (v := 0) hx hb d_Model_implode_172 (by decide) ?_
            refine lv_istore (lv' := [(6, .int 0), (5, .int ((z20_2 28) ((z20_3 29) - 1).toNatClampNeg)), (4, .int z20_1), (3, .int v1_3), (2, .int v1_2), (1, .int v1_1), (0, .ref o_Model)]) hx hb d_Model_implode_173 hl (by decide) rfl (fun ls hl => ?_)
            refine l_Model_implode_2 dC dI N cB cI o_Model r v1_3 v1_2 v1_1 z20_1 z20_3 hx hb hml hown hg hN hK hA (fun v2_5 v2_6 w2_F H locs ls h hP hD hS hl => ?_) N ((z20_2 28) ((z20_3 29) - 1).toNatClampNeg) (0 : Int32) z20_2 _ _ _ h hP hD hS (lv_sub hl [0, 1, 2, 3, 4, 5, 6] rfl)
            refine lv_aload_n hx hb d_Model_implode_226 rfl (lv_at hl 6 rfl) ?_
            refine lv_iconst (v := 2) hx hb d_Model_implode_227 (by decide) ?_
            refine lv_aload_n hx hb d_Model_implode_228 rfl (lv_at hl 6 rfl) ?_
            refine lv_iconst (v := 1) hx hb d_Model_implode_229 (by decide) ?_
            refine lv_iconst (v := 2) hx hb d_Model_implode_230 (by decide) ?_
            refine lv_iload hx hb d_Model_implode_231 (lv_at hl 2 rfl) ?_
            obtain ⟨⟨z27_1, z27_2, z27_3⟩, hc27, h⟩ := dz_ob h
            try dsimp only at h
            have hPc := hP
            have hKc := hK
            have hDc := hD
            have hFc := dz_freeall hD hS hA
            refine va_calli (va_runV (As := [.int 1, .int 2, .int z20_1]) (rest := [.int 2, .ref o_Model]) ⟨hx, hb, hml, hown, hg⟩ (c_Model_give l dC dI N cB cI o_Model r z20_3 w2_F (1 : Int32) (2 : Int32) z20_1 H.size (z27_1, z27_2, z27_3) hc27) (cwV 3 hg (gd_V k734 k735 k736 k707 k733) rfl rfl rfl (by decide +kernel) ⟨Nat.le_of_ble_eq_true rfl, Nat.le_of_ble_eq_true rfl⟩) ⟨dz_blind, va_recv hKc hPc (ci := 10) (q0 := 0) rfl rfl, fun U hU hW => ⟨rfl, dz_Nw hW hN, by rw [hU], by rw [hU]; exact hPc, va_K.moved hW.alike hKc, hDc.weaken (fun _ _ _ _ => trivial)⟩⟩ rfl rfl hl.1 rfl (lv_room (Nat.le_of_ble_eq_true rfl)) d_Model_implode_233 ⟨Nat.le_of_ble_eq_true rfl, Nat.le_of_ble_eq_true rfl⟩) hS (fun q _ h => hFc q h) hFc (fun r27 u27 t27 H1 locs ht hvm hw hB hz1 hk1 hS => ?_)
            obtain ⟨hP1, hK1, hD1⟩ := hB
            rw [ht] at hP1
            have hP := hP1
            have hD := hD1.weaken (fun _ q _ h => hFc q.1 h)
            have hw : z27_1 = r27 := hw.symm
            subst hw
            generalize H1 = H at hP hS ⊢
            have hP : va_P (dC, dI) classes (wD cB cI o_Model r z27_3 z27_2) H := hP
            have hD : va_D A (wD cB cI o_Model r z27_3 z27_2) := hD
            obtain ⟨⟨z28_1, z28_2⟩, hc28, h⟩ := dz_ob h
            try dsimp only at h
            have hPc := hP
            have hKc := hK
            have hDc := hD
            have hFc := dz_freeall hD hS hA
            refine va_calli (va_runV (As := [.int 2, .int z27_1]) (rest := []) ⟨hx, hb, hml, hown, hg⟩ (c_Model_next l dC dI N cB cI o_Model r z27_3 z27_2 (2 : Int32) z27_1 H.size (z28_1, z28_2) hc28) (cwV 2 hg (gd_V k871 k872 k873 k707 k870) rfl rfl rfl (by decide +kernel) ⟨Nat.le_of_ble_eq_true rfl, Nat.le_of_ble_eq_true rfl⟩) ⟨dz_blind, va_recv hKc hPc (ci := 10) (q0 := 0) rfl rfl, fun U hU hW => ⟨rfl, dz_Nw hW hN, by rw [hU], by rw [hU]; exact hPc, va_K.moved hW.alike hKc, hDc.weaken (fun _ _ _ _ => trivial)⟩⟩ rfl rfl hl.1 rfl (lv_room (Nat.le_of_ble_eq_true rfl)) d_Model_implode_236 ⟨Nat.le_of_ble_eq_true rfl, Nat.le_of_ble_eq_true rfl⟩) hS (fun q _ h => hFc q h) hFc (fun r28 u28 t28 H1 locs ht hvm hw hB hz1 hk1 hS => ?_)
            obtain ⟨hP1, hK1, hD1⟩ := hB
            rw [ht] at hP1
            have hP := hP1
            have hD := hD1.weaken (fun _ q _ h => hFc q.1 h)
            have hw : z28_1 = r28 := hw.symm
            subst hw
            generalize H1 = H at hP hS ⊢
            have hP : va_P (dC, dI) classes (wD cB cI o_Model r z28_2 z27_2) H := hP
            have hD : va_D A (wD cB cI o_Model r z28_2 z27_2) := hD
            obtain rfl := Option.some.inj h
            have hP9 := hP
            have hD9 := hD
            have hK9 := hK
            exact W.iret (v := z28_1) hx hb hr (fun t ht hW => ⟨⟨z28_1, (), rfl, rfl, by rw [ht]; exact hP9, va_K.moved hW.alike hK9, hD9⟩, hS.F ht⟩) hS.2.2 d_Model_implode_239
          · rw [if_pos c19] at h
            refine lv_iconst (v := 3) hx hb d_Model_implode_150 (by decide) ?_
            obtain rfl := Option.some.inj h
            have hP9 := hP
            have hD9 := hD
            have hK9 := hK
            exact W.iret (v := 3) hx hb hr (fun t ht hW => ⟨⟨3, (), rfl, rfl, by rw [ht]; exact hP9, va_K.moved hW.alike hK9, hD9⟩, hS.F ht⟩) hS.2.2 d_Model_implode_151
        · rw [if_neg c16] at h
          refine lv_aload_n hx hb d_Model_implode_129 rfl (lv_at hl 3 rfl) ?_
          refine lv_iconst (v := 1) hx hb d_Model_implode_130 (by decide) ?_
          refine lv_iconst (v := 5) hx hb d_Model_implode_131 (by decide) ?_
          obtain ⟨⟨z29_1, z29_2, z29_3⟩, hc29, h⟩ := dz_ob h
          try dsimp only at h
          have hPc := hP
          have hKc := hK
          have hDc := hD
          have hFc := dz_freeall hD hS hA
          refine va_calli (va_runV (As := [.int 1, .int 5]) (rest := []) ⟨hx, hb, hml, hown, hg⟩ (c_Model_raiseGlobal l dC dI N cB cI o_Model r I F (1 : Int32) (5 : Int32) H.size (z29_1, z29_2, z29_3) hc29) (cwV 2 hg (gd_V k875 k876 k877 k707 k874) rfl rfl rfl (by decide +kernel) ⟨Nat.le_of_ble_eq_true rfl, Nat.le_of_ble_eq_true rfl⟩) ⟨dz_blind, va_recv hKc hPc (ci := 10) (q0 := 0) rfl rfl, fun U hU hW => ⟨rfl, dz_Nw hW hN, by rw [hU], by rw [hU]; exact hPc, va_K.moved hW.alike hKc, hDc.weaken (fun _ _ _ _ => trivial)⟩⟩ rfl rfl hl.1 rfl (lv_room (Nat.le_of_ble_eq_true rfl)) d_Model_implode_132 ⟨Nat.le_of_ble_eq_true rfl, Nat.le_of_ble_eq_true rfl⟩) hS (fun q _ h => hFc q h) hFc (fun r29 u29 t29 H1 locs ht hvm hw hB hz1 hk1 hS => ?_)
          obtain ⟨hP1, hK1, hD1⟩ := hB
          rw [ht] at hP1
          have hP := hP1
          have hD := hD1.weaken (fun _ q _ h => hFc q.1 h)
          have hw : z29_1 = r29 := hw.symm
          subst hw
          generalize H1 = H at hP hS ⊢
          have hP : va_P (dC, dI) classes (wD cB cI o_Model r z29_3 z29_2) H := hP
          have hD : va_D A (wD cB cI o_Model r z29_3 z29_2) := hD
          obtain rfl := Option.some.inj h
          have hP9 := hP
          have hD9 := hD
          have hK9 := hK
          exact W.iret (v := z29_1) hx hb hr (fun t ht hW => ⟨⟨z29_1, (), rfl, rfl, by rw [ht]; exact hP9, va_K.moved hW.alike hK9, hD9⟩, hS.F ht⟩) hS.2.2 d_Model_implode_135
      · rw [if_neg c15] at h
        refine lv_iconst (v := 4) hx hb d_Model_implode_120 (by decide) ?_
        obtain rfl := Option.some.inj h
        have hP9 := hP
        have hD9 := hD
        have hK9 := hK
        exact W.iret (v := 4) hx hb hr (fun t ht hW => ⟨⟨4, (), rfl, rfl, by rw [ht]; exact hP9, va_K.moved hW.alike hK9, hD9⟩, hS.F ht⟩) hS.2.2 d_Model_implode_121
  · skip
    refine lv_iconst (v := 4) hx hb d_Model_implode_84 (by decide) ?_
    obtain rfl := Option.some.inj h
    have hP9 := hP
    have hD9 := hD
    have hK9 := hK
    exact W.iret (v := 4) hx hb hr (fun t ht hW => ⟨⟨4, (), rfl, rfl, by rw [ht]; exact hP9, va_K.moved hW.alike hK9, hD9⟩, hS.F ht⟩) hS.2.2 d_Model_implode_85

set_option maxHeartbeats 4000000 in
set_option maxRecDepth 100000 in
theorem l_Model_explode_1 {p : Program} {l : Launch} {e : Env} {s : State} {m : MethodId} {args : Array Value} {below : List Frame} {meth : Method} {c : Code} {Q : State → Prop} {A : Nat → Prop} (dC : Nat → ClassId) (dI : Nat → Nat → Nat) (N : Nat) (cB : ClassId) (cI : ClassId) (o_Model : Nat) (r : Nat → Nat) (F : Nat → Nat → Int32) (z1_1 : Int32) (z4_1 : Int32) {ζ : Type} {z : ζ} (hx : p.tables.exec = Jvm.exec) (hb : c.code = b_Model_explode) (hml : c.maxLocals = 7) (hown : s.vm.findClass R_Model = some m.cls) (hg : ∀ w ∈ lw_g, w.before args s = true) (hN : dz_N s) (hK : va_K (dC, dI) classes [(cB, .byte), (cI, .int)] s) (hA : ∀ q : Nat, s.heap.size ≤ q → A q) {k1_144 : Int32 → Int32 → Int32 → (Nat → Nat → Int32) → (Nat → Int32) → Option (ζ)} (hk1_144 : ∀ (v1_3 : Int32) (v1_4 : Int32) (v1_5 : Int32) (w1_F : (Nat → Nat → Int32)) (w1_I : (Nat → Int32))    (H : Heap) (locs : List Loc) (ls : Array Slot), k1_144 v1_3 v1_4 v1_5 w1_F w1_I = some z → va_P (dC, dI) classes (wD cB cI o_Model r w1_I w1_F) H → va_D A (wD cB cI o_Model r w1_I w1_F) → va_S A s.heap H locs → lv_has ls 7 [(5, .int v1_5), (4, .int v1_4), (3, .int v1_3), (2, .int z4_1), (1, .int ((F 1) z1_1.toNatClampNeg)), (0, .ref o_Model)] → W p l e ({ frames := 8, cells := 0, slots := 0, locals := 171 } : Room) s m args below meth c H locs 0 0 Q (F0 m 144 ls [])) : ∀ (n1 : Nat) (v1_3 : Int32) (v1_4 : Int32) (v1_5 : Int32) (w1_F : (Nat → Nat → Int32)) (w1_I : (Nat → Int32))   (H : Heap) (locs : List Loc) (ls : Array Slot), lm_Model_explode_1 N z4_1 k1_144 n1 v1_3 v1_4 v1_5 w1_F w1_I = some z → va_P (dC, dI) classes (wD cB cI o_Model r w1_I w1_F) H → va_D A (wD cB cI o_Model r w1_I w1_F) → va_S A s.heap H locs → lv_has ls 7 [(5, .int v1_5), (4, .int v1_4), (3, .int v1_3), (2, .int z4_1), (1, .int ((F 1) z1_1.toNatClampNeg)), (0, .ref o_Model)] → W p l e ({ frames := 8, cells := 0, slots := 0, locals := 171 } : Room) s m args below meth c H locs 0 0 Q (F0 m 43 ls []) := by
  intro n1
  induction n1 with
  | zero =>
    intro v1_3 v1_4 v1_5 w1_F w1_I H locs ls h hP hD hS hl
    rw [lm_Model_explode_1] at h
    cases h
  | succ n1 ih1 =>
    intro v1_3 v1_4 v1_5 w1_F w1_I H locs ls h hP hD hS hl
    rw [lm_Model_explode_1] at h
    refine lv_iload hx hb d_Model_explode_43 (lv_at hl 0 rfl) ?_
    refine lv_if_lt (tgt := 144) hx hb d_Model_explode_45 (by decide) (fun c5 => ?_) (fun c5 => ?_)
    · rw [if_pos c5] at h
      exact hk1_144 v1_3 v1_4 v1_5 w1_F w1_I _ _ _ h hP hD hS (lv_sub hl [0, 1, 2, 3, 4, 5] rfl)
    · rw [if_neg c5] at h
      refine lv_aload_n hx hb d_Model_explode_48 rfl (lv_at hl 5 rfl) ?_
      refine lv_iconst (v := 2) hx hb d_Model_explode_49 (by decide) ?_
      refine lv_iconst (v := 2) hx hb d_Model_explode_50 (by decide) ?_
      refine lv_iconst (v := 0) hx hb d_Model_explode_51 (by decide) ?_
      refine lv_iconst (v := 3) hx hb d_Model_explode_52 (by decide) ?_
      obtain ⟨⟨z6_1, z6_2, z6_3⟩, hc6, h⟩ := dz_ob h
      try dsimp only at h
      have hPc := hP
      have hKc := hK
      have hDc := hD
      have hFc := dz_freeall hD hS hA
      refine va_calli (va_runV (As := [.int 2, .int 2, .int 0, .int 3]) (rest := []) ⟨hx, hb, hml, hown, hg⟩ (c_Model_make l dC dI N cB cI o_Model r w1_I w1_F (2 : Int32) (2 : Int32) (0 : Int32) (3 : Int32) H.size (z6_1, z6_2, z6_3) hc6) (cwV 4 hg (gd_V k784 k785 k786 k707 k783) rfl rfl rfl (by decide +kernel) ⟨Nat.le_of_ble_eq_true rfl, Nat.le_of_ble_eq_true rfl⟩) ⟨dz_blind, va_recv hKc hPc (ci := 10) (q0 := 0) rfl rfl, fun U hU hW => ⟨rfl, dz_Nw hW hN, by rw [hU], by rw [hU]; exact hPc, va_K.moved hW.alike hKc, hDc.weaken (fun _ _ _ _ => trivial)⟩⟩ rfl rfl hl.1 rfl (lv_room (Nat.le_of_ble_eq_true rfl)) d_Model_explode_53 ⟨Nat.le_of_ble_eq_true rfl, Nat.le_of_ble_eq_true rfl⟩) hS (fun q _ h => hFc q h) hFc (fun r6 u6 t6 H1 locs ht hvm hw hB hz1 hk1 hS => ?_)
      obtain ⟨hP1, hK1, hD1⟩ := hB
      rw [ht] at hP1
      have hP := hP1
      have hD := hD1.weaken (fun _ q _ h => hFc q.1 h)
      have hw : z6_1 = r6 := hw.symm
      subst hw
      generalize H1 = H at hP hS ⊢
      have hP : va_P (dC, dI) classes (wD cB cI o_Model r z6_3 z6_2) H := hP
      have hD : va_D A (wD cB cI o_Model r z6_3 z6_2) := hD
      refine lv_istore (lv' := [(6, .int z6_1), (5, .int v1_5), (4, .int v1_4), (3, .int v1_3), (2, .int z4_1), (1, .int ((F 1) z1_1.toNatClampNeg)), (0, .ref o_Model)]) hx hb d_Model_explode_56 hl (by decide) rfl (fun ls hl => ?_)
      refine lv_aload_n hx hb d_Model_explode_58 rfl (lv_at hl 6 rfl) ?_
      refine va_get (D := (dC, dI)) (ci := 10) (v := .ref (r 0)) (C := R_Model) (T := F_Model) (N := 54) hx hb hg i_Model hown hK hP 0 rfl rfl 0 (by decide) (hg _ k737) (fun _ h9 => h9) rfl d_Model_explode_59 ?_
      refine lv_iload hx hb d_Model_explode_62 (lv_at hl 0 rfl) ?_
      refine lv_iconst (v := 1) hx hb d_Model_explode_64 (by decide) ?_
      refine lv_iadd hx hb d_Model_explode_65 ?_
      refine lv_iconst (v := 0) hx hb d_Model_explode_66 (by decide) ?_
      obtain ⟨i7, h⟩ := dz_oi h
      refine va_iast (D := (dC, dI)) (f := z6_2 0) hx hb hK hP hD hS 1 1 rfl rfl i7 d_Model_explode_67 (fun H locs hP hD hS => ?_)
      obtain ⟨G8, eG8, h⟩ := dz_lt h
      have hP : va_P (dC, dI) classes (wD cB cI o_Model r z6_3 G8) H := by rw [eG8]; exact hP
      have hD : va_D A (wD cB cI o_Model r z6_3 G8) := by rw [eG8]; exact hD
      refine lv_aload_n hx hb d_Model_explode_68 rfl (lv_at hl 6 rfl) ?_
      refine va_get (D := (dC, dI)) (ci := 10) (v := .ref (r 1)) (C := R_Model) (T := F_Model) (N := 54) hx hb hg i_Model hown hK hP 0 rfl rfl 1 (by decide) (hg _ k742) (fun _ h9 => h9) rfl d_Model_explode_69 ?_
      refine lv_iload hx hb d_Model_explode_72 (lv_at hl 0 rfl) ?_
      refine lv_iconst (v := 1) hx hb d_Model_explode_74 (by decide) ?_
      refine lv_iadd hx hb d_Model_explode_75 ?_
      refine lv_aload_n hx hb d_Model_explode_76 rfl (lv_at hl 6 rfl) ?_
      refine lv_iload_n hx hb d_Model_explode_77 rfl (lv_at hl 4 rfl) ?_
      refine lv_iload hx hb d_Model_explode_78 (lv_at hl 1 rfl) ?_
      obtain ⟨z9_1, hc9, h⟩ := dz_ob h
      try dsimp only at h
      have hPc := hP
      have hKc := hK
      refine vp_callSi (va_Run.run (va_runV (As := [.int z4_1, .int v1_5]) (rest := [.int (z6_1 + 1), .ref (r 1)]) ⟨hx, hb, hml, hown, hg⟩ (c_Model_byteAt l dC dI N cB cI o_Model r z6_3 G8 z4_1 v1_5 z9_1 hc9) (cwV 2 hg (gd_V k842 k843 k844 k707 k841) rfl rfl rfl (by decide +kernel) ⟨Nat.le_of_ble_eq_true rfl, Nat.le_of_ble_eq_true rfl⟩) ⟨dz_blindR, va_recv hKc hPc (ci := 10) (q0 := 0) rfl rfl, fun U hU hW => ⟨rfl, dz_Nw hW hN, by rw [hU]; exact hPc, va_K.moved hW.alike hKc⟩⟩ rfl rfl hl.1 rfl (lv_room (Nat.le_of_ble_eq_true rfl)) d_Model_explode_80 ⟨Nat.le_of_ble_eq_true rfl, Nat.le_of_ble_eq_true rfl⟩)) (fun r9 hw => ?_)
      have hw : z9_1 = r9 := hw.symm
      subst hw
      obtain ⟨i10, h⟩ := dz_oi h
      refine va_iast (D := (dC, dI)) (f := G8 1) hx hb hK hP hD hS 2 1 rfl rfl i10 d_Model_explode_83 (fun H locs hP hD hS => ?_)
      obtain ⟨G11, eG11, h⟩ := dz_lt h
      have hP : va_P (dC, dI) classes (wD cB cI o_Model r z6_3 G11) H := by rw [eG11]; exact hP
      have hD : va_D A (wD cB cI o_Model r z6_3 G11) := by rw [eG11]; exact hD
      refine lv_aload_n hx hb d_Model_explode_84 rfl (lv_at hl 6 rfl) ?_
      refine va_get (D := (dC, dI)) (ci := 10) (v := .ref (r 0)) (C := R_Model) (T := F_Model) (N := 54) hx hb hg i_Model hown hK hP 0 rfl rfl 0 (by decide) (hg _ k737) (fun _ h9 => h9) rfl d_Model_explode_85 ?_
      refine lv_iload hx hb d_Model_explode_88 (lv_at hl 0 rfl) ?_
      refine lv_iconst (v := 2) hx hb d_Model_explode_90 (by decide) ?_
      refine lv_iadd hx hb d_Model_explode_91 ?_
      refine lv_iload_n hx hb d_Model_explode_92 rfl (lv_at hl 3 rfl) ?_
      obtain ⟨i12, h⟩ := dz_oi h
      refine va_iast (D := (dC, dI)) (f := G11 0) hx hb hK hP hD hS 1 1 rfl rfl i12 d_Model_explode_93 (fun H locs hP hD hS => ?_)
      obtain ⟨G13, eG13, h⟩ := dz_lt h
      have hP : va_P (dC, dI) classes (wD cB cI o_Model r z6_3 G13) H := by rw [eG13]; exact hP
      have hD : va_D A (wD cB cI o_Model r z6_3 G13) := by rw [eG13]; exact hD
      refine lv_aload_n hx hb d_Model_explode_94 rfl (lv_at hl 6 rfl) ?_
      refine va_get (D := (dC, dI)) (ci := 10) (v := .ref (r 1)) (C := R_Model) (T := F_Model) (N := 54) hx hb hg i_Model hown hK hP 0 rfl rfl 1 (by decide) (hg _ k742) (fun _ h9 => h9) rfl d_Model_explode_95 ?_
      refine lv_iload hx hb d_Model_explode_98 (lv_at hl 0 rfl) ?_
      refine lv_iconst (v := 2) hx hb d_Model_explode_100 (by decide) ?_
      refine lv_iadd hx hb d_Model_explode_101 ?_
      refine lv_iload hx hb d_Model_explode_102 (lv_at hl 2 rfl) ?_
      obtain ⟨i14, h⟩ := dz_oi h
      refine va_iast (D := (dC, dI)) (f := G13 1) hx hb hK hP hD hS 2 1 rfl rfl i14 d_Model_explode_104 (fun H locs hP hD hS => ?_)
      obtain ⟨G15, eG15, h⟩ := dz_lt h
      have hP : va_P (dC, dI) classes (wD cB cI o_Model r z6_3 G15) H := by rw [eG15]; exact hP
      have hD : va_D A (wD cB cI o_Model r z6_3 G15) := by rw [eG15]; exact hD
      refine lv_aload_n hx hb d_Model_explode_105 rfl (lv_at hl 6 rfl) ?_
      refine lv_iconst (v := 3) hx hb d_Model_explode_106 (by decide) ?_
      refine lv_iconst (v := 1) hx hb d_Model_explode_107 (by decide) ?_
      refine lv_iconst (v := 1) hx hb d_Model_explode_108 (by decide) ?_
      refine lv_iconst (v := 2) hx hb d_Model_explode_109 (by decide) ?_
      obtain ⟨⟨z16_1, z16_2, z16_3⟩, hc16, h⟩ := dz_ob h
      try dsimp only at h
      have hPc := hP
      have hKc := hK
      have hDc := hD
      have hFc := dz_freeall hD hS hA
      refine va_calli (va_runV (As := [.int 3, .int 1, .int 1, .int 2]) (rest := []) ⟨hx, hb, hml, hown, hg⟩ (c_Model_make l dC dI N cB cI o_Model r z6_3 G15 (3 : Int32) (1 : Int32) (1 : Int32) (2 : Int32) H.size (z16_1, z16_2, z16_3) hc16) (cwV 4 hg (gd_V k784 k785 k786 k707 k783) rfl rfl rfl (by decide +kernel) ⟨Nat.le_of_ble_eq_true rfl, Nat.le_of_ble_eq_true rfl⟩) ⟨dz_blind, va_recv hKc hPc (ci := 10) (q0 := 0) rfl rfl, fun U hU hW => ⟨rfl, dz_Nw hW hN, by rw [hU], by rw [hU]; exact hPc, va_K.moved hW.alike hKc, hDc.weaken (fun _ _ _ _ => trivial)⟩⟩ rfl rfl hl.1 rfl (lv_room (Nat.le_of_ble_eq_true rfl)) d_Model_explode_110 ⟨Nat.le_of_ble_eq_true rfl, Nat.le_of_ble_eq_true rfl⟩) hS (fun q _ h => hFc q h) hFc (fun r16 u16 t16 H1 locs ht hvm hw hB hz1 hk1 hS => ?_)
      obtain ⟨hP1, hK1, hD1⟩ := hB
      rw [ht] at hP1
      have hP := hP1
      have hD := hD1.weaken (fun _ q _ h => hFc q.1 h)
      have hw : z16_1 = r16 := hw.symm
      subst hw
      generalize H1 = H at hP hS ⊢
      have hP : va_P (dC, dI) classes (wD cB cI o_Model r z16_3 z16_2) H := hP
      have hD : va_D A (wD cB cI o_Model r z16_3 z16_2) := hD
      refine lv_istore (lv' := [(4, .int z16_1), (6, .int z6_1), (5, .int v1_5), (3, .int v1_3), (2, .int z4_1), (1, .int ((F 1) z1_1.toNatClampNeg)), (0, .ref o_Model)]) hx hb d_Model_explode_113 hl (by decide) rfl (fun ls hl => ?_)
      refine lv_aload_n hx hb d_Model_explode_115 rfl (lv_at hl 6 rfl) ?_
      refine va_get (D := (dC, dI)) (ci := 10) (v := .ref (r 0)) (C := R_Model) (T := F_Model) (N := 54) hx hb hg i_Model hown hK hP 0 rfl rfl 0 (by decide) (hg _ k737) (fun _ h9 => h9) rfl d_Model_explode_116 ?_
      refine lv_iload hx hb d_Model_explode_119 (lv_at hl 0 rfl) ?_
      refine lv_iconst (v := 1) hx hb d_Model_explode_121 (by decide) ?_
      refine lv_iadd hx hb d_Model_explode_122 ?_
      refine lv_iconst (v := 2) hx hb d_Model_explode_123 (by decide) ?_
      obtain ⟨i17, h⟩ := dz_oi h
      refine va_iast (D := (dC, dI)) (f := z16_2 0) hx hb hK hP hD hS 1 1 rfl rfl i17 d_Model_explode_124 (fun H locs hP hD hS => ?_)
      obtain ⟨G18, eG18, h⟩ := dz_lt h
      have hP : va_P (dC, dI) classes (wD cB cI o_Model r z16_3 G18) H := by rw [eG18]; exact hP
      have hD : va_D A (wD cB cI o_Model r z16_3 G18) := by rw [eG18]; exact hD
      refine lv_aload_n hx hb d_Model_explode_125 rfl (lv_at hl 6 rfl) ?_
      refine va_get (D := (dC, dI)) (ci := 10) (v := .ref (r 1)) (C := R_Model) (T := F_Model) (N := 54) hx hb hg i_Model hown hK hP 0 rfl rfl 1 (by decide) (hg _ k742) (fun _ h9 => h9) rfl d_Model_explode_126 ?_
      refine lv_iload hx hb d_Model_explode_129 (lv_at hl 0 rfl) ?_
      refine lv_iconst (v := 1) hx hb d_Model_explode_131 (by decide) ?_
      refine lv_iadd hx hb d_Model_explode_132 ?_
      refine lv_iload hx hb d_Model_explode_133 (lv_at hl 1 rfl) ?_
      obtain ⟨i19, h⟩ := dz_oi h
      refine va_iast (D := (dC, dI)) (f := G18 1) hx hb hK hP hD hS 2 1 rfl rfl i19 d_Model_explode_135 (fun H locs hP hD hS => ?_)
      obtain ⟨G20, eG20, h⟩ := dz_lt h
      have hP : va_P (dC, dI) classes (wD cB cI o_Model r z16_3 G20) H := by rw [eG20]; exact hP
      have hD : va_D A (wD cB cI o_Model r z16_3 G20) := by rw [eG20]; exact hD
      refine lv_iconst (v := 2) hx hb d_Model_explode_136 (by decide) ?_
      refine lv_istore_n (lv' := [(3, .int 2), (4, .int z16_1), (6, .int z6_1), (5, .int v1_5), (2, .int z4_1), (1, .int ((F 1) z1_1.toNatClampNeg)), (0, .ref o_Model)]) hx hb d_Model_explode_137 rfl hl (by decide) rfl (fun ls hl => ?_)
      refine lv_iinc (v := v1_5 + (-1)) (lv' := [(5, .int (v1_5 + (-1))), (3, .int 2), (4, .int z16_1), (6, .int z6_1), (2, .int z4_1), (1, .int ((F 1) z1_1.toNatClampNeg)), (0, .ref o_Model)]) hx hb d_Model_explode_138 hl (k := 3) rfl rfl (by decide) rfl (fun ls hl => ?_)
      refine lv_goto (tgt := 43) hx hb d_Model_explode_141 (by decide) ?_
      exact ih1 (2 : Int32) z16_1 (v1_5 + (-1)) G20 z16_3 _ _ _ h hP hD hS (lv_sub hl [0, 2, 1, 4, 5, 6] rfl)
set_option maxHeartbeats 4000000 in
set_option maxRecDepth 100000 in
theorem l_Model_explode_2 {p : Program} {l : Launch} {e : Env} {s : State} {m : MethodId} {args : Array Value} {below : List Frame} {meth : Method} {c : Code} {Q : State → Prop} {A : Nat → Prop} (dC : Nat → ClassId) (dI : Nat → Nat → Nat) (N : Nat) (cB : ClassId) (cI : ClassId) (o_Model : Nat) (r : Nat → Nat) (F : Nat → Nat → Int32) (z1_1 : Int32) (z24_1 : Int32) {ζ : Type} {z : ζ} (hx : p.tables.exec = Jvm.exec) (hb : c.code = b_Model_explode) (hml : c.maxLocals = 7) (hown : s.vm.findClass R_Model = some m.cls) (hg : ∀ w ∈ lw_g, w.before args s = true) (hN : dz_N s) (hK : va_K (dC, dI) classes [(cB, .byte), (cI, .int)] s) (hA : ∀ q : Nat, s.heap.size ≤ q → A q) {k2_144 : Int32 → Int32 → Int32 → (Nat → Nat → Int32) → (Nat → Int32) → Option (ζ)} (hk2_144 : ∀ (v2_3 : Int32) (v2_4 : Int32) (v2_5 : Int32) (w2_F : (Nat → Nat → Int32)) (w2_I : (Nat → Int32))    (H : Heap) (locs : List Loc) (ls : Array Slot), k2_144 v2_3 v2_4 v2_5 w2_F w2_I = some z → va_P (dC, dI) classes (wD cB cI o_Model r w2_I w2_F) H → va_D A (wD cB cI o_Model r w2_I w2_F) → va_S A s.heap H locs → lv_has ls 7 [(5, .int v2_5), (4, .int v2_4), (3, .int v2_3), (2, .int z24_1), (1, .int ((F 1) z1_1.toNatClampNeg)), (0, .ref o_Model)] → W p l e ({ frames := 8, cells := 0, slots := 0, locals := 171 } : Room) s m args below meth c H locs 0 0 Q (F0 m 144 ls [])) : ∀ (n2 : Nat) (v2_3 : Int32) (v2_4 : Int32) (v2_5 : Int32) (w2_F : (Nat → Nat → Int32)) (w2_I : (Nat → Int32))   (H : Heap) (locs : List Loc) (ls : Array Slot), lm_Model_explode_2 N z24_1 k2_144 n2 v2_3 v2_4 v2_5 w2_F w2_I = some z → va_P (dC, dI) classes (wD cB cI o_Model r w2_I w2_F) H → va_D A (wD cB cI o_Model r w2_I w2_F) → va_S A s.heap H locs → lv_has ls 7 [(5, .int v2_5), (4, .int v2_4), (3, .int v2_3), (2, .int z24_1), (1, .int ((F 1) z1_1.toNatClampNeg)), (0, .ref o_Model)] → W p l e ({ frames := 8, cells := 0, slots := 0, locals := 171 } : Room) s m args below meth c H locs 0 0 Q (F0 m 43 ls []) := by
  intro n2
  induction n2 with
  | zero =>
    intro v2_3 v2_4 v2_5 w2_F w2_I H locs ls h hP hD hS hl
    rw [lm_Model_explode_2] at h
    cases h
  | succ n2 ih2 =>
    intro v2_3 v2_4 v2_5 w2_F w2_I H locs ls h hP hD hS hl
    rw [lm_Model_explode_2] at h
    refine lv_iload hx hb d_Model_explode_43 (lv_at hl 0 rfl) ?_
    refine lv_if_lt (tgt := 144) hx hb d_Model_explode_45 (by decide) (fun c25 => ?_) (fun c25 => ?_)
    · rw [if_pos c25] at h
      exact hk2_144 v2_3 v2_4 v2_5 w2_F w2_I _ _ _ h hP hD hS (lv_sub hl [0, 1, 2, 3, 4, 5] rfl)
    · rw [if_neg c25] at h
      refine lv_aload_n hx hb d_Model_explode_48 rfl (lv_at hl 5 rfl) ?_
      refine lv_iconst (v := 2) hx hb d_Model_explode_49 (by decide) ?_
      refine lv_iconst (v := 2) hx hb d_Model_explode_50 (by decide) ?_
      refine lv_iconst (v := 0) hx hb d_Model_explode_51 (by decide) ?_
      refine lv_iconst (v := 3) hx hb d_Model_explode_52 (by decide) ?_
      obtain ⟨⟨z26_1, z26_2, z26_3⟩, hc26, h⟩ := dz_ob h
      try dsimp only at h
      have hPc := hP
      have hKc := hK
      have hDc := hD
      have hFc := dz_freeall hD hS hA
      refine va_calli (va_runV (As := [.int 2, .int 2, .int 0, .int 3]) (rest := []) ⟨hx, hb, hml, hown, hg⟩ (c_Model_make l dC dI N cB cI o_Model r w2_I w2_F (2 : Int32) (2 : Int32) (0 : Int32) (3 : Int32) H.size (z26_1, z26_2, z26_3) hc26) (cwV 4 hg (gd_V k784 k785 k786 k707 k783) rfl rfl rfl (by decide +kernel) ⟨Nat.le_of_ble_eq_true rfl, Nat.le_of_ble_eq_true rfl⟩) ⟨dz_blind, va_recv hKc hPc (ci := 10) (q0 := 0) rfl rfl, fun U hU hW => ⟨rfl, dz_Nw hW hN, by rw [hU], by rw [hU]; exact hPc, va_K.moved hW.alike hKc, hDc.weaken (fun _ _ _ _ => trivial)⟩⟩ rfl rfl hl.1 rfl (lv_room (Nat.le_of_ble_eq_true rfl)) d_Model_explode_53 ⟨Nat.le_of_ble_eq_true rfl, Nat.le_of_ble_eq_true rfl⟩) hS (fun q _ h => hFc q h) hFc (fun r26 u26 t26 H1 locs ht hvm hw hB hz1 hk1 hS => ?_)
      obtain ⟨hP1, hK1, hD1⟩ := hB
      rw [ht] at hP1
      have hP := hP1
      have hD := hD1.weaken (fun _ q _ h => hFc q.1 h)
      have hw : z26_1 = r26 := hw.symm
      subst hw
      generalize H1 = H at hP hS ⊢
      have hP : va_P (dC, dI) classes (wD cB cI o_Model r z26_3 z26_2) H := hP
      have hD : va_D A (wD cB cI o_Model r z26_3 z26_2) := hD
      refine lv_istore (lv' := [(6, .int z26_1), (5, .int v2_5), (4, .int v2_4), (3, .int v2_3), (2, .int z24_1), (1, .int ((F 1) z1_1.toNatClampNeg)), (0, .ref o_Model)]) hx hb d_Model_explode_56 hl (by decide) rfl (fun ls hl => ?_)
      refine lv_aload_n hx hb d_Model_explode_58 rfl (lv_at hl 6 rfl) ?_
      refine va_get (D := (dC, dI)) (ci := 10) (v := .ref (r 0)) (C := R_Model) (T := F_Model) (N := 54) hx hb hg i_Model hown hK hP 0 rfl rfl 0 (by decide) (hg _ k737) (fun _ h9 => h9) rfl d_Model_explode_59 ?_
      refine lv_iload hx hb d_Model_explode_62 (lv_at hl 0 rfl) ?_
      refine lv_iconst (v := 1) hx hb d_Model_explode_64 (by decide) ?_
      refine lv_iadd hx hb d_Model_explode_65 ?_
      refine lv_iconst (v := 0) hx hb d_Model_explode_66 (by decide) ?_
      obtain ⟨i27, h⟩ := dz_oi h
      refine va_iast (D := (dC, dI)) (f := z26_2 0) hx hb hK hP hD hS 1 1 rfl rfl i27 d_Model_explode_67 (fun H locs hP hD hS => ?_)
      obtain ⟨G28, eG28, h⟩ := dz_lt h
      have hP : va_P (dC, dI) classes (wD cB cI o_Model r z26_3 G28) H := by rw [eG28]; exact hP
      have hD : va_D A (wD cB cI o_Model r z26_3 G28) := by rw [eG28]; exact hD
      refine lv_aload_n hx hb d_Model_explode_68 rfl (lv_at hl 6 rfl) ?_
      refine va_get (D := (dC, dI)) (ci := 10) (v := .ref (r 1)) (C := R_Model) (T := F_Model) (N := 54) hx hb hg i_Model hown hK hP 0 rfl rfl 1 (by decide) (hg _ k742) (fun _ h9 => h9) rfl d_Model_explode_69 ?_
      refine lv_iload hx hb d_Model_explode_72 (lv_at hl 0 rfl) ?_
      refine lv_iconst (v := 1) hx hb d_Model_explode_74 (by decide) ?_
      refine lv_iadd hx hb d_Model_explode_75 ?_
      refine lv_aload_n hx hb d_Model_explode_76 rfl (lv_at hl 6 rfl) ?_
      refine lv_iload_n hx hb d_Model_explode_77 rfl (lv_at hl 4 rfl) ?_
      refine lv_iload hx hb d_Model_explode_78 (lv_at hl 1 rfl) ?_
      obtain ⟨z29_1, hc29, h⟩ := dz_ob h
      try dsimp only at h
      have hPc := hP
      have hKc := hK
      refine vp_callSi (va_Run.run (va_runV (As := [.int z24_1, .int v2_5]) (rest := [.int (z26_1 + 1), .ref (r 1)]) ⟨hx, hb, hml, hown, hg⟩ (c_Model_byteAt l dC dI N cB cI o_Model r z26_3 G28 z24_1 v2_5 z29_1 hc29) (cwV 2 hg (gd_V k842 k843 k844 k707 k841) rfl rfl rfl (by decide +kernel) ⟨Nat.le_of_ble_eq_true rfl, Nat.le_of_ble_eq_true rfl⟩) ⟨dz_blindR, va_recv hKc hPc (ci := 10) (q0 := 0) rfl rfl, fun U hU hW => ⟨rfl, dz_Nw hW hN, by rw [hU]; exact hPc, va_K.moved hW.alike hKc⟩⟩ rfl rfl hl.1 rfl (lv_room (Nat.le_of_ble_eq_true rfl)) d_Model_explode_80 ⟨Nat.le_of_ble_eq_true rfl, Nat.le_of_ble_eq_true rfl⟩)) (fun r29 hw => ?_)
      have hw : z29_1 = r29 := hw.symm
      subst hw
      obtain ⟨i30, h⟩ := dz_oi h
      refine va_iast (D := (dC, dI)) (f := G28 1) hx hb hK hP hD hS 2 1 rfl rfl i30 d_Model_explode_83 (fun H locs hP hD hS => ?_)
      obtain ⟨G31, eG31, h⟩ := dz_lt h
      have hP : va_P (dC, dI) classes (wD cB cI o_Model r z26_3 G31) H := by rw [eG31]; exact hP
      have hD : va_D A (wD cB cI o_Model r z26_3 G31) := by rw [eG31]; exact hD
      refine lv_aload_n hx hb d_Model_explode_84 rfl (lv_at hl 6 rfl) ?_
      refine va_get (D := (dC, dI)) (ci := 10) (v := .ref (r 0)) (C := R_Model) (T := F_Model) (N := 54) hx hb hg i_Model hown hK hP 0 rfl rfl 0 (by decide) (hg _ k737) (fun _ h9 => h9) rfl d_Model_explode_85 ?_
      refine lv_iload hx hb d_Model_explode_88 (lv_at hl 0 rfl) ?_
      refine lv_iconst (v := 2) hx hb d_Model_explode_90 (by decide) ?_
      refine lv_iadd hx hb d_Model_explode_91 ?_
      refine lv_iload_n hx hb d_Model_explode_92 rfl (lv_at hl 3 rfl) ?_
      obtain ⟨i32, h⟩ := dz_oi h
      refine va_iast (D := (dC, dI)) (f := G31 0) hx hb hK hP hD hS 1 1 rfl rfl i32 d_Model_explode_93 (fun H locs hP hD hS => ?_)
      obtain ⟨G33, eG33, h⟩ := dz_lt h
      have hP : va_P (dC, dI) classes (wD cB cI o_Model r z26_3 G33) H := by rw [eG33]; exact hP
      have hD : va_D A (wD cB cI o_Model r z26_3 G33) := by rw [eG33]; exact hD
      refine lv_aload_n hx hb d_Model_explode_94 rfl (lv_at hl 6 rfl) ?_
      refine va_get (D := (dC, dI)) (ci := 10) (v := .ref (r 1)) (C := R_Model) (T := F_Model) (N := 54) hx hb hg i_Model hown hK hP 0 rfl rfl 1 (by decide) (hg _ k742) (fun _ h9 => h9) rfl d_Model_explode_95 ?_
      refine lv_iload hx hb d_Model_explode_98 (lv_at hl 0 rfl) ?_
      refine lv_iconst (v := 2) hx hb d_Model_explode_100 (by decide) ?_
      refine lv_iadd hx hb d_Model_explode_101 ?_
      refine lv_iload hx hb d_Model_explode_102 (lv_at hl 2 rfl) ?_
      obtain ⟨i34, h⟩ := dz_oi h
      refine va_iast (D := (dC, dI)) (f := G33 1) hx hb hK hP hD hS 2 1 rfl rfl i34 d_Model_explode_104 (fun H locs hP hD hS => ?_)
      obtain ⟨G35, eG35, h⟩ := dz_lt h
      have hP : va_P (dC, dI) classes (wD cB cI o_Model r z26_3 G35) H := by rw [eG35]; exact hP
      have hD : va_D A (wD cB cI o_Model r z26_3 G35) := by rw [eG35]; exact hD
      refine lv_aload_n hx hb d_Model_explode_105 rfl (lv_at hl 6 rfl) ?_
      refine lv_iconst (v := 3) hx hb d_Model_explode_106 (by decide) ?_
      refine lv_iconst (v := 1) hx hb d_Model_explode_107 (by decide) ?_
      refine lv_iconst (v := 1) hx hb d_Model_explode_108 (by decide) ?_
      refine lv_iconst (v := 2) hx hb d_Model_explode_109 (by decide) ?_
      obtain ⟨⟨z36_1, z36_2, z36_3⟩, hc36, h⟩ := dz_ob h
      try dsimp only at h
      have hPc := hP
      have hKc := hK
      have hDc := hD
      have hFc := dz_freeall hD hS hA
      refine va_calli (va_runV (As := [.int 3, .int 1, .int 1, .int 2]) (rest := []) ⟨hx, hb, hml, hown, hg⟩ (c_Model_make l dC dI N cB cI o_Model r z26_3 G35 (3 : Int32) (1 : Int32) (1 : Int32) (2 : Int32) H.size (z36_1, z36_2, z36_3) hc36) (cwV 4 hg (gd_V k784 k785 k786 k707 k783) rfl rfl rfl (by decide +kernel) ⟨Nat.le_of_ble_eq_true rfl, Nat.le_of_ble_eq_true rfl⟩) ⟨dz_blind, va_recv hKc hPc (ci := 10) (q0 := 0) rfl rfl, fun U hU hW => ⟨rfl, dz_Nw hW hN, by rw [hU], by rw [hU]; exact hPc, va_K.moved hW.alike hKc, hDc.weaken (fun _ _ _ _ => trivial)⟩⟩ rfl rfl hl.1 rfl (lv_room (Nat.le_of_ble_eq_true rfl)) d_Model_explode_110 ⟨Nat.le_of_ble_eq_true rfl, Nat.le_of_ble_eq_true rfl⟩) hS (fun q _ h => hFc q h) hFc (fun r36 u36 t36 H1 locs ht hvm hw hB hz1 hk1 hS => ?_)
      obtain ⟨hP1, hK1, hD1⟩ := hB
      rw [ht] at hP1
      have hP := hP1
      have hD := hD1.weaken (fun _ q _ h => hFc q.1 h)
      have hw : z36_1 = r36 := hw.symm
      subst hw
      generalize H1 = H at hP hS ⊢
      have hP : va_P (dC, dI) classes (wD cB cI o_Model r z36_3 z36_2) H := hP
      have hD : va_D A (wD cB cI o_Model r z36_3 z36_2) := hD
      refine lv_istore (lv' := [(4, .int z36_1), (6, .int z26_1), (5, .int v2_5), (3, .int v2_3), (2, .int z24_1), (1, .int ((F 1) z1_1.toNatClampNeg)), (0, .ref o_Model)]) hx hb d_Model_explode_113 hl (by decide) rfl (fun ls hl => ?_)
      refine lv_aload_n hx hb d_Model_explode_115 rfl (lv_at hl 6 rfl) ?_
      refine va_get (D := (dC, dI)) (ci := 10) (v := .ref (r 0)) (C := R_Model) (T := F_Model) (N := 54) hx hb hg i_Model hown hK hP 0 rfl rfl 0 (by decide) (hg _ k737) (fun _ h9 => h9) rfl d_Model_explode_116 ?_
      refine lv_iload hx hb d_Model_explode_119 (lv_at hl 0 rfl) ?_
      refine lv_iconst (v := 1) hx hb d_Model_explode_121 (by decide) ?_
      refine lv_iadd hx hb d_Model_explode_122 ?_
      refine lv_iconst (v := 2) hx hb d_Model_explode_123 (by decide) ?_
      obtain ⟨i37, h⟩ := dz_oi h
      refine va_iast (D := (dC, dI)) (f := z36_2 0) hx hb hK hP hD hS 1 1 rfl rfl i37 d_Model_explode_124 (fun H locs hP hD hS => ?_)
      obtain ⟨G38, eG38, h⟩ := dz_lt h
      have hP : va_P (dC, dI) classes (wD cB cI o_Model r z36_3 G38) H := by rw [eG38]; exact hP
      have hD : va_D A (wD cB cI o_Model r z36_3 G38) := by rw [eG38]; exact hD
      refine lv_aload_n hx hb d_Model_explode_125 rfl (lv_at hl 6 rfl) ?_
      refine va_get (D := (dC, dI)) (ci := 10) (v := .ref (r 1)) (C := R_Model) (T := F_Model) (N := 54) hx hb hg i_Model hown hK hP 0 rfl rfl 1 (by decide) (hg _ k742) (fun _ h9 => h9) rfl d_Model_explode_126 ?_
      refine lv_iload hx hb d_Model_explode_129 (lv_at hl 0 rfl) ?_
      refine lv_iconst (v := 1) hx hb d_Model_explode_131 (by decide) ?_
      refine lv_iadd hx hb d_Model_explode_132 ?_
      refine lv_iload hx hb d_Model_explode_133 (lv_at hl 1 rfl) ?_
      obtain ⟨i39, h⟩ := dz_oi h
      refine va_iast (D := (dC, dI)) (f := G38 1) hx hb hK hP hD hS 2 1 rfl rfl i39 d_Model_explode_135 (fun H locs hP hD hS => ?_)
      obtain ⟨G40, eG40, h⟩ := dz_lt h
      have hP : va_P (dC, dI) classes (wD cB cI o_Model r z36_3 G40) H := by rw [eG40]; exact hP
      have hD : va_D A (wD cB cI o_Model r z36_3 G40) := by rw [eG40]; exact hD
      refine lv_iconst (v := 2) hx hb d_Model_explode_136 (by decide) ?_
      refine lv_istore_n (lv' := [(3, .int 2), (4, .int z36_1), (6, .int z26_1), (5, .int v2_5), (2, .int z24_1), (1, .int ((F 1) z1_1.toNatClampNeg)), (0, .ref o_Model)]) hx hb d_Model_explode_137 rfl hl (by decide) rfl (fun ls hl => ?_)
      refine lv_iinc (v := v2_5 + (-1)) (lv' := [(5, .int (v2_5 + (-1))), (3, .int 2), (4, .int z36_1), (6, .int z26_1), (2, .int z24_1), (1, .int ((F 1) z1_1.toNatClampNeg)), (0, .ref o_Model)]) hx hb d_Model_explode_138 hl (k := 3) rfl rfl (by decide) rfl (fun ls hl => ?_)
      refine lv_goto (tgt := 43) hx hb d_Model_explode_141 (by decide) ?_
      exact ih2 (2 : Int32) z36_1 (v2_5 + (-1)) G40 z36_3 _ _ _ h hP hD hS (lv_sub hl [0, 2, 1, 4, 5, 6] rfl)
set_option maxHeartbeats 4000000 in
set_option maxRecDepth 100000 in
theorem c_Model_explode (l : Launch) (dC : Nat → ClassId) (dI : Nat → Nat → Nat) (N : Nat) (cB : ClassId) (cI : ClassId) (o_Model : Nat) (r : Nat → Nat) (I : Nat → Int32) (F : Nat → Nat → Int32) (sz : Nat) (z : Int32 × (Nat → Nat → Int32) × (Nat → Int32)) (h : m_Model_explode N I F = some z) : Met l y_Model_explode (.code y_Model_explode b_Model_explode 7 (some .int) :: lw_g) ({ frames := 8, cells := 0, slots := 0, locals := 171 }) (va_Pc [.ref o_Model] (fun U => dz_N U ∧ U.heap.size = sz ∧ va_P (dC, dI) classes (wD cB cI o_Model r I F) U.heap ∧ va_K (dC, dI) classes [(cB, .byte), (cI, .int)] U ∧ va_D (fun _ => True) (wD cB cI o_Model r I F))) (va_Qi (fun (r : Int32) (_ : Unit) => r = z.1) (fun (u : Unit) t => va_P (dC, dI) classes (wD cB cI o_Model r z.2.2 z.2.1) t.heap ∧ va_K (dC, dI) classes [(cB, .byte), (cI, .int)] t ∧ va_D (va_A (wD cB cI o_Model r I F) sz) (wD cB cI o_Model r z.2.2 z.2.1)) (va_A (wD cB cI o_Model r I F) sz)) 0 0 (va_A (wD cB cI o_Model r I F) sz) := by
  refine Met.ofW (cc := b_Model_explode) (maxL := 7) (ret := (some .int)) (by decide +kernel) rfl ?_
  intro p e s m args below meth c s₁ B hml hv
  obtain ⟨rfl, hN, hsz, hP, hK, hD0⟩ := hv
  have hx := B.exec
  have hb := B.bytes
  have hr := B.returns
  have hg : ∀ w ∈ lw_g, w.before _ s = true := fun w hw => atoms_spec (ws := .code y_Model_explode b_Model_explode 7 (some .int) :: lw_g) B.pre w (List.mem_cons_of_mem _ hw)
  have hown : s.vm.findClass R_Model = some m.cls := findClass_of_methodNamed B.named
  have hlocks := B.notSynchronized
  clear B
  subst hsz
  have hD := hD0.self (sz := s.heap.size)
  generalize hAe : va_A (wD cB cI o_Model r I F) s.heap.size = A at hD ⊢
  have hA : ∀ q : Nat, s.heap.size ≤ q → A q := fun q h => by rw [← hAe]; exact Or.inr h
  have hS : va_S A s.heap s.heap [] := va_S.rf
  have hP : va_P (dC, dI) classes (wD cB cI o_Model r I F) s.heap := hP
  have hl := lv_entry ([.ref o_Model]) (n := 7) (Nat.le_of_ble_eq_true rfl)
  rw [lg_entry_eq]
  generalize (lg_sl ([.ref o_Model]) ++ List.replicate (7 - (lg_sl ([.ref o_Model])).length) Slot.unset).toArray = ls at hl ⊢
  have hl : lv_has ls 7 [(0, .ref o_Model)] := hl
  unfold m_Model_explode at h
  refine lv_aload_n hx hb d_Model_explode_0 rfl (lv_at hl 0 rfl) ?_
  refine va_get (D := (dC, dI)) (ci := 10) (v := .ref (r 1)) (C := R_Model) (T := F_Model) (N := 54) hx hb hg i_Model hown hK hP 0 rfl rfl 1 (by decide) (hg _ k742) (fun _ h9 => h9) rfl d_Model_explode_1 ?_
  refine lv_aload_n hx hb d_Model_explode_4 rfl (lv_at hl 0 rfl) ?_
  refine lv_iconst (v := 1) hx hb d_Model_explode_5 (by decide) ?_
  obtain ⟨z1_1, hc1, h⟩ := dz_ob h
  try dsimp only at h
  have hPc := hP
  have hKc := hK
  refine vp_callSi (va_Run.run (va_runV (As := [.int 1]) (rest := [.ref (r 1)]) ⟨hx, hb, hml, hown, hg⟩ (c_Model_scalar l dC dI N cB cI o_Model r I F (1 : Int32) z1_1 hc1) (cwV 1 hg (gd_V k804 k805 k806 k707 k803) rfl rfl rfl (by decide +kernel) ⟨Nat.le_of_ble_eq_true rfl, Nat.le_of_ble_eq_true rfl⟩) ⟨dz_blindR, va_recv hKc hPc (ci := 10) (q0 := 0) rfl rfl, fun U hU hW => ⟨rfl, dz_Nw hW hN, by rw [hU]; exact hPc, va_K.moved hW.alike hKc⟩⟩ rfl rfl hl.1 rfl (lv_room (Nat.le_of_ble_eq_true rfl)) d_Model_explode_6 ⟨Nat.le_of_ble_eq_true rfl, Nat.le_of_ble_eq_true rfl⟩)) (fun r1 hw => ?_)
  have hw : z1_1 = r1 := hw.symm
  subst hw
  obtain ⟨i2, h⟩ := dz_oi h
  refine va_iald (D := (dC, dI)) (f := F 1) hx hb hK hP 2 1 rfl rfl i2 d_Model_explode_9 ?_
  refine lv_istore_n (lv' := [(1, .int ((F 1) z1_1.toNatClampNeg)), (0, .ref o_Model)]) hx hb d_Model_explode_10 rfl hl (by decide) rfl (fun ls hl => ?_)
  refine lv_iload_n hx hb d_Model_explode_11 rfl (lv_at hl 0 rfl) ?_
  refine lv_if_le (tgt := 27) hx hb d_Model_explode_12 (by decide) (fun c3 => ?_) (fun c3 => ?_)
  · rw [if_pos c3] at h
    refine lv_aload_n hx hb d_Model_explode_27 rfl (lv_at hl 1 rfl) ?_
    refine lv_iconst (v := 1) hx hb d_Model_explode_28 (by decide) ?_
    obtain ⟨z4_1, hc4, h⟩ := dz_ob h
    try dsimp only at h
    have hPc := hP
    have hKc := hK
    refine vp_callSi (va_Run.run (va_runV (As := [.int 1]) (rest := []) ⟨hx, hb, hml, hown, hg⟩ (c_Model_scalar l dC dI N cB cI o_Model r I F (1 : Int32) z4_1 hc4) (cwV 1 hg (gd_V k804 k805 k806 k707 k803) rfl rfl rfl (by decide +kernel) ⟨Nat.le_of_ble_eq_true rfl, Nat.le_of_ble_eq_true rfl⟩) ⟨dz_blindR, va_recv hKc hPc (ci := 10) (q0 := 0) rfl rfl, fun U hU hW => ⟨rfl, dz_Nw hW hN, by rw [hU]; exact hPc, va_K.moved hW.alike hKc⟩⟩ rfl rfl hl.1 rfl (lv_room (Nat.le_of_ble_eq_true rfl)) d_Model_explode_29 ⟨Nat.le_of_ble_eq_true rfl, Nat.le_of_ble_eq_true rfl⟩)) (fun r4 hw => ?_)
    have hw : z4_1 = r4 := hw.symm
    subst hw
    refine lv_istore_n (lv' := [(2, .int z4_1), (1, .int ((F 1) z1_1.toNatClampNeg)), (0, .ref o_Model)]) hx hb d_Model_explode_32 rfl hl (by decide) rfl (fun ls hl => ?_)
    refine lv_iconst (v := 0) hx hb d_Model_explode_33 (by decide) ?_
    refine lv_istore_n (lv' := [(3, .int 0), (2, .int z4_1), (1, .int ((F 1) z1_1.toNatClampNeg)), (0, .ref o_Model)]) hx hb d_Model_explode_34 rfl hl (by decide) rfl (fun ls hl => ?_)
    refine lv_iconst (v := 0) hx hb d_Model_explode_35 (by decide) ?_
    refine lv_istore (lv' := [(4, .int 0), (3, .int 0), (2, .int z4_1), (1, .int ((F 1) z1_1.toNatClampNeg)), (0, .ref o_Model)]) hx hb d_Model_explode_36 hl (by decide) rfl (fun ls hl => ?_)
    refine lv_iload_n hx hb d_Model_explode_38 rfl (lv_at hl 3 rfl) ?_
    refine lv_iconst (v := 1) hx hb d_Model_explode_39 (by decide) ?_
    refine lv_isub hx hb d_Model_explode_40 ?_
    refine lv_istore (lv' := [(5, .int (((F 1) z1_1.toNatClampNeg) - 1)), (4, .int 0), (3, .int 0), (2, .int z4_1), (1, .int ((F 1) z1_1.toNatClampNeg)), (0, .ref o_Model)]) hx hb d_Model_explode_41 hl (by decide) rfl (fun ls hl => ?_)
    refine l_Model_explode_1 dC dI N cB cI o_Model r F z1_1 z4_1 hx hb hml hown hg hN hK hA (fun v1_3 v1_4 v1_5 w1_F w1_I H locs ls h hP hD hS hl => ?_) N (0 : Int32) (0 : Int32) (((F 1) z1_1.toNatClampNeg) - 1) F I _ _ _ h hP hD hS (lv_sub hl [0, 1, 2, 3, 4, 5] rfl)
    refine lv_aload_n hx hb d_Model_explode_144 rfl (lv_at hl 5 rfl) ?_
    refine lv_iconst (v := 1) hx hb d_Model_explode_145 (by decide) ?_
    refine lv_iload_n hx hb d_Model_explode_146 rfl (lv_at hl 2 rfl) ?_
    refine lv_iload hx hb d_Model_explode_147 (lv_at hl 1 rfl) ?_
    obtain ⟨⟨z21_1, z21_2, z21_3⟩, hc21, h⟩ := dz_ob h
    try dsimp only at h
    have hPc := hP
    have hKc := hK
    have hDc := hD
    have hFc := dz_freeall hD hS hA
    refine va_calli (va_runV (As := [.int 1, .int v1_3, .int v1_4]) (rest := []) ⟨hx, hb, hml, hown, hg⟩ (c_Model_give l dC dI N cB cI o_Model r w1_I w1_F (1 : Int32) v1_3 v1_4 H.size (z21_1, z21_2, z21_3) hc21) (cwV 3 hg (gd_V k734 k735 k736 k707 k733) rfl rfl rfl (by decide +kernel) ⟨Nat.le_of_ble_eq_true rfl, Nat.le_of_ble_eq_true rfl⟩) ⟨dz_blind, va_recv hKc hPc (ci := 10) (q0 := 0) rfl rfl, fun U hU hW => ⟨rfl, dz_Nw hW hN, by rw [hU], by rw [hU]; exact hPc, va_K.moved hW.alike hKc, hDc.weaken (fun _ _ _ _ => trivial)⟩⟩ rfl rfl hl.1 rfl (lv_room (Nat.le_of_ble_eq_true rfl)) d_Model_explode_149 ⟨Nat.le_of_ble_eq_true rfl, Nat.le_of_ble_eq_true rfl⟩) hS (fun q _ h => hFc q h) hFc (fun r21 u21 t21 H1 locs ht hvm hw hB hz1 hk1 hS => ?_)
    obtain ⟨hP1, hK1, hD1⟩ := hB
    rw [ht] at hP1
    have hP := hP1
    have hD := hD1.weaken (fun _ q _ h => hFc q.1 h)
    have hw : z21_1 = r21 := hw.symm
    subst hw
    generalize H1 = H at hP hS ⊢
    have hP : va_P (dC, dI) classes (wD cB cI o_Model r z21_3 z21_2) H := hP
    have hD : va_D A (wD cB cI o_Model r z21_3 z21_2) := hD
    obtain rfl := Option.some.inj h
    have hP9 := hP
    have hD9 := hD
    have hK9 := hK
    exact W.iret (v := z21_1) hx hb hr (fun t ht hW => ⟨⟨z21_1, (), rfl, rfl, by rw [ht]; exact hP9, va_K.moved hW.alike hK9, hD9⟩, hS.F ht⟩) hS.2.2 d_Model_explode_152
  · rw [if_neg c3] at h
    refine lv_aload_n hx hb d_Model_explode_15 rfl (lv_at hl 1 rfl) ?_
    refine lv_iconst (v := 5) hx hb d_Model_explode_16 (by decide) ?_
    refine lv_iload_n hx hb d_Model_explode_17 rfl (lv_at hl 0 rfl) ?_
    refine lv_imul hx hb d_Model_explode_18 ?_
    obtain ⟨⟨z22_1, z22_2, z22_3⟩, hc22, h⟩ := dz_ob h
    try dsimp only at h
    have hPc := hP
    have hKc := hK
    have hDc := hD
    have hFc := dz_freeall hD hS hA
    refine va_calli (va_runV (As := [.int (5 * ((F 1) z1_1.toNatClampNeg))]) (rest := []) ⟨hx, hb, hml, hown, hg⟩ (c_Model_makes l dC dI N cB cI o_Model r I F (5 * ((F 1) z1_1.toNatClampNeg)) s.heap.size (z22_1, z22_2, z22_3) hc22) (cwV 1 hg (gd_V k880 k881 k882 k707 k879) rfl rfl rfl (by decide +kernel) ⟨Nat.le_of_ble_eq_true rfl, Nat.le_of_ble_eq_true rfl⟩) ⟨dz_blind, va_recv hKc hPc (ci := 10) (q0 := 0) rfl rfl, fun U hU hW => ⟨rfl, dz_Nw hW hN, by rw [hU], by rw [hU]; exact hPc, va_K.moved hW.alike hKc, hDc.weaken (fun _ _ _ _ => trivial)⟩⟩ rfl rfl hl.1 rfl (lv_room (Nat.le_of_ble_eq_true rfl)) d_Model_explode_19 ⟨Nat.le_of_ble_eq_true rfl, Nat.le_of_ble_eq_true rfl⟩) hS (fun q _ h => hFc q h) hFc (fun r22 u22 t22 H1 locs ht hvm hw hB hz1 hk1 hS => ?_)
    obtain ⟨hP1, hK1, hD1⟩ := hB
    rw [ht] at hP1
    have hP := hP1
    have hD := hD1.weaken (fun _ q _ h => hFc q.1 h)
    obtain ⟨hw, hbz22⟩ := hw
    have hw : z22_1 = r22 := hw.symm
    subst hw
    generalize H1 = H at hP hS ⊢
    have hP : va_P (dC, dI) classes (wD cB cI o_Model r z22_3 z22_2) H := hP
    have hD : va_D A (wD cB cI o_Model r z22_3 z22_2) := hD
    refine lv_if_ne (tgt := 27) hx hb d_Model_explode_22 (by decide) (fun c23 => ?_) (fun c23 => ?_)
    · rw [if_neg c23] at h
      refine lv_aload_n hx hb d_Model_explode_27 rfl (lv_at hl 1 rfl) ?_
      refine lv_iconst (v := 1) hx hb d_Model_explode_28 (by decide) ?_
      obtain ⟨z24_1, hc24, h⟩ := dz_ob h
      try dsimp only at h
      have hPc := hP
      have hKc := hK
      refine vp_callSi (va_Run.run (va_runV (As := [.int 1]) (rest := []) ⟨hx, hb, hml, hown, hg⟩ (c_Model_scalar l dC dI N cB cI o_Model r z22_3 z22_2 (1 : Int32) z24_1 hc24) (cwV 1 hg (gd_V k804 k805 k806 k707 k803) rfl rfl rfl (by decide +kernel) ⟨Nat.le_of_ble_eq_true rfl, Nat.le_of_ble_eq_true rfl⟩) ⟨dz_blindR, va_recv hKc hPc (ci := 10) (q0 := 0) rfl rfl, fun U hU hW => ⟨rfl, dz_Nw hW hN, by rw [hU]; exact hPc, va_K.moved hW.alike hKc⟩⟩ rfl rfl hl.1 rfl (lv_room (Nat.le_of_ble_eq_true rfl)) d_Model_explode_29 ⟨Nat.le_of_ble_eq_true rfl, Nat.le_of_ble_eq_true rfl⟩)) (fun r24 hw => ?_)
      have hw : z24_1 = r24 := hw.symm
      subst hw
      refine lv_istore_n (lv' := [(2, .int z24_1), (1, .int ((F 1) z1_1.toNatClampNeg)), (0, .ref o_Model)]) hx hb d_Model_explode_32 rfl hl (by decide) rfl (fun ls hl => ?_)
      refine lv_iconst (v := 0) hx hb d_Model_explode_33 (by decide) ?_
      refine lv_istore_n (lv' := [(3, .int 0), (2, .int z24_1), (1, .int ((F 1) z1_1.toNatClampNeg)), (0, .ref o_Model)]) hx hb d_Model_explode_34 rfl hl (by decide) rfl (fun ls hl => ?_)
      refine lv_iconst (v := 0) hx hb d_Model_explode_35 (by decide) ?_
      refine lv_istore (lv' := [(4, .int 0), (3, .int 0), (2, .int z24_1), (1, .int ((F 1) z1_1.toNatClampNeg)), (0, .ref o_Model)]) hx hb d_Model_explode_36 hl (by decide) rfl (fun ls hl => ?_)
      refine lv_iload_n hx hb d_Model_explode_38 rfl (lv_at hl 3 rfl) ?_
      refine lv_iconst (v := 1) hx hb d_Model_explode_39 (by decide) ?_
      refine lv_isub hx hb d_Model_explode_40 ?_
      refine lv_istore (lv' := [(5, .int (((F 1) z1_1.toNatClampNeg) - 1)), (4, .int 0), (3, .int 0), (2, .int z24_1), (1, .int ((F 1) z1_1.toNatClampNeg)), (0, .ref o_Model)]) hx hb d_Model_explode_41 hl (by decide) rfl (fun ls hl => ?_)
      refine l_Model_explode_2 dC dI N cB cI o_Model r F z1_1 z24_1 hx hb hml hown hg hN hK hA (fun v2_3 v2_4 v2_5 w2_F w2_I H locs ls h hP hD hS hl => ?_) N (0 : Int32) (0 : Int32) (((F 1) z1_1.toNatClampNeg) - 1) z22_2 z22_3 _ _ _ h hP hD hS (lv_sub hl [0, 1, 2, 3, 4, 5] rfl)
      refine lv_aload_n hx hb d_Model_explode_144 rfl (lv_at hl 5 rfl) ?_
      refine lv_iconst (v := 1) hx hb d_Model_explode_145 (by decide) ?_
      refine lv_iload_n hx hb d_Model_explode_146 rfl (lv_at hl 2 rfl) ?_
      refine lv_iload hx hb d_Model_explode_147 (lv_at hl 1 rfl) ?_
      obtain ⟨⟨z41_1, z41_2, z41_3⟩, hc41, h⟩ := dz_ob h
      try dsimp only at h
      have hPc := hP
      have hKc := hK
      have hDc := hD
      have hFc := dz_freeall hD hS hA
      refine va_calli (va_runV (As := [.int 1, .int v2_3, .int v2_4]) (rest := []) ⟨hx, hb, hml, hown, hg⟩ (c_Model_give l dC dI N cB cI o_Model r w2_I w2_F (1 : Int32) v2_3 v2_4 H.size (z41_1, z41_2, z41_3) hc41) (cwV 3 hg (gd_V k734 k735 k736 k707 k733) rfl rfl rfl (by decide +kernel) ⟨Nat.le_of_ble_eq_true rfl, Nat.le_of_ble_eq_true rfl⟩) ⟨dz_blind, va_recv hKc hPc (ci := 10) (q0 := 0) rfl rfl, fun U hU hW => ⟨rfl, dz_Nw hW hN, by rw [hU], by rw [hU]; exact hPc, va_K.moved hW.alike hKc, hDc.weaken (fun _ _ _ _ => trivial)⟩⟩ rfl rfl hl.1 rfl (lv_room (Nat.le_of_ble_eq_true rfl)) d_Model_explode_149 ⟨Nat.le_of_ble_eq_true rfl, Nat.le_of_ble_eq_true rfl⟩) hS (fun q _ h => hFc q h) hFc (fun r41 u41 t41 H1 locs ht hvm hw hB hz1 hk1 hS => ?_)
      obtain ⟨hP1, hK1, hD1⟩ := hB
      rw [ht] at hP1
      have hP := hP1
      have hD := hD1.weaken (fun _ q _ h => hFc q.1 h)
      have hw : z41_1 = r41 := hw.symm
      subst hw
      generalize H1 = H at hP hS ⊢
      have hP : va_P (dC, dI) classes (wD cB cI o_Model r z41_3 z41_2) H := hP
      have hD : va_D A (wD cB cI o_Model r z41_3 z41_2) := hD
      obtain rfl := Option.some.inj h
      have hP9 := hP
      have hD9 := hD
      have hK9 := hK
      exact W.iret (v := z41_1) hx hb hr (fun t ht hW => ⟨⟨z41_1, (), rfl, rfl, by rw [ht]; exact hP9, va_K.moved hW.alike hK9, hD9⟩, hS.F ht⟩) hS.2.2 d_Model_explode_152
    · rw [if_pos c23] at h
      refine lv_iconst (v := 3) hx hb d_Model_explode_25 (by decide) ?_
      obtain rfl := Option.some.inj h
      have hP9 := hP
      have hD9 := hD
      have hK9 := hK
      exact W.iret (v := 3) hx hb hr (fun t ht hW => ⟨⟨3, (), rfl, rfl, by rw [ht]; exact hP9, va_K.moved hW.alike hK9, hD9⟩, hS.F ht⟩) hS.2.2 d_Model_explode_26

set_option maxHeartbeats 4000000 in
set_option maxRecDepth 100000 in
theorem l_Model_ordered_1 {p : Program} {l : Launch} {e : Env} {s : State} {m : MethodId} {args : Array Value} {below : List Frame} {meth : Method} {c : Code} {Q : State → Prop} (dC : Nat → ClassId) (dI : Nat → Nat → Nat) (N : Nat) (p0 : Int32) (p1 : Int32) {ζ : Type} {z : ζ} (hx : p.tables.exec = Jvm.exec) (hb : c.code = b_Model_ordered) (hml : c.maxLocals = 3) (hown : s.vm.findClass R_Model = some m.cls) (hg : ∀ w ∈ lw_g, w.before args s = true) (hN : dz_N s) (hK : va_K (dC, dI) classes [] s) (hP : va_P (dC, dI) classes [] s.heap) {k1_63 : Int32 → Option (ζ)} (hk1_63 : ∀   (y1_0 : Int32)   (ls : Array Slot), k1_63 y1_0 = some z → lv_has ls 3 [(0, .int p0), (1, .int p1)] → W p l e ({ frames := 0, cells := 0, slots := 0, locals := 0 } : Room) s m args below meth c s.heap [] 0 0 Q (F0 m 63 ls [.int y1_0])) : ∀     (ls : Array Slot), lm_Model_ordered_1 N p0 p1 k1_63  = some z → lv_has ls 3 [(0, .int p0), (1, .int p1)] → W p l e ({ frames := 0, cells := 0, slots := 0, locals := 0 } : Room) s m args below meth c s.heap [] 0 0 Q (F0 m 0 ls []) := by
  intro ls h hl
  unfold lm_Model_ordered_1 at h
  refine lv_iload_n hx hb d_Model_ordered_0 rfl (lv_at hl 0 rfl) ?_
  refine lv_bipush (v := 33) hx hb d_Model_ordered_1 (by decide) ?_
  refine lv_icmp_ne (tgt := 18) hx hb d_Model_ordered_3 (by decide) (fun c1 => ?_) (fun c1 => ?_)
  · rw [if_neg c1] at h
    refine lv_iload_n hx hb d_Model_ordered_18 rfl (lv_at hl 0 rfl) ?_
    refine lv_bipush (v := 34) hx hb d_Model_ordered_19 (by decide) ?_
    refine lv_icmp_ne (tgt := 36) hx hb d_Model_ordered_21 (by decide) (fun c2 => ?_) (fun c2 => ?_)
    · rw [if_neg c2] at h
      refine lv_iload_n hx hb d_Model_ordered_36 rfl (lv_at hl 0 rfl) ?_
      refine lv_bipush (v := 35) hx hb d_Model_ordered_37 (by decide) ?_
      refine lv_icmp_ne (tgt := 54) hx hb d_Model_ordered_39 (by decide) (fun c3 => ?_) (fun c3 => ?_)
      · rw [if_neg c3] at h
        refine lv_iload_n hx hb d_Model_ordered_54 rfl (lv_at hl 1 rfl) ?_
        refine lv_if_lt (tgt := 62) hx hb d_Model_ordered_55 (by decide) (fun c4 => ?_) (fun c4 => ?_)
        · rw [if_pos c4] at h
          refine lv_iconst (v := 0) hx hb d_Model_ordered_62 (by decide) ?_
          exact hk1_63 (0 : Int32) _ h (lv_sub hl [0, 1] rfl)
        · rw [if_neg c4] at h
          refine lv_iconst (v := 1) hx hb d_Model_ordered_58 (by decide) ?_
          refine lv_goto (tgt := 63) hx hb d_Model_ordered_59 (by decide) ?_
          exact hk1_63 (1 : Int32) _ h (lv_sub hl [0, 1] rfl)
      · rw [if_pos c3] at h
        refine lv_iload_n hx hb d_Model_ordered_42 rfl (lv_at hl 1 rfl) ?_
        refine lv_if_gt (tgt := 50) hx hb d_Model_ordered_43 (by decide) (fun c5 => ?_) (fun c5 => ?_)
        · rw [if_pos c5] at h
          refine lv_iconst (v := 0) hx hb d_Model_ordered_50 (by decide) ?_
          refine lv_goto (tgt := 63) hx hb d_Model_ordered_51 (by decide) ?_
          exact hk1_63 (0 : Int32) _ h (lv_sub hl [0, 1] rfl)
        · rw [if_neg c5] at h
          refine lv_iconst (v := 1) hx hb d_Model_ordered_46 (by decide) ?_
          refine lv_goto (tgt := 63) hx hb d_Model_ordered_47 (by decide) ?_
          exact hk1_63 (1 : Int32) _ h (lv_sub hl [0, 1] rfl)
    · rw [if_pos c2] at h
      refine lv_iload_n hx hb d_Model_ordered_24 rfl (lv_at hl 1 rfl) ?_
      refine lv_if_le (tgt := 32) hx hb d_Model_ordered_25 (by decide) (fun c6 => ?_) (fun c6 => ?_)
      · rw [if_pos c6] at h
        refine lv_iconst (v := 0) hx hb d_Model_ordered_32 (by decide) ?_
        refine lv_goto (tgt := 63) hx hb d_Model_ordered_33 (by decide) ?_
        exact hk1_63 (0 : Int32) _ h (lv_sub hl [0, 1] rfl)
      · rw [if_neg c6] at h
        refine lv_iconst (v := 1) hx hb d_Model_ordered_28 (by decide) ?_
        refine lv_goto (tgt := 63) hx hb d_Model_ordered_29 (by decide) ?_
        exact hk1_63 (1 : Int32) _ h (lv_sub hl [0, 1] rfl)
  · rw [if_pos c1] at h
    refine lv_iload_n hx hb d_Model_ordered_6 rfl (lv_at hl 1 rfl) ?_
    refine lv_if_ge (tgt := 14) hx hb d_Model_ordered_7 (by decide) (fun c7 => ?_) (fun c7 => ?_)
    · rw [if_pos c7] at h
      refine lv_iconst (v := 0) hx hb d_Model_ordered_14 (by decide) ?_
      refine lv_goto (tgt := 63) hx hb d_Model_ordered_15 (by decide) ?_
      exact hk1_63 (0 : Int32) _ h (lv_sub hl [0, 1] rfl)
    · rw [if_neg c7] at h
      refine lv_iconst (v := 1) hx hb d_Model_ordered_10 (by decide) ?_
      refine lv_goto (tgt := 63) hx hb d_Model_ordered_11 (by decide) ?_
      exact hk1_63 (1 : Int32) _ h (lv_sub hl [0, 1] rfl)
set_option maxHeartbeats 4000000 in
set_option maxRecDepth 100000 in
theorem c_Model_ordered (l : Launch) (dC : Nat → ClassId) (dI : Nat → Nat → Nat) (N : Nat) (p0 : Int32) (p1 : Int32) (z : Int32) (h : m_Model_ordered N p0 p1 = some z) : Met l y_Model_ordered (.code y_Model_ordered b_Model_ordered 3 (some .int) :: lw_g) ({ frames := 0, cells := 0, slots := 0, locals := 0 }) (va_Pc [.int p0, .int p1] (fun U => dz_N U ∧ va_P (dC, dI) classes [] U.heap ∧ va_K (dC, dI) classes [] U)) (vp_Si (fun r => r = z)) 0 0 (fun _ => False) := by
  refine Met.ofW (cc := b_Model_ordered) (maxL := 3) (ret := (some .int)) (by decide +kernel) rfl ?_
  intro p e s m args below meth c s₁ B hml hv
  obtain ⟨rfl, hN, hP, hK⟩ := hv
  have hx := B.exec
  have hb := B.bytes
  have hr := B.returns
  have hg : ∀ w ∈ lw_g, w.before _ s = true := fun w hw => atoms_spec (ws := .code y_Model_ordered b_Model_ordered 3 (some .int) :: lw_g) B.pre w (List.mem_cons_of_mem _ hw)
  have hown : s.vm.findClass R_Model = some m.cls := findClass_of_methodNamed B.named
  have hlocks := B.notSynchronized
  clear B
  have hP : va_P (dC, dI) classes [] s.heap := hP
  have hl := lv_entry ([.int p0, .int p1]) (n := 3) (Nat.le_of_ble_eq_true rfl)
  rw [lg_entry_eq]
  generalize (lg_sl ([.int p0, .int p1]) ++ List.replicate (3 - (lg_sl ([.int p0, .int p1])).length) Slot.unset).toArray = ls at hl ⊢
  have hl : lv_has ls 3 [(0, .int p0), (1, .int p1)] := hl
  unfold m_Model_ordered at h
  refine l_Model_ordered_1 dC dI N p0 p1 hx hb hml hown hg hN hK hP (fun y1_0 ls h hl => ?_)  _ h (lv_sub hl [0, 1] rfl)
  refine lv_istore_n (lv' := [(2, .int y1_0), (0, .int p0), (1, .int p1)]) hx hb d_Model_ordered_63 rfl hl (by decide) rfl (fun ls hl => ?_)
  refine lv_iload_n hx hb d_Model_ordered_64 rfl (lv_at hl 1 rfl) ?_
  refine lv_bipush (v := 32) hx hb d_Model_ordered_65 (by decide) ?_
  refine lv_icmp_ne (tgt := 90) hx hb d_Model_ordered_67 (by decide) (fun c8 => ?_) (fun c8 => ?_)
  · rw [if_neg c8] at h
    refine lv_iload_n hx hb d_Model_ordered_90 rfl (lv_at hl 0 rfl) ?_
    refine lv_if_eq (tgt := 98) hx hb d_Model_ordered_91 (by decide) (fun c9 => ?_) (fun c9 => ?_)
    · rw [if_pos c9] at h
      refine lv_iconst (v := 0) hx hb d_Model_ordered_98 (by decide) ?_
      obtain rfl := Option.some.inj h
      exact W.iret (v := 0) hx hb hr (fun t ht hW => ⟨_, rfl, rfl, ht⟩) (fun _ h => by cases h) d_Model_ordered_99
    · rw [if_neg c9] at h
      refine lv_iconst (v := 1) hx hb d_Model_ordered_94 (by decide) ?_
      refine lv_goto (tgt := 99) hx hb d_Model_ordered_95 (by decide) ?_
      obtain rfl := Option.some.inj h
      exact W.iret (v := 1) hx hb hr (fun t ht hW => ⟨_, rfl, rfl, ht⟩) (fun _ h => by cases h) d_Model_ordered_99
  · rw [if_pos c8] at h
    refine lv_iload_n hx hb d_Model_ordered_70 rfl (lv_at hl 2 rfl) ?_
    refine lv_if_ge (tgt := 78) hx hb d_Model_ordered_71 (by decide) (fun c10 => ?_) (fun c10 => ?_)
    · rw [if_pos c10] at h
      refine lv_iload_n hx hb d_Model_ordered_78 rfl (lv_at hl 2 rfl) ?_
      refine lv_if_le (tgt := 86) hx hb d_Model_ordered_79 (by decide) (fun c11 => ?_) (fun c11 => ?_)
      · rw [if_pos c11] at h
        refine lv_iconst (v := 0) hx hb d_Model_ordered_86 (by decide) ?_
        refine lv_goto (tgt := 99) hx hb d_Model_ordered_87 (by decide) ?_
        obtain rfl := Option.some.inj h
        exact W.iret (v := 0) hx hb hr (fun t ht hW => ⟨_, rfl, rfl, ht⟩) (fun _ h => by cases h) d_Model_ordered_99
      · rw [if_neg c11] at h
        refine lv_iconst (v := 1) hx hb d_Model_ordered_82 (by decide) ?_
        refine lv_goto (tgt := 99) hx hb d_Model_ordered_83 (by decide) ?_
        obtain rfl := Option.some.inj h
        exact W.iret (v := 1) hx hb hr (fun t ht hW => ⟨_, rfl, rfl, ht⟩) (fun _ h => by cases h) d_Model_ordered_99
    · rw [if_neg c10] at h
      refine lv_iconst (v := (-1)) hx hb d_Model_ordered_74 (by decide) ?_
      refine lv_goto (tgt := 99) hx hb d_Model_ordered_75 (by decide) ?_
      obtain rfl := Option.some.inj h
      exact W.iret (v := (-1)) hx hb hr (fun t ht hW => ⟨_, rfl, rfl, ht⟩) (fun _ h => by cases h) d_Model_ordered_99
