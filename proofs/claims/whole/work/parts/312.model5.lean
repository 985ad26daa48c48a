theorem d_Model_isEqual_0 : decode b_Model_isEqual 0 = .ok (.aload_n 0, 1) := by decide +kernel
theorem d_Model_isEqual_1 : decode b_Model_isEqual 1 = .ok (.iconst 0, 1) := by decide +kernel
theorem d_Model_isEqual_2 : decode b_Model_isEqual 2 = .ok (.putfield 332, 3) := by decide +kernel
theorem d_Model_isEqual_5 : decode b_Model_isEqual 5 = .ok (.aload_n 0, 1) := by decide +kernel
theorem d_Model_isEqual_6 : decode b_Model_isEqual 6 = .ok (.aload_n 0, 1) := by decide +kernel
theorem d_Model_isEqual_7 : decode b_Model_isEqual 7 = .ok (.getfield 63, 3) := by decide +kernel
theorem d_Model_isEqual_10 : decode b_Model_isEqual 10 = .ok (.aload_n 0, 1) := by decide +kernel
theorem d_Model_isEqual_11 : decode b_Model_isEqual 11 = .ok (.getfield 135, 3) := by decide +kernel
theorem d_Model_isEqual_14 : decode b_Model_isEqual 14 = .ok (.iconst 2, 1) := by decide +kernel
theorem d_Model_isEqual_15 : decode b_Model_isEqual 15 = .ok (.isub, 1) := by decide +kernel
theorem d_Model_isEqual_16 : decode b_Model_isEqual 16 = .ok (.iaload, 1) := by decide +kernel
theorem d_Model_isEqual_17 : decode b_Model_isEqual 17 = .ok (.aload_n 0, 1) := by decide +kernel
theorem d_Model_isEqual_18 : decode b_Model_isEqual 18 = .ok (.getfield 66, 3) := by decide +kernel
theorem d_Model_isEqual_21 : decode b_Model_isEqual 21 = .ok (.aload_n 0, 1) := by decide +kernel
theorem d_Model_isEqual_22 : decode b_Model_isEqual 22 = .ok (.getfield 135, 3) := by decide +kernel
theorem d_Model_isEqual_25 : decode b_Model_isEqual 25 = .ok (.iconst 2, 1) := by decide +kernel
theorem d_Model_isEqual_26 : decode b_Model_isEqual 26 = .ok (.isub, 1) := by decide +kernel
theorem d_Model_isEqual_27 : decode b_Model_isEqual 27 = .ok (.iaload, 1) := by decide +kernel
theorem d_Model_isEqual_28 : decode b_Model_isEqual 28 = .ok (.aload_n 0, 1) := by decide +kernel
theorem d_Model_isEqual_29 : decode b_Model_isEqual 29 = .ok (.getfield 63, 3) := by decide +kernel
theorem d_Model_isEqual_32 : decode b_Model_isEqual 32 = .ok (.aload_n 0, 1) := by decide +kernel
theorem d_Model_isEqual_33 : decode b_Model_isEqual 33 = .ok (.getfield 135, 3) := by decide +kernel
theorem d_Model_isEqual_36 : decode b_Model_isEqual 36 = .ok (.iconst 1, 1) := by decide +kernel
theorem d_Model_isEqual_37 : decode b_Model_isEqual 37 = .ok (.isub, 1) := by decide +kernel
theorem d_Model_isEqual_38 : decode b_Model_isEqual 38 = .ok (.iaload, 1) := by decide +kernel
theorem d_Model_isEqual_39 : decode b_Model_isEqual 39 = .ok (.aload_n 0, 1) := by decide +kernel
theorem d_Model_isEqual_40 : decode b_Model_isEqual 40 = .ok (.getfield 66, 3) := by decide +kernel
theorem d_Model_isEqual_43 : decode b_Model_isEqual 43 = .ok (.aload_n 0, 1) := by decide +kernel
theorem d_Model_isEqual_44 : decode b_Model_isEqual 44 = .ok (.getfield 135, 3) := by decide +kernel
theorem d_Model_isEqual_47 : decode b_Model_isEqual 47 = .ok (.iconst 1, 1) := by decide +kernel
theorem d_Model_isEqual_48 : decode b_Model_isEqual 48 = .ok (.isub, 1) := by decide +kernel
theorem d_Model_isEqual_49 : decode b_Model_isEqual 49 = .ok (.iaload, 1) := by decide +kernel
theorem d_Model_isEqual_50 : decode b_Model_isEqual 50 = .ok (.invokevirtual 335, 3) := by decide +kernel
theorem d_Model_isEqual_53 : decode b_Model_isEqual 53 = .ok (.istore_n 1, 1) := by decide +kernel
theorem d_Model_isEqual_54 : decode b_Model_isEqual 54 = .ok (.aload_n 0, 1) := by decide +kernel
theorem d_Model_isEqual_55 : decode b_Model_isEqual 55 = .ok (.getfield 332, 3) := by decide +kernel
theorem d_Model_isEqual_58 : decode b_Model_isEqual 58 = .ok (.ifCond .le 116, 3) := by decide +kernel
theorem d_Model_isEqual_61 : decode b_Model_isEqual 61 = .ok (.iload_n 1, 1) := by decide +kernel
theorem d_Model_isEqual_62 : decode b_Model_isEqual 62 = .ok (.ifCond .eq 112, 3) := by decide +kernel
theorem d_Model_isEqual_65 : decode b_Model_isEqual 65 = .ok (.aload_n 0, 1) := by decide +kernel
theorem d_Model_isEqual_66 : decode b_Model_isEqual 66 = .ok (.dup, 1) := by decide +kernel
theorem d_Model_isEqual_67 : decode b_Model_isEqual 67 = .ok (.getfield 332, 3) := by decide +kernel
theorem d_Model_isEqual_70 : decode b_Model_isEqual 70 = .ok (.iconst 3, 1) := by decide +kernel
theorem d_Model_isEqual_71 : decode b_Model_isEqual 71 = .ok (.isub, 1) := by decide +kernel
theorem d_Model_isEqual_72 : decode b_Model_isEqual 72 = .ok (.putfield 332, 3) := by decide +kernel
theorem d_Model_isEqual_75 : decode b_Model_isEqual 75 = .ok (.aload_n 0, 1) := by decide +kernel
theorem d_Model_isEqual_76 : decode b_Model_isEqual 76 = .ok (.getfield 96, 3) := by decide +kernel
theorem d_Model_isEqual_79 : decode b_Model_isEqual 79 = .ok (.aload_n 0, 1) := by decide +kernel
theorem d_Model_isEqual_80 : decode b_Model_isEqual 80 = .ok (.getfield 332, 3) := by decide +kernel
theorem d_Model_isEqual_83 : decode b_Model_isEqual 83 = .ok (.iaload, 1) := by decide +kernel
theorem d_Model_isEqual_84 : decode b_Model_isEqual 84 = .ok (.istore_n 2, 1) := by decide +kernel
theorem d_Model_isEqual_85 : decode b_Model_isEqual 85 = .ok (.aload_n 0, 1) := by decide +kernel
theorem d_Model_isEqual_86 : decode b_Model_isEqual 86 = .ok (.getfield 96, 3) := by decide +kernel
theorem d_Model_isEqual_89 : decode b_Model_isEqual 89 = .ok (.aload_n 0, 1) := by decide +kernel
theorem d_Model_isEqual_90 : decode b_Model_isEqual 90 = .ok (.getfield 332, 3) := by decide +kernel
theorem d_Model_isEqual_93 : decode b_Model_isEqual 93 = .ok (.iconst 1, 1) := by decide +kernel
theorem d_Model_isEqual_94 : decode b_Model_isEqual 94 = .ok (.iadd, 1) := by decide +kernel
theorem d_Model_isEqual_95 : decode b_Model_isEqual 95 = .ok (.iaload, 1) := by decide +kernel
theorem d_Model_isEqual_96 : decode b_Model_isEqual 96 = .ok (.istore_n 3, 1) := by decide +kernel
theorem d_Model_isEqual_97 : decode b_Model_isEqual 97 = .ok (.aload_n 0, 1) := by decide +kernel
theorem d_Model_isEqual_98 : decode b_Model_isEqual 98 = .ok (.getfield 96, 3) := by decide +kernel
theorem d_Model_isEqual_101 : decode b_Model_isEqual 101 = .ok (.aload_n 0, 1) := by decide +kernel
theorem d_Model_isEqual_102 : decode b_Model_isEqual 102 = .ok (.getfield 332, 3) := by decide +kernel
theorem d_Model_isEqual_105 : decode b_Model_isEqual 105 = .ok (.iconst 2, 1) := by decide +kernel
theorem d_Model_isEqual_106 : decode b_Model_isEqual 106 = .ok (.iadd, 1) := by decide +kernel
theorem d_Model_isEqual_107 : decode b_Model_isEqual 107 = .ok (.iaload, 1) := by decide +kernel
theorem d_Model_isEqual_108 : decode b_Model_isEqual 108 = .ok (.istore 4, 2) := by decide +kernel
theorem d_Model_isEqual_110 : decode b_Model_isEqual 110 = .ok (.iload 4, 2) := by decide +kernel
theorem d_Model_isEqual_112 : decode b_Model_isEqual 112 = .ok (.aload_n 0, 1) := by decide +kernel
theorem d_Model_isEqual_113 : decode b_Model_isEqual 113 = .ok (.iload_n 2, 1) := by decide +kernel
theorem d_Model_isEqual_114 : decode b_Model_isEqual 114 = .ok (.invokevirtual 106, 3) := by decide +kernel
theorem d_Model_isEqual_117 : decode b_Model_isEqual 117 = .ok (.if_icmp .ge 13, 3) := by decide +kernel
theorem d_Model_isEqual_120 : decode b_Model_isEqual 120 = .ok (.aload_n 0, 1) := by decide +kernel
theorem d_Model_isEqual_121 : decode b_Model_isEqual 121 = .ok (.iload_n 2, 1) := by decide +kernel
theorem d_Model_isEqual_122 : decode b_Model_isEqual 122 = .ok (.iload_n 3, 1) := by decide +kernel
theorem d_Model_isEqual_123 : decode b_Model_isEqual 123 = .ok (.iload 4, 2) := by decide +kernel
theorem d_Model_isEqual_125 : decode b_Model_isEqual 125 = .ok (.iconst 1, 1) := by decide +kernel
theorem d_Model_isEqual_126 : decode b_Model_isEqual 126 = .ok (.iadd, 1) := by decide +kernel
theorem d_Model_isEqual_127 : decode b_Model_isEqual 127 = .ok (.invokevirtual 338, 3) := by decide +kernel
theorem d_Model_isEqual_130 : decode b_Model_isEqual 130 = .ok (.aload_n 0, 1) := by decide +kernel
theorem d_Model_isEqual_131 : decode b_Model_isEqual 131 = .ok (.aload_n 0, 1) := by decide +kernel
theorem d_Model_isEqual_132 : decode b_Model_isEqual 132 = .ok (.getfield 10, 3) := by decide +kernel
theorem d_Model_isEqual_135 : decode b_Model_isEqual 135 = .ok (.iload_n 2, 1) := by decide +kernel
theorem d_Model_isEqual_136 : decode b_Model_isEqual 136 = .ok (.iload 4, 2) := by decide +kernel
theorem d_Model_isEqual_138 : decode b_Model_isEqual 138 = .ok (.iadd, 1) := by decide +kernel
theorem d_Model_isEqual_139 : decode b_Model_isEqual 139 = .ok (.iaload, 1) := by decide +kernel
theorem d_Model_isEqual_140 : decode b_Model_isEqual 140 = .ok (.aload_n 0, 1) := by decide +kernel
theorem d_Model_isEqual_141 : decode b_Model_isEqual 141 = .ok (.getfield 14, 3) := by decide +kernel
theorem d_Model_isEqual_144 : decode b_Model_isEqual 144 = .ok (.iload_n 2, 1) := by decide +kernel
theorem d_Model_isEqual_145 : decode b_Model_isEqual 145 = .ok (.iload 4, 2) := by decide +kernel
theorem d_Model_isEqual_147 : decode b_Model_isEqual 147 = .ok (.iadd, 1) := by decide +kernel
theorem d_Model_isEqual_148 : decode b_Model_isEqual 148 = .ok (.iaload, 1) := by decide +kernel
theorem d_Model_isEqual_149 : decode b_Model_isEqual 149 = .ok (.aload_n 0, 1) := by decide +kernel
theorem d_Model_isEqual_150 : decode b_Model_isEqual 150 = .ok (.getfield 10, 3) := by decide +kernel
theorem d_Model_isEqual_153 : decode b_Model_isEqual 153 = .ok (.iload_n 3, 1) := by decide +kernel
theorem d_Model_isEqual_154 : decode b_Model_isEqual 154 = .ok (.iload 4, 2) := by decide +kernel
theorem d_Model_isEqual_156 : decode b_Model_isEqual 156 = .ok (.iadd, 1) := by decide +kernel
theorem d_Model_isEqual_157 : decode b_Model_isEqual 157 = .ok (.iaload, 1) := by decide +kernel
theorem d_Model_isEqual_158 : decode b_Model_isEqual 158 = .ok (.aload_n 0, 1) := by decide +kernel
theorem d_Model_isEqual_159 : decode b_Model_isEqual 159 = .ok (.getfield 14, 3) := by decide +kernel
theorem d_Model_isEqual_162 : decode b_Model_isEqual 162 = .ok (.iload_n 3, 1) := by decide +kernel
theorem d_Model_isEqual_163 : decode b_Model_isEqual 163 = .ok (.iload 4, 2) := by decide +kernel
theorem d_Model_isEqual_165 : decode b_Model_isEqual 165 = .ok (.iadd, 1) := by decide +kernel
theorem d_Model_isEqual_166 : decode b_Model_isEqual 166 = .ok (.iaload, 1) := by decide +kernel
theorem d_Model_isEqual_167 : decode b_Model_isEqual 167 = .ok (.invokevirtual 335, 3) := by decide +kernel
theorem d_Model_isEqual_170 : decode b_Model_isEqual 170 = .ok (.istore_n 1, 1) := by decide +kernel
theorem d_Model_isEqual_171 : decode b_Model_isEqual 171 = .ok (.goto (-117), 3) := by decide +kernel
theorem d_Model_isEqual_174 : decode b_Model_isEqual 174 = .ok (.aload_n 0, 1) := by decide +kernel
theorem d_Model_isEqual_175 : decode b_Model_isEqual 175 = .ok (.getfield 341, 3) := by decide +kernel
theorem d_Model_isEqual_178 : decode b_Model_isEqual 178 = .ok (.ifCond .le 31, 3) := by decide +kernel
theorem d_Model_isEqual_181 : decode b_Model_isEqual 181 = .ok (.aload_n 0, 1) := by decide +kernel
theorem d_Model_isEqual_182 : decode b_Model_isEqual 182 = .ok (.dup, 1) := by decide +kernel
theorem d_Model_isEqual_183 : decode b_Model_isEqual 183 = .ok (.getfield 341, 3) := by decide +kernel
theorem d_Model_isEqual_186 : decode b_Model_isEqual 186 = .ok (.iconst 1, 1) := by decide +kernel
theorem d_Model_isEqual_187 : decode b_Model_isEqual 187 = .ok (.isub, 1) := by decide +kernel
theorem d_Model_isEqual_188 : decode b_Model_isEqual 188 = .ok (.putfield 341, 3) := by decide +kernel
theorem d_Model_isEqual_191 : decode b_Model_isEqual 191 = .ok (.aload_n 0, 1) := by decide +kernel
theorem d_Model_isEqual_192 : decode b_Model_isEqual 192 = .ok (.getfield 17, 3) := by decide +kernel
theorem d_Model_isEqual_195 : decode b_Model_isEqual 195 = .ok (.aload_n 0, 1) := by decide +kernel
theorem d_Model_isEqual_196 : decode b_Model_isEqual 196 = .ok (.getfield 99, 3) := by decide +kernel
theorem d_Model_isEqual_199 : decode b_Model_isEqual 199 = .ok (.aload_n 0, 1) := by decide +kernel
theorem d_Model_isEqual_200 : decode b_Model_isEqual 200 = .ok (.getfield 341, 3) := by decide +kernel
theorem d_Model_isEqual_203 : decode b_Model_isEqual 203 = .ok (.iaload, 1) := by decide +kernel
theorem d_Model_isEqual_204 : decode b_Model_isEqual 204 = .ok (.iconst (-1), 1) := by decide +kernel
theorem d_Model_isEqual_205 : decode b_Model_isEqual 205 = .ok (.iastore, 1) := by decide +kernel
theorem d_Model_isEqual_206 : decode b_Model_isEqual 206 = .ok (.goto (-32), 3) := by decide +kernel
theorem d_Model_isEqual_209 : decode b_Model_isEqual 209 = .ok (.iload_n 1, 1) := by decide +kernel
theorem d_Model_isEqual_210 : decode b_Model_isEqual 210 = .ok (.ireturn, 1) := by decide +kernel
theorem d_Model_raiseGlobal_0 : decode b_Model_raiseGlobal 0 = .ok (.aload_n 0, 1) := by decide +kernel
theorem d_Model_raiseGlobal_1 : decode b_Model_raiseGlobal 1 = .ok (.getfield 20, 3) := by decide +kernel
theorem d_Model_raiseGlobal_4 : decode b_Model_raiseGlobal 4 = .ok (.iload_n 2, 1) := by decide +kernel
theorem d_Model_raiseGlobal_5 : decode b_Model_raiseGlobal 5 = .ok (.iaload, 1) := by decide +kernel
theorem d_Model_raiseGlobal_6 : decode b_Model_raiseGlobal 6 = .ok (.sipush 255, 3) := by decide +kernel
theorem d_Model_raiseGlobal_9 : decode b_Model_raiseGlobal 9 = .ok (.iand, 1) := by decide +kernel
theorem d_Model_raiseGlobal_10 : decode b_Model_raiseGlobal 10 = .ok (.iconst 1, 1) := by decide +kernel
theorem d_Model_raiseGlobal_11 : decode b_Model_raiseGlobal 11 = .ok (.if_icmp .ne 24, 3) := by decide +kernel
theorem d_Model_raiseGlobal_14 : decode b_Model_raiseGlobal 14 = .ok (.aload_n 0, 1) := by decide +kernel
theorem d_Model_raiseGlobal_15 : decode b_Model_raiseGlobal 15 = .ok (.iload_n 1, 1) := by decide +kernel
theorem d_Model_raiseGlobal_16 : decode b_Model_raiseGlobal 16 = .ok (.aload_n 0, 1) := by decide +kernel
theorem d_Model_raiseGlobal_17 : decode b_Model_raiseGlobal 17 = .ok (.getfield 20, 3) := by decide +kernel
theorem d_Model_raiseGlobal_20 : decode b_Model_raiseGlobal 20 = .ok (.iload_n 2, 1) := by decide +kernel
theorem d_Model_raiseGlobal_21 : decode b_Model_raiseGlobal 21 = .ok (.iaload, 1) := by decide +kernel
theorem d_Model_raiseGlobal_22 : decode b_Model_raiseGlobal 22 = .ok (.aload_n 0, 1) := by decide +kernel
theorem d_Model_raiseGlobal_23 : decode b_Model_raiseGlobal 23 = .ok (.getfield 23, 3) := by decide +kernel
theorem d_Model_raiseGlobal_26 : decode b_Model_raiseGlobal 26 = .ok (.iload_n 2, 1) := by decide +kernel
theorem d_Model_raiseGlobal_27 : decode b_Model_raiseGlobal 27 = .ok (.iaload, 1) := by decide +kernel
theorem d_Model_raiseGlobal_28 : decode b_Model_raiseGlobal 28 = .ok (.iconst 2, 1) := by decide +kernel
theorem d_Model_raiseGlobal_29 : decode b_Model_raiseGlobal 29 = .ok (.invokevirtual 286, 3) := by decide +kernel
theorem d_Model_raiseGlobal_32 : decode b_Model_raiseGlobal 32 = .ok (.goto 4, 3) := by decide +kernel
theorem d_Model_raiseGlobal_35 : decode b_Model_raiseGlobal 35 = .ok (.iconst 4, 1) := by decide +kernel
theorem d_Model_raiseGlobal_36 : decode b_Model_raiseGlobal 36 = .ok (.ireturn, 1) := by decide +kernel
theorem d_Model_divide_0 : decode b_Model_divide 0 = .ok (.iload_n 3, 1) := by decide +kernel
theorem d_Model_divide_1 : decode b_Model_divide 1 = .ok (.ifCond .ne 10, 3) := by decide +kernel
theorem d_Model_divide_4 : decode b_Model_divide 4 = .ok (.aload_n 0, 1) := by decide +kernel
theorem d_Model_divide_5 : decode b_Model_divide 5 = .ok (.iconst 2, 1) := by decide +kernel
theorem d_Model_divide_6 : decode b_Model_divide 6 = .ok (.iconst 3, 1) := by decide +kernel
theorem d_Model_divide_7 : decode b_Model_divide 7 = .ok (.invokevirtual 360, 3) := by decide +kernel
theorem d_Model_divide_10 : decode b_Model_divide 10 = .ok (.ireturn, 1) := by decide +kernel
theorem d_Model_divide_11 : decode b_Model_divide 11 = .ok (.iload_n 1, 1) := by decide +kernel
theorem d_Model_divide_12 : decode b_Model_divide 12 = .ok (.bipush 6, 2) := by decide +kernel
theorem d_Model_divide_14 : decode b_Model_divide 14 = .ok (.if_icmp .le 12, 3) := by decide +kernel
theorem d_Model_divide_17 : decode b_Model_divide 17 = .ok (.iload_n 2, 1) := by decide +kernel
theorem d_Model_divide_18 : decode b_Model_divide 18 = .ok (.i2l, 1) := by decide +kernel
theorem d_Model_divide_19 : decode b_Model_divide 19 = .ok (.ldc2_w 375, 3) := by decide +kernel
theorem d_Model_divide_22 : decode b_Model_divide 22 = .ok (.land, 1) := by decide +kernel
theorem d_Model_divide_23 : decode b_Model_divide 23 = .ok (.goto 5, 3) := by decide +kernel
theorem d_Model_divide_26 : decode b_Model_divide 26 = .ok (.iload_n 2, 1) := by decide +kernel
theorem d_Model_divide_27 : decode b_Model_divide 27 = .ok (.i2l, 1) := by decide +kernel
theorem d_Model_divide_28 : decode b_Model_divide 28 = .ok (.lstore 4, 2) := by decide +kernel
theorem d_Model_divide_30 : decode b_Model_divide 30 = .ok (.iload_n 1, 1) := by decide +kernel
theorem d_Model_divide_31 : decode b_Model_divide 31 = .ok (.bipush 6, 2) := by decide +kernel
theorem d_Model_divide_33 : decode b_Model_divide 33 = .ok (.if_icmp .le 12, 3) := by decide +kernel
theorem d_Model_divide_36 : decode b_Model_divide 36 = .ok (.iload_n 3, 1) := by decide +kernel
theorem d_Model_divide_37 : decode b_Model_divide 37 = .ok (.i2l, 1) := by decide +kernel
theorem d_Model_divide_38 : decode b_Model_divide 38 = .ok (.ldc2_w 375, 3) := by decide +kernel
theorem d_Model_divide_41 : decode b_Model_divide 41 = .ok (.land, 1) := by decide +kernel
theorem d_Model_divide_42 : decode b_Model_divide 42 = .ok (.goto 5, 3) := by decide +kernel
theorem d_Model_divide_45 : decode b_Model_divide 45 = .ok (.iload_n 3, 1) := by decide +kernel
theorem d_Model_divide_46 : decode b_Model_divide 46 = .ok (.i2l, 1) := by decide +kernel
theorem d_Model_divide_47 : decode b_Model_divide 47 = .ok (.lstore 6, 2) := by decide +kernel
theorem d_Model_divide_49 : decode b_Model_divide 49 = .ok (.lload 4, 2) := by decide +kernel
theorem d_Model_divide_51 : decode b_Model_divide 51 = .ok (.lload 6, 2) := by decide +kernel
theorem d_Model_divide_53 : decode b_Model_divide 53 = .ok (.ldiv, 1) := by decide +kernel
theorem d_Model_divide_54 : decode b_Model_divide 54 = .ok (.lstore 8, 2) := by decide +kernel
theorem d_Model_divide_56 : decode b_Model_divide 56 = .ok (.lload 4, 2) := by decide +kernel
theorem d_Model_divide_58 : decode b_Model_divide 58 = .ok (.lload 6, 2) := by decide +kernel
theorem d_Model_divide_60 : decode b_Model_divide 60 = .ok (.lrem, 1) := by decide +kernel
theorem d_Model_divide_61 : decode b_Model_divide 61 = .ok (.lconst 0, 1) := by decide +kernel
theorem d_Model_divide_62 : decode b_Model_divide 62 = .ok (.lcmp, 1) := by decide +kernel
theorem d_Model_divide_63 : decode b_Model_divide 63 = .ok (.ifCond .eq 37, 3) := by decide +kernel
theorem d_Model_divide_66 : decode b_Model_divide 66 = .ok (.lload 4, 2) := by decide +kernel
theorem d_Model_divide_68 : decode b_Model_divide 68 = .ok (.lconst 0, 1) := by decide +kernel
theorem d_Model_divide_69 : decode b_Model_divide 69 = .ok (.lcmp, 1) := by decide +kernel
theorem d_Model_divide_70 : decode b_Model_divide 70 = .ok (.ifCond .ge 7, 3) := by decide +kernel
theorem d_Model_divide_73 : decode b_Model_divide 73 = .ok (.iconst 1, 1) := by decide +kernel
theorem d_Model_divide_74 : decode b_Model_divide 74 = .ok (.goto 4, 3) := by decide +kernel
theorem d_Model_divide_77 : decode b_Model_divide 77 = .ok (.iconst 0, 1) := by decide +kernel
theorem d_Model_divide_78 : decode b_Model_divide 78 = .ok (.lload 6, 2) := by decide +kernel
theorem d_Model_divide_80 : decode b_Model_divide 80 = .ok (.lconst 0, 1) := by decide +kernel
theorem d_Model_divide_81 : decode b_Model_divide 81 = .ok (.lcmp, 1) := by decide +kernel
theorem d_Model_divide_82 : decode b_Model_divide 82 = .ok (.ifCond .ge 7, 3) := by decide +kernel
theorem d_Model_divide_85 : decode b_Model_divide 85 = .ok (.iconst 1, 1) := by decide +kernel
theorem d_Model_divide_86 : decode b_Model_divide 86 = .ok (.goto 4, 3) := by decide +kernel
theorem d_Model_divide_89 : decode b_Model_divide 89 = .ok (.iconst 0, 1) := by decide +kernel
theorem d_Model_divide_90 : decode b_Model_divide 90 = .ok (.if_icmp .eq 10, 3) := by decide +kernel
theorem d_Model_divide_93 : decode b_Model_divide 93 = .ok (.lload 8, 2) := by decide +kernel
theorem d_Model_divide_95 : decode b_Model_divide 95 = .ok (.lconst 1, 1) := by decide +kernel
theorem d_Model_divide_96 : decode b_Model_divide 96 = .ok (.lsub, 1) := by decide +kernel
theorem d_Model_divide_97 : decode b_Model_divide 97 = .ok (.goto 5, 3) := by decide +kernel
theorem d_Model_divide_100 : decode b_Model_divide 100 = .ok (.lload 8, 2) := by decide +kernel
theorem d_Model_divide_102 : decode b_Model_divide 102 = .ok (.lstore 8, 2) := by decide +kernel
theorem d_Model_divide_104 : decode b_Model_divide 104 = .ok (.iload_n 1, 1) := by decide +kernel
theorem d_Model_divide_105 : decode b_Model_divide 105 = .ok (.iconst 5, 1) := by decide +kernel
theorem d_Model_divide_106 : decode b_Model_divide 106 = .ok (.if_icmp .eq 9, 3) := by decide +kernel
theorem d_Model_divide_109 : decode b_Model_divide 109 = .ok (.iload_n 1, 1) := by decide +kernel
theorem d_Model_divide_110 : decode b_Model_divide 110 = .ok (.bipush 14, 2) := by decide +kernel
theorem d_Model_divide_112 : decode b_Model_divide 112 = .ok (.if_icmp .ne 8, 3) := by decide +kernel
theorem d_Model_divide_115 : decode b_Model_divide 115 = .ok (.lload 8, 2) := by decide +kernel
theorem d_Model_divide_117 : decode b_Model_divide 117 = .ok (.goto 11, 3) := by decide +kernel
theorem d_Model_divide_120 : decode b_Model_divide 120 = .ok (.lload 4, 2) := by decide +kernel
theorem d_Model_divide_122 : decode b_Model_divide 122 = .ok (.lload 8, 2) := by decide +kernel
theorem d_Model_divide_124 : decode b_Model_divide 124 = .ok (.lload 6, 2) := by decide +kernel
theorem d_Model_divide_126 : decode b_Model_divide 126 = .ok (.lmul, 1) := by decide +kernel
theorem d_Model_divide_127 : decode b_Model_divide 127 = .ok (.lsub, 1) := by decide +kernel
theorem d_Model_divide_128 : decode b_Model_divide 128 = .ok (.lstore 10, 2) := by decide +kernel
theorem d_Model_divide_130 : decode b_Model_divide 130 = .ok (.iload_n 1, 1) := by decide +kernel
theorem d_Model_divide_131 : decode b_Model_divide 131 = .ok (.iconst 5, 1) := by decide +kernel
theorem d_Model_divide_132 : decode b_Model_divide 132 = .ok (.if_icmp .ne 22, 3) := by decide +kernel
theorem d_Model_divide_135 : decode b_Model_divide 135 = .ok (.lload 10, 2) := by decide +kernel
theorem d_Model_divide_137 : decode b_Model_divide 137 = .ok (.lload 10, 2) := by decide +kernel
theorem d_Model_divide_139 : decode b_Model_divide 139 = .ok (.l2i, 1) := by decide +kernel
theorem d_Model_divide_140 : decode b_Model_divide 140 = .ok (.i2l, 1) := by decide +kernel
theorem d_Model_divide_141 : decode b_Model_divide 141 = .ok (.lcmp, 1) := by decide +kernel
theorem d_Model_divide_142 : decode b_Model_divide 142 = .ok (.ifCond .eq 12, 3) := by decide +kernel
theorem d_Model_divide_145 : decode b_Model_divide 145 = .ok (.aload_n 0, 1) := by decide +kernel
theorem d_Model_divide_146 : decode b_Model_divide 146 = .ok (.iconst 2, 1) := by decide +kernel
theorem d_Model_divide_147 : decode b_Model_divide 147 = .ok (.iconst 2, 1) := by decide +kernel
theorem d_Model_divide_148 : decode b_Model_divide 148 = .ok (.invokevirtual 360, 3) := by decide +kernel
theorem d_Model_divide_151 : decode b_Model_divide 151 = .ok (.goto 17, 3) := by decide +kernel
theorem d_Model_divide_154 : decode b_Model_divide 154 = .ok (.aload_n 0, 1) := by decide +kernel
theorem d_Model_divide_155 : decode b_Model_divide 155 = .ok (.iconst 2, 1) := by decide +kernel
theorem d_Model_divide_156 : decode b_Model_divide 156 = .ok (.aload_n 0, 1) := by decide +kernel
theorem d_Model_divide_157 : decode b_Model_divide 157 = .ok (.iconst 2, 1) := by decide +kernel
theorem d_Model_divide_158 : decode b_Model_divide 158 = .ok (.iconst 0, 1) := by decide +kernel
theorem d_Model_divide_159 : decode b_Model_divide 159 = .ok (.lload 10, 2) := by decide +kernel
theorem d_Model_divide_161 : decode b_Model_divide 161 = .ok (.l2i, 1) := by decide +kernel
theorem d_Model_divide_162 : decode b_Model_divide 162 = .ok (.invokevirtual 207, 3) := by decide +kernel
theorem d_Model_divide_165 : decode b_Model_divide 165 = .ok (.invokevirtual 228, 3) := by decide +kernel
theorem d_Model_divide_168 : decode b_Model_divide 168 = .ok (.ireturn, 1) := by decide +kernel
theorem d_Model_makes_0 : decode b_Model_makes 0 = .ok (.aload_n 0, 1) := by decide +kernel
theorem d_Model_makes_1 : decode b_Model_makes 1 = .ok (.getfield 164, 3) := by decide +kernel
theorem d_Model_makes_4 : decode b_Model_makes 4 = .ok (.i2l, 1) := by decide +kernel
theorem d_Model_makes_5 : decode b_Model_makes 5 = .ok (.iload_n 1, 1) := by decide +kernel
theorem d_Model_makes_6 : decode b_Model_makes 6 = .ok (.i2l, 1) := by decide +kernel
theorem d_Model_makes_7 : decode b_Model_makes 7 = .ok (.ladd, 1) := by decide +kernel
theorem d_Model_makes_8 : decode b_Model_makes 8 = .ok (.aload_n 0, 1) := by decide +kernel
theorem d_Model_makes_9 : decode b_Model_makes 9 = .ok (.getfield 89, 3) := by decide +kernel
theorem d_Model_makes_12 : decode b_Model_makes 12 = .ok (.i2l, 1) := by decide +kernel
theorem d_Model_makes_13 : decode b_Model_makes 13 = .ok (.lcmp, 1) := by decide +kernel
theorem d_Model_makes_14 : decode b_Model_makes 14 = .ok (.ifCond .gt 11, 3) := by decide +kernel
theorem d_Model_makes_17 : decode b_Model_makes 17 = .ok (.aload_n 0, 1) := by decide +kernel
theorem d_Model_makes_18 : decode b_Model_makes 18 = .ok (.iload_n 1, 1) := by decide +kernel
theorem d_Model_makes_19 : decode b_Model_makes 19 = .ok (.invokevirtual 167, 3) := by decide +kernel
theorem d_Model_makes_22 : decode b_Model_makes 22 = .ok (.ifCond .ne 5, 3) := by decide +kernel
theorem d_Model_makes_25 : decode b_Model_makes 25 = .ok (.iconst 0, 1) := by decide +kernel
theorem d_Model_makes_26 : decode b_Model_makes 26 = .ok (.ireturn, 1) := by decide +kernel
theorem d_Model_makes_27 : decode b_Model_makes 27 = .ok (.aload_n 0, 1) := by decide +kernel
theorem d_Model_makes_28 : decode b_Model_makes 28 = .ok (.dup, 1) := by decide +kernel
theorem d_Model_makes_29 : decode b_Model_makes 29 = .ok (.getfield 164, 3) := by decide +kernel
theorem d_Model_makes_32 : decode b_Model_makes 32 = .ok (.iload_n 1, 1) := by decide +kernel
theorem d_Model_makes_33 : decode b_Model_makes 33 = .ok (.iadd, 1) := by decide +kernel
theorem d_Model_makes_34 : decode b_Model_makes 34 = .ok (.putfield 164, 3) := by decide +kernel
theorem d_Model_makes_37 : decode b_Model_makes 37 = .ok (.iconst 1, 1) := by decide +kernel
theorem d_Model_makes_38 : decode b_Model_makes 38 = .ok (.ireturn, 1) := by decide +kernel
theorem d_Model_oneByte_0 : decode b_Model_oneByte 0 = .ok (.aload_n 0, 1) := by decide +kernel
theorem d_Model_oneByte_1 : decode b_Model_oneByte 1 = .ok (.iconst 2, 1) := by decide +kernel
theorem d_Model_oneByte_2 : decode b_Model_oneByte 2 = .ok (.invokevirtual 379, 3) := by decide +kernel
theorem d_Model_oneByte_5 : decode b_Model_oneByte 5 = .ok (.ifCond .ne 5, 3) := by decide +kernel
theorem d_Model_oneByte_8 : decode b_Model_oneByte 8 = .ok (.iconst 3, 1) := by decide +kernel
theorem d_Model_oneByte_9 : decode b_Model_oneByte 9 = .ok (.ireturn, 1) := by decide +kernel
theorem d_Model_oneByte_10 : decode b_Model_oneByte 10 = .ok (.aload_n 0, 1) := by decide +kernel
theorem d_Model_oneByte_11 : decode b_Model_oneByte 11 = .ok (.iconst 1, 1) := by decide +kernel
theorem d_Model_oneByte_12 : decode b_Model_oneByte 12 = .ok (.invokevirtual 311, 3) := by decide +kernel
theorem d_Model_oneByte_15 : decode b_Model_oneByte 15 = .ok (.istore_n 2, 1) := by decide +kernel
theorem d_Model_oneByte_16 : decode b_Model_oneByte 16 = .ok (.aload_n 0, 1) := by decide +kernel
theorem d_Model_oneByte_17 : decode b_Model_oneByte 17 = .ok (.iload_n 2, 1) := by decide +kernel
theorem d_Model_oneByte_18 : decode b_Model_oneByte 18 = .ok (.iconst 0, 1) := by decide +kernel
theorem d_Model_oneByte_19 : decode b_Model_oneByte 19 = .ok (.iload_n 1, 1) := by decide +kernel
theorem d_Model_oneByte_20 : decode b_Model_oneByte 20 = .ok (.invokevirtual 314, 3) := by decide +kernel
theorem d_Model_oneByte_23 : decode b_Model_oneByte 23 = .ok (.aload_n 0, 1) := by decide +kernel
theorem d_Model_oneByte_24 : decode b_Model_oneByte 24 = .ok (.iconst 1, 1) := by decide +kernel
theorem d_Model_oneByte_25 : decode b_Model_oneByte 25 = .ok (.iconst 2, 1) := by decide +kernel
theorem d_Model_oneByte_26 : decode b_Model_oneByte 26 = .ok (.iload_n 2, 1) := by decide +kernel
theorem d_Model_oneByte_27 : decode b_Model_oneByte 27 = .ok (.invokevirtual 207, 3) := by decide +kernel
theorem d_Model_oneByte_30 : decode b_Model_oneByte 30 = .ok (.ireturn, 1) := by decide +kernel
theorem d_Model_decimal_0 : decode b_Model_decimal 0 = .ok (.iconst 1, 1) := by decide +kernel
theorem d_Model_decimal_1 : decode b_Model_decimal 1 = .ok (.istore_n 2, 1) := by decide +kernel
theorem d_Model_decimal_2 : decode b_Model_decimal 2 = .ok (.lconst 1, 1) := by decide +kernel
theorem d_Model_decimal_3 : decode b_Model_decimal 3 = .ok (.lstore_n 3, 1) := by decide +kernel
theorem d_Model_decimal_4 : decode b_Model_decimal 4 = .ok (.iload_n 1, 1) := by decide +kernel
theorem d_Model_decimal_5 : decode b_Model_decimal 5 = .ok (.ifCond .ge 9, 3) := by decide +kernel
theorem d_Model_decimal_8 : decode b_Model_decimal 8 = .ok (.iload_n 1, 1) := by decide +kernel
theorem d_Model_decimal_9 : decode b_Model_decimal 9 = .ok (.i2l, 1) := by decide +kernel
theorem d_Model_decimal_10 : decode b_Model_decimal 10 = .ok (.lneg, 1) := by decide +kernel
theorem d_Model_decimal_11 : decode b_Model_decimal 11 = .ok (.goto 5, 3) := by decide +kernel
theorem d_Model_decimal_14 : decode b_Model_decimal 14 = .ok (.iload_n 1, 1) := by decide +kernel
theorem d_Model_decimal_15 : decode b_Model_decimal 15 = .ok (.i2l, 1) := by decide +kernel
theorem d_Model_decimal_16 : decode b_Model_decimal 16 = .ok (.lstore 5, 2) := by decide +kernel
theorem d_Model_decimal_18 : decode b_Model_decimal 18 = .ok (.lload 5, 2) := by decide +kernel
theorem d_Model_decimal_20 : decode b_Model_decimal 20 = .ok (.lload_n 3, 1) := by decide +kernel
theorem d_Model_decimal_21 : decode b_Model_decimal 21 = .ok (.ldiv, 1) := by decide +kernel
theorem d_Model_decimal_22 : decode b_Model_decimal 22 = .ok (.ldc2_w 382, 3) := by decide +kernel
theorem d_Model_decimal_25 : decode b_Model_decimal 25 = .ok (.lcmp, 1) := by decide +kernel
theorem d_Model_decimal_26 : decode b_Model_decimal 26 = .ok (.ifCond .lt 15, 3) := by decide +kernel
theorem d_Model_decimal_29 : decode b_Model_decimal 29 = .ok (.lload_n 3, 1) := by decide +kernel
theorem d_Model_decimal_30 : decode b_Model_decimal 30 = .ok (.ldc2_w 382, 3) := by decide +kernel
theorem d_Model_decimal_33 : decode b_Model_decimal 33 = .ok (.lmul, 1) := by decide +kernel
theorem d_Model_decimal_34 : decode b_Model_decimal 34 = .ok (.lstore_n 3, 1) := by decide +kernel
theorem d_Model_decimal_35 : decode b_Model_decimal 35 = .ok (.iinc 2 1, 3) := by decide +kernel
theorem d_Model_decimal_38 : decode b_Model_decimal 38 = .ok (.goto (-20), 3) := by decide +kernel
theorem d_Model_decimal_41 : decode b_Model_decimal 41 = .ok (.iload_n 1, 1) := by decide +kernel
theorem d_Model_decimal_42 : decode b_Model_decimal 42 = .ok (.ifCond .ge 9, 3) := by decide +kernel
theorem d_Model_decimal_45 : decode b_Model_decimal 45 = .ok (.iload_n 2, 1) := by decide +kernel
theorem d_Model_decimal_46 : decode b_Model_decimal 46 = .ok (.iconst 1, 1) := by decide +kernel
theorem d_Model_decimal_47 : decode b_Model_decimal 47 = .ok (.iadd, 1) := by decide +kernel
theorem d_Model_decimal_48 : decode b_Model_decimal 48 = .ok (.goto 4, 3) := by decide +kernel
theorem d_Model_decimal_51 : decode b_Model_decimal 51 = .ok (.iload_n 2, 1) := by decide +kernel
theorem d_Model_decimal_52 : decode b_Model_decimal 52 = .ok (.istore 7, 2) := by decide +kernel
theorem d_Model_decimal_54 : decode b_Model_decimal 54 = .ok (.aload_n 0, 1) := by decide +kernel
theorem d_Model_decimal_55 : decode b_Model_decimal 55 = .ok (.iconst 1, 1) := by decide +kernel
theorem d_Model_decimal_56 : decode b_Model_decimal 56 = .ok (.iload 7, 2) := by decide +kernel
theorem d_Model_decimal_58 : decode b_Model_decimal 58 = .ok (.iconst 3, 1) := by decide +kernel
theorem d_Model_decimal_59 : decode b_Model_decimal 59 = .ok (.iadd, 1) := by decide +kernel
theorem d_Model_decimal_60 : decode b_Model_decimal 60 = .ok (.iconst 4, 1) := by decide +kernel
theorem d_Model_decimal_61 : decode b_Model_decimal 61 = .ok (.idiv, 1) := by decide +kernel
theorem d_Model_decimal_62 : decode b_Model_decimal 62 = .ok (.iadd, 1) := by decide +kernel
theorem d_Model_decimal_63 : decode b_Model_decimal 63 = .ok (.invokevirtual 379, 3) := by decide +kernel
theorem d_Model_decimal_66 : decode b_Model_decimal 66 = .ok (.ifCond .ne 5, 3) := by decide +kernel
theorem d_Model_decimal_69 : decode b_Model_decimal 69 = .ok (.iconst 3, 1) := by decide +kernel
theorem d_Model_decimal_70 : decode b_Model_decimal 70 = .ok (.ireturn, 1) := by decide +kernel
theorem d_Model_decimal_71 : decode b_Model_decimal 71 = .ok (.aload_n 0, 1) := by decide +kernel
theorem d_Model_decimal_72 : decode b_Model_decimal 72 = .ok (.iload 7, 2) := by decide +kernel
theorem d_Model_decimal_74 : decode b_Model_decimal 74 = .ok (.invokevirtual 311, 3) := by decide +kernel
theorem d_Model_decimal_77 : decode b_Model_decimal 77 = .ok (.istore 8, 2) := by decide +kernel
theorem d_Model_decimal_79 : decode b_Model_decimal 79 = .ok (.iload_n 1, 1) := by decide +kernel
theorem d_Model_decimal_80 : decode b_Model_decimal 80 = .ok (.ifCond .ge 12, 3) := by decide +kernel
theorem d_Model_decimal_83 : decode b_Model_decimal 83 = .ok (.aload_n 0, 1) := by decide +kernel
theorem d_Model_decimal_84 : decode b_Model_decimal 84 = .ok (.iload 8, 2) := by decide +kernel
theorem d_Model_decimal_86 : decode b_Model_decimal 86 = .ok (.iconst 0, 1) := by decide +kernel
theorem d_Model_decimal_87 : decode b_Model_decimal 87 = .ok (.bipush 126, 2) := by decide +kernel
theorem d_Model_decimal_89 : decode b_Model_decimal 89 = .ok (.invokevirtual 314, 3) := by decide +kernel
theorem d_Model_decimal_92 : decode b_Model_decimal 92 = .ok (.iload 7, 2) := by decide +kernel
theorem d_Model_decimal_94 : decode b_Model_decimal 94 = .ok (.iload_n 2, 1) := by decide +kernel
theorem d_Model_decimal_95 : decode b_Model_decimal 95 = .ok (.isub, 1) := by decide +kernel
theorem d_Model_decimal_96 : decode b_Model_decimal 96 = .ok (.istore 9, 2) := by decide +kernel
theorem d_Model_decimal_98 : decode b_Model_decimal 98 = .ok (.iload 9, 2) := by decide +kernel
theorem d_Model_decimal_100 : decode b_Model_decimal 100 = .ok (.iload 7, 2) := by decide +kernel
theorem d_Model_decimal_102 : decode b_Model_decimal 102 = .ok (.if_icmp .ge 36, 3) := by decide +kernel
theorem d_Model_decimal_105 : decode b_Model_decimal 105 = .ok (.aload_n 0, 1) := by decide +kernel
theorem d_Model_decimal_106 : decode b_Model_decimal 106 = .ok (.iload 8, 2) := by decide +kernel
theorem d_Model_decimal_108 : decode b_Model_decimal 108 = .ok (.iload 9, 2) := by decide +kernel
theorem d_Model_decimal_110 : decode b_Model_decimal 110 = .ok (.ldc2_w 384, 3) := by decide +kernel
theorem d_Model_decimal_113 : decode b_Model_decimal 113 = .ok (.lload 5, 2) := by decide +kernel
theorem d_Model_decimal_115 : decode b_Model_decimal 115 = .ok (.lload_n 3, 1) := by decide +kernel
theorem d_Model_decimal_116 : decode b_Model_decimal 116 = .ok (.ldiv, 1) := by decide +kernel
theorem d_Model_decimal_117 : decode b_Model_decimal 117 = .ok (.ldc2_w 382, 3) := by decide +kernel
theorem d_Model_decimal_120 : decode b_Model_decimal 120 = .ok (.lrem, 1) := by decide +kernel
theorem d_Model_decimal_121 : decode b_Model_decimal 121 = .ok (.ladd, 1) := by decide +kernel
theorem d_Model_decimal_122 : decode b_Model_decimal 122 = .ok (.l2i, 1) := by decide +kernel
theorem d_Model_decimal_123 : decode b_Model_decimal 123 = .ok (.invokevirtual 314, 3) := by decide +kernel
theorem d_Model_decimal_126 : decode b_Model_decimal 126 = .ok (.lload_n 3, 1) := by decide +kernel
theorem d_Model_decimal_127 : decode b_Model_decimal 127 = .ok (.ldc2_w 382, 3) := by decide +kernel
theorem d_Model_decimal_130 : decode b_Model_decimal 130 = .ok (.ldiv, 1) := by decide +kernel
theorem d_Model_decimal_131 : decode b_Model_decimal 131 = .ok (.lstore_n 3, 1) := by decide +kernel
theorem d_Model_decimal_132 : decode b_Model_decimal 132 = .ok (.iinc 9 1, 3) := by decide +kernel
theorem d_Model_decimal_135 : decode b_Model_decimal 135 = .ok (.goto (-37), 3) := by decide +kernel
theorem d_Model_decimal_138 : decode b_Model_decimal 138 = .ok (.aload_n 0, 1) := by decide +kernel
theorem d_Model_decimal_139 : decode b_Model_decimal 139 = .ok (.iconst 1, 1) := by decide +kernel
theorem d_Model_decimal_140 : decode b_Model_decimal 140 = .ok (.iconst 2, 1) := by decide +kernel
theorem d_Model_decimal_141 : decode b_Model_decimal 141 = .ok (.iload 8, 2) := by decide +kernel
theorem d_Model_decimal_143 : decode b_Model_decimal 143 = .ok (.invokevirtual 207, 3) := by decide +kernel
theorem d_Model_decimal_146 : decode b_Model_decimal 146 = .ok (.ireturn, 1) := by decide +kernel
theorem k861 : Cond.code y_Model_meets b_Model_meets 8 (some .boolean) ∈ lw_g := kg (List.mem_append_right _ (List.mem_of_getElem? (i := 1399) (by decide +kernel))) rfl
theorem k862 : Cond.methodLink R_Model 335 y_Model_meets ∈ lw_g := kg (List.mem_append_right _ (List.mem_of_getElem? (i := 1396) (by decide +kernel))) rfl
theorem k863 : Cond.instanceMethod y_Model_meets ∈ lw_g := kg (List.mem_append_right _ (List.mem_of_getElem? (i := 1398) (by decide +kernel))) rfl
theorem k864 : Cond.selects R_Model y_Model_meets y_Model_meets ∈ lw_g := kg (List.mem_append_left _ (List.mem_of_getElem? (i := 83) (by decide +kernel))) rfl
theorem k865 : Cond.code y_Model_raise b_Model_raise 9 (some .int) ∈ lw_g := kg (List.mem_append_right _ (List.mem_of_getElem? (i := 1375) (by decide +kernel))) rfl
theorem k866 : Cond.methodLink R_Model 286 y_Model_raise ∈ lw_g := kg (List.mem_append_right _ (List.mem_of_getElem? (i := 1372) (by decide +kernel))) rfl
theorem k867 : Cond.instanceMethod y_Model_raise ∈ lw_g := kg (List.mem_append_right _ (List.mem_of_getElem? (i := 1374) (by decide +kernel))) rfl
theorem k868 : Cond.selects R_Model y_Model_raise y_Model_raise ∈ lw_g := kg (List.mem_append_left _ (List.mem_of_getElem? (i := 78) (by decide +kernel))) rfl
theorem k869 : Cond.constantLong R_Model 375 4294967295 ∈ lw_g := kg (List.mem_append_right _ (List.mem_of_getElem? (i := 1432) (by decide +kernel))) rfl
theorem k870 : Cond.code y_Model_next b_Model_next 3 (some .int) ∈ lw_g := kg (List.mem_append_right _ (List.mem_of_getElem? (i := 1243) (by decide +kernel))) rfl
theorem k871 : Cond.methodLink R_Model 228 y_Model_next ∈ lw_g := kg (List.mem_append_right _ (List.mem_of_getElem? (i := 1240) (by decide +kernel))) rfl
theorem k872 : Cond.instanceMethod y_Model_next ∈ lw_g := kg (List.mem_append_right _ (List.mem_of_getElem? (i := 1242) (by decide +kernel))) rfl
theorem k873 : Cond.selects R_Model y_Model_next y_Model_next ∈ lw_g := kg (List.mem_append_left _ (List.mem_of_getElem? (i := 45) (by decide +kernel))) rfl
theorem k874 : Cond.code y_Model_raiseGlobal b_Model_raiseGlobal 3 (some .int) ∈ lw_g := kg (List.mem_append_right _ (List.mem_of_getElem? (i := 1427) (by decide +kernel))) rfl
theorem k875 : Cond.methodLink R_Model 360 y_Model_raiseGlobal ∈ lw_g := kg (List.mem_append_right _ (List.mem_of_getElem? (i := 1424) (by decide +kernel))) rfl
theorem k876 : Cond.instanceMethod y_Model_raiseGlobal ∈ lw_g := kg (List.mem_append_right _ (List.mem_of_getElem? (i := 1426) (by decide +kernel))) rfl
theorem k877 : Cond.selects R_Model y_Model_raiseGlobal y_Model_raiseGlobal ∈ lw_g := kg (List.mem_append_left _ (List.mem_of_getElem? (i := 90) (by decide +kernel))) rfl
theorem k878 : Cond.fieldLink R_Model 89 "CellEngineModel" "mostMade" "I" ∈ lw_g := kg (List.mem_append_right _ (List.mem_of_getElem? (i := 1063) (by decide +kernel))) rfl
theorem k879 : Cond.code y_Model_makes b_Model_makes 2 (some .boolean) ∈ lw_g := kg (List.mem_append_right _ (List.mem_of_getElem? (i := 1440) (by decide +kernel))) rfl
theorem k880 : Cond.methodLink R_Model 379 y_Model_makes ∈ lw_g := kg (List.mem_append_right _ (List.mem_of_getElem? (i := 1437) (by decide +kernel))) rfl
theorem k881 : Cond.instanceMethod y_Model_makes ∈ lw_g := kg (List.mem_append_right _ (List.mem_of_getElem? (i := 1439) (by decide +kernel))) rfl
theorem k882 : Cond.selects R_Model y_Model_makes y_Model_makes ∈ lw_g := kg (List.mem_append_left _ (List.mem_of_getElem? (i := 93) (by decide +kernel))) rfl
theorem k883 : Cond.constantLong R_Model 382 10 ∈ lw_g := kg (List.mem_append_right _ (List.mem_of_getElem? (i := 1445) (by decide +kernel))) rfl
theorem k884 : Cond.constantLong R_Model 384 48 ∈ lw_g := kg (List.mem_append_right _ (List.mem_of_getElem? (i := 1446) (by decide +kernel))) rfl
theorem k885 : Cond.constantLong R_Model 377 31 ∈ lw_g := kg (List.mem_append_right _ (List.mem_of_getElem? (i := 1450) (by decide +kernel))) rfl
set_option maxHeartbeats 4000000 in
set_option maxRecDepth 100000 in
theorem l_Model_isEqual_2 {p : Program} {l : Launch} {e : Env} {s : State} {m : MethodId} {args : Array Value} {below : List Frame} {meth : Method} {c : Code} {Q : State → Prop} {A : Nat → Prop} (dC : Nat → ClassId) (dI : Nat → Nat → Nat) (N : Nat) (cB : ClassId) (cI : ClassId) (o_Model : Nat) (r : Nat → Nat) (v1_1 : Int32) (w1_F : Nat → Nat → Int32) (J9 : Nat → Int32) {ζ : Type} {z : ζ} (hx : p.tables.exec = Jvm.exec) (hb : c.code = b_Model_isEqual) (hml : c.maxLocals = 5) (hown : s.vm.findClass R_Model = some m.cls) (hg : ∀ w ∈ lw_g, w.before args s = true) (hN : dz_N s) (hK : va_K (dC, dI) classes [(cB, .byte), (cI, .int)] s) (hA : ∀ q : Nat, s.heap.size ≤ q → A q) {k2_130 : (Nat → Nat → Int32) → (Nat → Int32) → Option (ζ)} (hk2_130 : ∀ (w2_F : (Nat → Nat → Int32)) (w2_I : (Nat → Int32))    (H : Heap) (locs : List Loc) (ls : Array Slot), k2_130 w2_F w2_I = some z → va_P (dC, dI) classes (wD cB cI o_Model r w2_I w2_F) H → va_D A (wD cB cI o_Model r w2_I w2_F) → va_S A s.heap H locs → lv_has ls 5 [(4, .int ((w1_F 46) ((J9 47) + 2).toNatClampNeg)), (3, .int ((w1_F 46) ((J9 47) + 1).toNatClampNeg)), (2, .int ((w1_F 46) (J9 47).toNatClampNeg)), (1, .int v1_1), (0, .ref o_Model)] → W p l e ({ frames := 3, cells := 0, slots := 0, locals := 73 } : Room) s m args below meth c H locs 0 0 Q (F0 m 130 ls [])) : ∀ (w2_F : (Nat → Nat → Int32)) (w2_I : (Nat → Int32))   (H : Heap) (locs : List Loc) (ls : Array Slot), lm_Model_isEqual_2 N w1_F J9 k2_130 w2_F w2_I = some z → va_P (dC, dI) classes (wD cB cI o_Model r w2_I w2_F) H → va_D A (wD cB cI o_Model r w2_I w2_F) → va_S A s.heap H locs → lv_has ls 5 [(4, .int ((w1_F 46) ((J9 47) + 2).toNatClampNeg)), (3, .int ((w1_F 46) ((J9 47) + 1).toNatClampNeg)), (2, .int ((w1_F 46) (J9 47).toNatClampNeg)), (1, .int v1_1), (0, .ref o_Model)] → W p l e ({ frames := 3, cells := 0, slots := 0, locals := 73 } : Room) s m args below meth c H locs 0 0 Q (F0 m 110 ls []) := by
  intro w2_F w2_I H locs ls h hP hD hS hl
  unfold lm_Model_isEqual_2 at h
  refine lv_iload hx hb d_Model_isEqual_110 (lv_at hl 0 rfl) ?_
  refine lv_aload_n hx hb d_Model_isEqual_112 rfl (lv_at hl 4 rfl) ?_
  refine lv_iload_n hx hb d_Model_isEqual_113 rfl (lv_at hl 2 rfl) ?_
  obtain ⟨z13_1, hc13, h⟩ := dz_ob h
  try dsimp only at h
  have hPc := hP
  have hKc := hK
  refine vp_callSi (va_Run.run (va_runV (As := [.int ((w1_F 46) (J9 47).toNatClampNeg)]) (rest := [.int ((w1_F 46) ((J9 47) + 2).toNatClampNeg)]) ⟨hx, hb, hml, hown, hg⟩ (c_Model_partsAt l dC dI N cB cI o_Model r w2_I w2_F ((w1_F 46) (J9 47).toNatClampNeg) z13_1 hc13) (cwV 1 hg (gd_V k744 k745 k746 k707 k743) rfl rfl rfl (by decide +kernel) ⟨Nat.le_of_ble_eq_true rfl, Nat.le_of_ble_eq_true rfl⟩) ⟨dz_blindR, va_recv hKc hPc (ci := 10) (q0 := 0) rfl rfl, fun U hU hW => ⟨rfl, dz_Nw hW hN, by rw [hU]; exact hPc, va_K.moved hW.alike hKc⟩⟩ rfl rfl hl.1 rfl (lv_room (Nat.le_of_ble_eq_true rfl)) d_Model_isEqual_114 ⟨Nat.le_of_ble_eq_true rfl, Nat.le_of_ble_eq_true rfl⟩)) (fun r13 hw => ?_)
  have hw : z13_1 = r13 := hw.symm
  subst hw
  refine lv_icmp_ge (tgt := 130) hx hb d_Model_isEqual_117 (by decide) (fun c14 => ?_) (fun c14 => ?_)
  · rw [if_pos c14] at h
    exact hk2_130 w2_F w2_I _ _ _ h hP hD hS (lv_sub hl [0, 1, 2, 3, 4] rfl)
  · rw [if_neg c14] at h
    refine lv_aload_n hx hb d_Model_isEqual_120 rfl (lv_at hl 4 rfl) ?_
    refine lv_iload_n hx hb d_Model_isEqual_121 rfl (lv_at hl 2 rfl) ?_
    refine lv_iload_n hx hb d_Model_isEqual_122 rfl (lv_at hl 1 rfl) ?_
    refine lv_iload hx hb d_Model_isEqual_123 (lv_at hl 0 rfl) ?_
    refine lv_iconst (v := 1) hx hb d_Model_isEqual_125 (by decide) ?_
    refine lv_iadd hx hb d_Model_isEqual_126 ?_
    obtain ⟨⟨z15_1, z15_2⟩, hc15, h⟩ := dz_ob h
    try dsimp only at h
    have hPc := hP
    have hKc := hK
    have hDc := hD
    have hFc := dz_freeall hD hS hA
    refine va_callv (va_runV (As := [.int ((w1_F 46) (J9 47).toNatClampNeg), .int ((w1_F 46) ((J9 47) + 1).toNatClampNeg), .int (((w1_F 46) ((J9 47) + 2).toNatClampNeg) + 1)]) (rest := []) ⟨hx, hb, hml, hown, hg⟩ (c_Model_compareLater l dC dI N cB cI o_Model r w2_I w2_F ((w1_F 46) (J9 47).toNatClampNeg) ((w1_F 46) ((J9 47) + 1).toNatClampNeg) (((w1_F 46) ((J9 47) + 2).toNatClampNeg) + 1) H.size (z15_1, z15_2) hc15) (cwV 3 hg (gd_V k854 k855 k856 k707 k853) rfl rfl rfl (by decide +kernel) ⟨Nat.le_of_ble_eq_true rfl, Nat.le_of_ble_eq_true rfl⟩) ⟨dz_blind, va_recv hKc hPc (ci := 10) (q0 := 0) rfl rfl, fun U hU hW => ⟨rfl, dz_Nw hW hN, by rw [hU], by rw [hU]; exact hPc, va_K.moved hW.alike hKc, hDc.weaken (fun _ _ _ _ => trivial)⟩⟩ rfl rfl hl.1 rfl (lv_room (Nat.le_of_ble_eq_true rfl)) d_Model_isEqual_127 ⟨Nat.le_of_ble_eq_true rfl, Nat.le_of_ble_eq_true rfl⟩) hS (fun q _ h => hFc q h) hFc (fun u15 t15 H1 locs ht hvm hw hB hz1 hk1 hS => ?_)
    obtain ⟨hP1, hK1, hD1⟩ := hB
    rw [ht] at hP1
    have hP := hP1
    have hD := hD1.weaken (fun _ q _ h => hFc q.1 h)
    generalize H1 = H at hP hS ⊢
    have hP : va_P (dC, dI) classes (wD cB cI o_Model r z15_2 z15_1) H := hP
    have hD : va_D A (wD cB cI o_Model r z15_2 z15_1) := hD
    exact hk2_130 z15_1 z15_2 _ _ _ h hP hD hS (lv_sub hl [0, 1, 2, 3, 4] rfl)
set_option maxHeartbeats 4000000 in
set_option maxRecDepth 100000 in
theorem l_Model_isEqual_1 {p : Program} {l : Launch} {e : Env} {s : State} {m : MethodId} {args : Array Value} {below : List Frame} {meth : Method} {c : Code} {Q : State → Prop} {A : Nat → Prop} (dC : Nat → ClassId) (dI : Nat → Nat → Nat) (N : Nat) (cB : ClassId) (cI : ClassId) (o_Model : Nat) (r : Nat → Nat) {ζ : Type} {z : ζ} (hx : p.tables.exec = Jvm.exec) (hb : c.code = b_Model_isEqual) (hml : c.maxLocals = 5) (hown : s.vm.findClass R_Model = some m.cls) (hg : ∀ w ∈ lw_g, w.before args s = true) (hN : dz_N s) (hK : va_K (dC, dI) classes [(cB, .byte), (cI, .int)] s) (hA : ∀ q : Nat, s.heap.size ≤ q → A q) {k1_174 : Int32 → (Nat → Nat → Int32) → (Nat → Int32) → Option (ζ)} (hk1_174 : ∀ (v1_1 : Int32) (w1_F : (Nat → Nat → Int32)) (w1_I : (Nat → Int32))    (H : Heap) (locs : List Loc) (ls : Array Slot), k1_174 v1_1 w1_F w1_I = some z → va_P (dC, dI) classes (wD cB cI o_Model r w1_I w1_F) H → va_D A (wD cB cI o_Model r w1_I w1_F) → va_S A s.heap H locs → lv_has ls 5 [(1, .int v1_1), (0, .ref o_Model)] → W p l e ({ frames := 3, cells := 0, slots := 0, locals := 73 } : Room) s m args below meth c H locs 0 0 Q (F0 m 174 ls [])) : ∀ (n1 : Nat) (v1_1 : Int32) (w1_F : (Nat → Nat → Int32)) (w1_I : (Nat → Int32))   (H : Heap) (locs : List Loc) (ls : Array Slot), lm_Model_isEqual_1 N k1_174 n1 v1_1 w1_F w1_I = some z → va_P (dC, dI) classes (wD cB cI o_Model r w1_I w1_F) H → va_D A (wD cB cI o_Model r w1_I w1_F) → va_S A s.heap H locs → lv_has ls 5 [(1, .int v1_1), (0, .ref o_Model)] → W p l e ({ frames := 3, cells := 0, slots := 0, locals := 73 } : Room) s m args below meth c H locs 0 0 Q (F0 m 54 ls []) := by
  intro n1
  induction n1 with
  | zero =>
    intro v1_1 w1_F w1_I H locs ls h hP hD hS hl
    rw [lm_Model_isEqual_1] at h
    cases h
  | succ n1 ih1 =>
    intro v1_1 w1_F w1_I H locs ls h hP hD hS hl
    rw [lm_Model_isEqual_1] at h
    refine lv_aload_n hx hb d_Model_isEqual_54 rfl (lv_at hl 1 rfl) ?_
    refine va_get (D := (dC, dI)) (ci := 10) (v := .int (w1_I 47)) (C := R_Model) (T := F_Model) (N := 54) hx hb hg i_Model hown hK hP 0 rfl rfl 47 (by decide) (hg _ k846) (fun _ h9 => h9) rfl d_Model_isEqual_55 ?_
    refine lv_if_le (tgt := 174) hx hb d_Model_isEqual_58 (by decide) (fun c7 => ?_) (fun c7 => ?_)
    · rw [if_pos c7] at h
      exact hk1_174 v1_1 w1_F w1_I _ _ _ h hP hD hS (lv_sub hl [0, 1] rfl)
    · rw [if_neg c7] at h
      refine lv_iload_n hx hb d_Model_isEqual_61 rfl (lv_at hl 0 rfl) ?_
      refine lv_if_eq (tgt := 174) hx hb d_Model_isEqual_62 (by decide) (fun c8 => ?_) (fun c8 => ?_)
      · rw [if_pos c8] at h
        exact hk1_174 v1_1 w1_F w1_I _ _ _ h hP hD hS (lv_sub hl [0, 1] rfl)
      · rw [if_neg c8] at h
        refine lv_aload_n hx hb d_Model_isEqual_65 rfl (lv_at hl 1 rfl) ?_
        refine lv_dup hx hb d_Model_isEqual_66 rfl ?_
        refine va_get (D := (dC, dI)) (ci := 10) (v := .int (w1_I 47)) (C := R_Model) (T := F_Model) (N := 54) hx hb hg i_Model hown hK hP 0 rfl rfl 47 (by decide) (hg _ k846) (fun _ h9 => h9) rfl d_Model_isEqual_67 ?_
        refine lv_iconst (v := 3) hx hb d_Model_isEqual_70 (by decide) ?_
        refine lv_isub hx hb d_Model_isEqual_71 ?_
        refine va_put (D := (dC, dI)) (ci := 10) (v := .int ((w1_I 47) - 3)) (ty := .int) (C := R_Model) (T := F_Model) (N := 54) hx hb hg i_Model t_Model t_Model_ok n_Model hown hK hP hD hS 0 rfl rfl 47 (by decide) (hg _ k846) (fun _ h9 => h9) rfl (by decide +kernel) rfl rfl (Nat.le_of_ble_eq_true rfl) d_Model_isEqual_72 (fun H locs hP hD hS => ?_)
        obtain ⟨J9, eJ9, h⟩ := dz_lt h
        have hP : va_P (dC, dI) classes (wD cB cI o_Model r J9 w1_F) H := by rw [eJ9]; exact hP
        have hD : va_D A (wD cB cI o_Model r J9 w1_F) := by rw [eJ9]; exact hD
        refine lv_aload_n hx hb d_Model_isEqual_75 rfl (lv_at hl 1 rfl) ?_
        refine va_get (D := (dC, dI)) (ci := 10) (v := .ref (r 46)) (C := R_Model) (T := F_Model) (N := 54) hx hb hg i_Model hown hK hP 0 rfl rfl 46 (by decide) (hg _ k845) (fun _ h9 => h9) rfl d_Model_isEqual_76 ?_
        refine lv_aload_n hx hb d_Model_isEqual_79 rfl (lv_at hl 1 rfl) ?_
        refine va_get (D := (dC, dI)) (ci := 10) (v := .int (J9 47)) (C := R_Model) (T := F_Model) (N := 54) hx hb hg i_Model hown hK hP 0 rfl rfl 47 (by decide) (hg _ k846) (fun _ h9 => h9) rfl d_Model_isEqual_80 ?_
        obtain ⟨i10, h⟩ := dz_oi h
        refine va_iald (D := (dC, dI)) (f := w1_F 46) hx hb hK hP 24 1 rfl rfl i10 d_Model_isEqual_83 ?_
        refine lv_istore_n (lv' := [(2, .int ((w1_F 46) (J9 47).toNatClampNeg)), (1, .int v1_1), (0, .ref o_Model)]) hx hb d_Model_isEqual_84 rfl hl (by decide) rfl (fun ls hl => ?_)
        refine lv_aload_n hx hb d_Model_isEqual_85 rfl (lv_at hl 2 rfl) ?_
        refine va_get (D := (dC, dI)) (ci := 10) (v := .ref (r 46)) (C := R_Model) (T := F_Model) (N := 54) hx hb hg i_Model hown hK hP 0 rfl rfl 46 (by decide) (hg _ k845) (fun _ h9 => h9) rfl d_Model_isEqual_86 ?_
        refine lv_aload_n hx hb d_Model_isEqual_89 rfl (lv_at hl 2 rfl) ?_
        refine va_get (D := (dC, dI)) (ci := 10) (v := .int (J9 47)) (C := R_Model) (T := F_Model) (N := 54) hx hb hg i_Model hown hK hP 0 rfl rfl 47 (by decide) (hg _ k846) (fun _ h9 => h9) rfl d_Model_isEqual_90 ?_
        refine lv_iconst (v := 1) hx hb d_Model_isEqual_93 (by decide) ?_
        refine lv_iadd hx hb d_Model_isEqual_94 ?_
        obtain ⟨i11, h⟩ := dz_oi h
        refine va_iald (D := (dC, dI)) (f := w1_F 46) hx hb hK hP 24 1 rfl rfl i11 d_Model_isEqual_95 ?_
        refine lv_istore_n (lv' := [(3, .int ((w1_F 46) ((J9 47) + 1).toNatClampNeg)), (2, .int ((w1_F 46) (J9 47).toNatClampNeg)), (1, .int v1_1), (0, .ref o_Model)]) hx hb d_Model_isEqual_96 rfl hl (by decide) rfl (fun ls hl => ?_)
        refine lv_aload_n hx hb d_Model_isEqual_97 rfl (lv_at hl 3 rfl) ?_
        refine va_get (D := (dC, dI)) (ci := 10) (v := .ref (r 46)) (C := R_Model) (T := F_Model) (N := 54) hx hb hg i_Model hown hK hP 0 rfl rfl 46 (by decide) (hg _ k845) (fun _ h9 => h9) rfl d_Model_isEqual_98 ?_
        refine lv_aload_n hx hb d_Model_isEqual_101 rfl (lv_at hl 3 rfl) ?_
        refine va_get (D := (dC, dI)) (ci := 10) (v := .int (J9 47)) (C := R_Model) (T := F_Model) (N := 54) hx hb hg i_Model hown hK hP 0 rfl rfl 47 (by decide) (hg _ k846) (fun _ h9 => h9) rfl d_Model_isEqual_102 ?_
        refine lv_iconst (v := 2) hx hb d_Model_isEqual_105 (by decide) ?_
        refine lv_iadd hx hb d_Model_isEqual_106 ?_
        obtain ⟨i12, h⟩ := dz_oi h
        refine va_iald (D := (dC, dI)) (f := w1_F 46) hx hb hK hP 24 1 rfl rfl i12 d_Model_isEqual_107 ?_
        refine lv_istore (lv' := [(4, .int ((w1_F 46) ((J9 47) + 2).toNatClampNeg)), (3, .int ((w1_F 46) ((J9 47) + 1).toNatClampNeg)), (2, .int ((w1_F 46) (J9 47).toNatClampNeg)), (1, .int v1_1), (0, .ref o_Model)]) hx hb d_Model_isEqual_108 hl (by decide) rfl (fun ls hl => ?_)
        refine l_Model_isEqual_2 dC dI N cB cI o_Model r v1_1 w1_F J9 hx hb hml hown hg hN hK hA (fun w2_F w2_I H locs ls h hP hD hS hl => ?_) w1_F J9 _ _ _ h hP hD hS (lv_sub hl [0, 1, 2, 3, 4] rfl)
        refine lv_aload_n hx hb d_Model_isEqual_130 rfl (lv_at hl 4 rfl) ?_
        refine lv_aload_n hx hb d_Model_isEqual_131 rfl (lv_at hl 4 rfl) ?_
        refine va_get (D := (dC, dI)) (ci := 10) (v := .ref (r 0)) (C := R_Model) (T := F_Model) (N := 54) hx hb hg i_Model hown hK hP 0 rfl rfl 0 (by decide) (hg _ k737) (fun _ h9 => h9) rfl d_Model_isEqual_132 ?_
        refine lv_iload_n hx hb d_Model_isEqual_135 rfl (lv_at hl 2 rfl) ?_
        refine lv_iload hx hb d_Model_isEqual_136 (lv_at hl 0 rfl) ?_
        refine lv_iadd hx hb d_Model_isEqual_138 ?_
        obtain ⟨x16, ex16, h⟩ := dz_lt h
        refine dz_topi ex16 ?_
        obtain ⟨i17, h⟩ := dz_oi h
        refine va_iald (D := (dC, dI)) (f := w2_F 0) hx hb hK hP 1 1 rfl rfl i17 d_Model_isEqual_139 ?_
        refine lv_aload_n hx hb d_Model_isEqual_140 rfl (lv_at hl 4 rfl) ?_
        refine va_get (D := (dC, dI)) (ci := 10) (v := .ref (r 1)) (C := R_Model) (T := F_Model) (N := 54) hx hb hg i_Model hown hK hP 0 rfl rfl 1 (by decide) (hg _ k742) (fun _ h9 => h9) rfl d_Model_isEqual_141 ?_
        refine lv_iload_n hx hb d_Model_isEqual_144 rfl (lv_at hl 2 rfl) ?_
        refine lv_iload hx hb d_Model_isEqual_145 (lv_at hl 0 rfl) ?_
        refine lv_iadd hx hb d_Model_isEqual_147 ?_
        obtain ⟨x18, ex18, h⟩ := dz_lt h
        refine dz_topi ex18 ?_
        obtain ⟨i19, h⟩ := dz_oi h
        refine va_iald (D := (dC, dI)) (f := w2_F 1) hx hb hK hP 2 1 rfl rfl i19 d_Model_isEqual_148 ?_
        refine lv_aload_n hx hb d_Model_isEqual_149 rfl (lv_at hl 4 rfl) ?_
        refine va_get (D := (dC, dI)) (ci := 10) (v := .ref (r 0)) (C := R_Model) (T := F_Model) (N := 54) hx hb hg i_Model hown hK hP 0 rfl rfl 0 (by decide) (hg _ k737) (fun _ h9 => h9) rfl d_Model_isEqual_150 ?_
        refine lv_iload_n hx hb d_Model_isEqual_153 rfl (lv_at hl 1 rfl) ?_
        refine lv_iload hx hb d_Model_isEqual_154 (lv_at hl 0 rfl) ?_
        refine lv_iadd hx hb d_Model_isEqual_156 ?_
        obtain ⟨x20, ex20, h⟩ := dz_lt h
        refine dz_topi ex20 ?_
        obtain ⟨i21, h⟩ := dz_oi h
        refine va_iald (D := (dC, dI)) (f := w2_F 0) hx hb hK hP 1 1 rfl rfl i21 d_Model_isEqual_157 ?_
        refine lv_aload_n hx hb d_Model_isEqual_158 rfl (lv_at hl 4 rfl) ?_
        refine va_get (D := (dC, dI)) (ci := 10) (v := .ref (r 1)) (C := R_Model) (T := F_Model) (N := 54) hx hb hg i_Model hown hK hP 0 rfl rfl 1 (by decide) (hg _ k742) (fun _ h9 => h9) rfl d_Model_isEqual_159 ?_
        refine lv_iload_n hx hb d_Model_isEqual_162 rfl (lv_at hl 1 rfl) ?_
        refine lv_iload hx hb d_Model_isEqual_163 (lv_at hl 0 rfl) ?_
        refine lv_iadd hx hb d_Model_isEqual_165 ?_
        obtain ⟨x22, ex22, h⟩ := dz_lt h
        refine dz_topi ex22 ?_
        obtain ⟨i23, h⟩ := dz_oi h
        refine va_iald (D := (dC, dI)) (f := w2_F 1) hx hb hK hP 2 1 rfl rfl i23 d_Model_isEqual_166 ?_
        obtain ⟨⟨z24_1, z24_2, z24_3⟩, hc24, h⟩ := dz_ob h
        try dsimp only at h
        have hPc := hP
        have hKc := hK
        have hDc := hD
        have hFc := dz_freeall hD hS hA
        refine va_calli (va_runV (As := [.int ((w2_F 0) x16.toNatClampNeg), .int ((w2_F 1) x18.toNatClampNeg), .int ((w2_F 0) x20.toNatClampNeg), .int ((w2_F 1) x22.toNatClampNeg)]) (rest := []) ⟨hx, hb, hml, hown, hg⟩ (c_Model_meets l dC dI N cB cI o_Model r w2_I w2_F ((w2_F 0) x16.toNatClampNeg) ((w2_F 1) x18.toNatClampNeg) ((w2_F 0) x20.toNatClampNeg) ((w2_F 1) x22.toNatClampNeg) H.size (z24_1, z24_2, z24_3) hc24) (cwV 4 hg (gd_V k862 k863 k864 k707 k861) rfl rfl rfl (by decide +kernel) ⟨Nat.le_of_ble_eq_true rfl, Nat.le_of_ble_eq_true rfl⟩) ⟨dz_blind, va_recv hKc hPc (ci := 10) (q0 := 0) rfl rfl, fun U hU hW => ⟨rfl, dz_Nw hW hN, by rw [hU], by rw [hU]; exact hPc, va_K.moved hW.alike hKc, hDc.weaken (fun _ _ _ _ => trivial)⟩⟩ rfl rfl hl.1 rfl (lv_room (Nat.le_of_ble_eq_true rfl)) d_Model_isEqual_167 ⟨Nat.le_of_ble_eq_true rfl, Nat.le_of_ble_eq_true rfl⟩) hS (fun q _ h => hFc q h) hFc (fun r24 u24 t24 H1 locs ht hvm hw hB hz1 hk1 hS => ?_)
        obtain ⟨hP1, hK1, hD1⟩ := hB
        rw [ht] at hP1
        have hP := hP1
        have hD := hD1.weaken (fun _ q _ h => hFc q.1 h)
        obtain ⟨hw, hbz24⟩ := hw
        have hw : z24_1 = r24 := hw.symm
        subst hw
        generalize H1 = H at hP hS ⊢
        have hP : va_P (dC, dI) classes (wD cB cI o_Model r z24_3 z24_2) H := hP
        have hD : va_D A (wD cB cI o_Model r z24_3 z24_2) := hD
        refine lv_istore_n (lv' := [(1, .int z24_1), (4, .int ((w1_F 46) ((J9 47) + 2).toNatClampNeg)), (3, .int ((w1_F 46) ((J9 47) + 1).toNatClampNeg)), (2, .int ((w1_F 46) (J9 47).toNatClampNeg)), (0, .ref o_Model)]) hx hb d_Model_isEqual_170 rfl hl (by decide) rfl (fun ls hl => ?_)
        refine lv_goto (tgt := 54) hx hb d_Model_isEqual_171 (by decide) ?_
        exact ih1 z24_1 z24_2 z24_3 _ _ _ h hP hD hS (lv_sub hl [0, 4] rfl)
set_option maxHeartbeats 4000000 in
set_option maxRecDepth 100000 in
theorem l_Model_isEqual_3 {p : Program} {l : Launch} {e : Env} {s : State} {m : MethodId} {args : Array Value} {below : List Frame} {meth : Method} {c : Code} {Q : State → Prop} {A : Nat → Prop} (dC : Nat → ClassId) (dI : Nat → Nat → Nat) (N : Nat) (cB : ClassId) (cI : ClassId) (o_Model : Nat) (r : Nat → Nat) (v1_1 : Int32) {ζ : Type} {z : ζ} (hx : p.tables.exec = Jvm.exec) (hb : c.code = b_Model_isEqual) (hml : c.maxLocals = 5) (hown : s.vm.findClass R_Model = some m.cls) (hg : ∀ w ∈ lw_g, w.before args s = true) (hN : dz_N s) (hK : va_K (dC, dI) classes [(cB, .byte), (cI, .int)] s) (hA : ∀ q : Nat, s.heap.size ≤ q → A q) {k3_209 : (Nat → Nat → Int32) → (Nat → Int32) → Option (ζ)} (hk3_209 : ∀ (w3_F : (Nat → Nat → Int32)) (w3_I : (Nat → Int32))    (H : Heap) (locs : List Loc) (ls : Array Slot), k3_209 w3_F w3_I = some z → va_P (dC, dI) classes (wD cB cI o_Model r w3_I w3_F) H → va_D A (wD cB cI o_Model r w3_I w3_F) → va_S A s.heap H locs → lv_has ls 5 [(1, .int v1_1), (0, .ref o_Model)] → W p l e ({ frames := 3, cells := 0, slots := 0, locals := 73 } : Room) s m args below meth c H locs 0 0 Q (F0 m 209 ls [])) : ∀ (n3 : Nat) (w3_F : (Nat → Nat → Int32)) (w3_I : (Nat → Int32))   (H : Heap) (locs : List Loc) (ls : Array Slot), lm_Model_isEqual_3 N k3_209 n3 w3_F w3_I = some z → va_P (dC, dI) classes (wD cB cI o_Model r w3_I w3_F) H → va_D A (wD cB cI o_Model r w3_I w3_F) → va_S A s.heap H locs → lv_has ls 5 [(1, .int v1_1), (0, .ref o_Model)] → W p l e ({ frames := 3, cells := 0, slots := 0, locals := 73 } : Room) s m args below meth c H locs 0 0 Q (F0 m 174 ls []) := by
  intro n3
  induction n3 with
  | zero =>
    intro w3_F w3_I H locs ls h hP hD hS hl
    rw [lm_Model_isEqual_3] at h
    cases h
  | succ n3 ih3 =>
    intro w3_F w3_I H locs ls h hP hD hS hl
    rw [lm_Model_isEqual_3] at h
    refine lv_aload_n hx hb d_Model_isEqual_174 rfl (lv_at hl 1 rfl) ?_
    refine va_get (D := (dC, dI)) (ci := 10) (v := .int (w3_I 49)) (C := R_Model) (T := F_Model) (N := 54) hx hb hg i_Model hown hK hP 0 rfl rfl 49 (by decide) (hg _ k848) (fun _ h9 => h9) rfl d_Model_isEqual_175 ?_
    refine lv_if_le (tgt := 209) hx hb d_Model_isEqual_178 (by decide) (fun c25 => ?_) (fun c25 => ?_)
    · rw [if_pos c25] at h
      exact hk3_209 w3_F w3_I _ _ _ h hP hD hS (lv_sub hl [0, 1] rfl)
    · rw [if_neg c25] at h
      refine lv_aload_n hx hb d_Model_isEqual_181 rfl (lv_at hl 1 rfl) ?_
      refine lv_dup hx hb d_Model_isEqual_182 rfl ?_
      refine va_get (D := (dC, dI)) (ci := 10) (v := .int (w3_I 49)) (C := R_Model) (T := F_Model) (N := 54) hx hb hg i_Model hown hK hP 0 rfl rfl 49 (by decide) (hg _ k848) (fun _ h9 => h9) rfl d_Model_isEqual_183 ?_
      refine lv_iconst (v := 1) hx hb d_Model_isEqual_186 (by decide) ?_
      refine lv_isub hx hb d_Model_isEqual_187 ?_
      refine va_put (D := (dC, dI)) (ci := 10) (v := .int ((w3_I 49) - 1)) (ty := .int) (C := R_Model) (T := F_Model) (N := 54) hx hb hg i_Model t_Model t_Model_ok n_Model hown hK hP hD hS 0 rfl rfl 49 (by decide) (hg _ k848) (fun _ h9 => h9) rfl (by decide +kernel) rfl rfl (Nat.le_of_ble_eq_true rfl) d_Model_isEqual_188 (fun H locs hP hD hS => ?_)
      obtain ⟨J26, eJ26, h⟩ := dz_lt h
      have hP : va_P (dC, dI) classes (wD cB cI o_Model r J26 w3_F) H := by rw [eJ26]; exact hP
      have hD : va_D A (wD cB cI o_Model r J26 w3_F) := by rw [eJ26]; exact hD
      refine lv_aload_n hx hb d_Model_isEqual_191 rfl (lv_at hl 1 rfl) ?_
      refine va_get (D := (dC, dI)) (ci := 10) (v := .ref (r 2)) (C := R_Model) (T := F_Model) (N := 54) hx hb hg i_Model hown hK hP 0 rfl rfl 2 (by decide) (hg _ k747) (fun _ h9 => h9) rfl d_Model_isEqual_192 ?_
      refine lv_aload_n hx hb d_Model_isEqual_195 rfl (lv_at hl 1 rfl) ?_
      refine va_get (D := (dC, dI)) (ci := 10) (v := .ref (r 48)) (C := R_Model) (T := F_Model) (N := 54) hx hb hg i_Model hown hK hP 0 rfl rfl 48 (by decide) (hg _ k847) (fun _ h9 => h9) rfl d_Model_isEqual_196 ?_
      refine lv_aload_n hx hb d_Model_isEqual_199 rfl (lv_at hl 1 rfl) ?_
      refine va_get (D := (dC, dI)) (ci := 10) (v := .int (J26 49)) (C := R_Model) (T := F_Model) (N := 54) hx hb hg i_Model hown hK hP 0 rfl rfl 49 (by decide) (hg _ k848) (fun _ h9 => h9) rfl d_Model_isEqual_200 ?_
      obtain ⟨i27, h⟩ := dz_oi h
      refine va_iald (D := (dC, dI)) (f := w3_F 48) hx hb hK hP 25 1 rfl rfl i27 d_Model_isEqual_203 ?_
      refine lv_iconst (v := (-1)) hx hb d_Model_isEqual_204 (by decide) ?_
      obtain ⟨i28, h⟩ := dz_oi h
      refine va_iast (D := (dC, dI)) (f := w3_F 2) hx hb hK hP hD hS 3 1 rfl rfl i28 d_Model_isEqual_205 (fun H locs hP hD hS => ?_)
      obtain ⟨G29, eG29, h⟩ := dz_lt h
      have hP : va_P (dC, dI) classes (wD cB cI o_Model r J26 G29) H := by rw [eG29]; exact hP
      have hD : va_D A (wD cB cI o_Model r J26 G29) := by rw [eG29]; exact hD
      refine lv_goto (tgt := 174) hx hb d_Model_isEqual_206 (by decide) ?_
      exact ih3 G29 J26 _ _ _ h hP hD hS (lv_sub hl [0, 1] rfl)
set_option maxHeartbeats 4000000 in
set_option maxRecDepth 100000 in
theorem c_Model_isEqual (l : Launch) (dC : Nat → ClassId) (dI : Nat → Nat → Nat) (N : Nat) (cB : ClassId) (cI : ClassId) (o_Model : Nat) (r : Nat → Nat) (I : Nat → Int32) (F : Nat → Nat → Int32) (sz : Nat) (z : Int32 × (Nat → Nat → Int32) × (Nat → Int32)) (h : m_Model_isEqual N I F = some z) : Met l y_Model_isEqual (.code y_Model_isEqual b_Model_isEqual 5 (some .boolean) :: lw_g) ({ frames := 3, cells := 0, slots := 0, locals := 73 }) (va_Pc [.ref o_Model] (fun U => dz_N U ∧ U.heap.size = sz ∧ va_P (dC, dI) classes (wD cB cI o_Model r I F) U.heap ∧ va_K (dC, dI) classes [(cB, .byte), (cI, .int)] U ∧ va_D (fun _ => True) (wD cB cI o_Model r I F))) (va_Qi (fun (r : Int32) (_ : Unit) => r = z.1 ∧ narrow .boolean (.int z.1) = .int z.1 ∧ fits .boolean (.int z.1) = true) (fun (u : Unit) t => va_P (dC, dI) classes (wD cB cI o_Model r z.2.2 z.2.1) t.heap ∧ va_K (dC, dI) classes [(cB, .byte), (cI, .int)] t ∧ va_D (va_A (wD cB cI o_Model r I F) sz) (wD cB cI o_Model r z.2.2 z.2.1)) (va_A (wD cB cI o_Model r I F) sz)) 0 0 (va_A (wD cB cI o_Model r I F) sz) := by
  refine Met.ofW (cc := b_Model_isEqual) (maxL := 5) (ret := (some .boolean)) (by decide +kernel) rfl ?_
  intro p e s m args below meth c s₁ B hml hv
  obtain ⟨rfl, hN, hsz, hP, hK, hD0⟩ := hv
  have hx := B.exec
  have hb := B.bytes
  have hr := B.returns
  have hg : ∀ w ∈ lw_g, w.before _ s = true := fun w hw => atoms_spec (ws := .code y_Model_isEqual b_Model_isEqual 5 (some .boolean) :: lw_g) B.pre w (List.mem_cons_of_mem _ hw)
  have hown : s.vm.findClass R_Model = some m.cls := findClass_of_methodNamed B.named
  have hlocks := B.notSynchronized
  clear B
  subst hsz
  have hD := hD0.self (sz := s.heap.size)
  generalize hAe : va_A (wD cB cI o_Model r I F) s.heap.size = A at hD ⊢
  have hA : ∀ q : Nat, s.heap.size ≤ q → A q := fun q h => by rw [← hAe]; exact Or.inr h
  have hS : va_S A s.heap s.heap [] := va_S.rf
  have hP : va_P (dC, dI) classes (wD cB cI o_Model r I F) s.heap := hP
  have hl := lv_entry ([.ref o_Model]) (n := 5) (Nat.le_of_ble_eq_true rfl)
  rw [lg_entry_eq]
  generalize (lg_sl ([.ref o_Model]) ++ List.replicate (5 - (lg_sl ([.ref o_Model])).length) Slot.unset).toArray = ls at hl ⊢
  have hl : lv_has ls 5 [(0, .ref o_Model)] := hl
  unfold m_Model_isEqual at h
  refine lv_aload_n hx hb d_Model_isEqual_0 rfl (lv_at hl 0 rfl) ?_
  refine lv_iconst (v := 0) hx hb d_Model_isEqual_1 (by decide) ?_
  refine va_put (D := (dC, dI)) (ci := 10) (v := .int 0) (ty := .int) (C := R_Model) (T := F_Model) (N := 54) hx hb hg i_Model t_Model t_Model_ok n_Model hown hK hP hD hS 0 rfl rfl 47 (by decide) (hg _ k846) (fun _ h9 => h9) rfl (by decide +kernel) rfl rfl (Nat.le_of_ble_eq_true rfl) d_Model_isEqual_2 (fun H locs hP hD hS => ?_)
  obtain ⟨J1, eJ1, h⟩ := dz_lt h
  have hP : va_P (dC, dI) classes (wD cB cI o_Model r J1 F) H := by rw [eJ1]; exact hP
  have hD : va_D A (wD cB cI o_Model r J1 F) := by rw [eJ1]; exact hD
  refine lv_aload_n hx hb d_Model_isEqual_5 rfl (lv_at hl 0 rfl) ?_
  refine lv_aload_n hx hb d_Model_isEqual_6 rfl (lv_at hl 0 rfl) ?_
  refine va_get (D := (dC, dI)) (ci := 10) (v := .ref (r 27)) (C := R_Model) (T := F_Model) (N := 54) hx hb hg i_Model hown hK hP 0 rfl rfl 27 (by decide) (hg _ k731) (fun _ h9 => h9) rfl d_Model_isEqual_7 ?_
  refine lv_aload_n hx hb d_Model_isEqual_10 rfl (lv_at hl 0 rfl) ?_
  refine va_get (D := (dC, dI)) (ci := 10) (v := .int (J1 29)) (C := R_Model) (T := F_Model) (N := 54) hx hb hg i_Model hown hK hP 0 rfl rfl 29 (by decide) (hg _ k719) (fun _ h9 => h9) rfl d_Model_isEqual_11 ?_
  refine lv_iconst (v := 2) hx hb d_Model_isEqual_14 (by decide) ?_
  refine lv_isub hx hb d_Model_isEqual_15 ?_
  obtain ⟨i2, h⟩ := dz_oi h
  refine va_iald (D := (dC, dI)) (f := F 27) hx hb hK hP 17 1 rfl rfl i2 d_Model_isEqual_16 ?_
  refine lv_aload_n hx hb d_Model_isEqual_17 rfl (lv_at hl 0 rfl) ?_
  refine va_get (D := (dC, dI)) (ci := 10) (v := .ref (r 28)) (C := R_Model) (T := F_Model) (N := 54) hx hb hg i_Model hown hK hP 0 rfl rfl 28 (by decide) (hg _ k732) (fun _ h9 => h9) rfl d_Model_isEqual_18 ?_
  refine lv_aload_n hx hb d_Model_isEqual_21 rfl (lv_at hl 0 rfl) ?_
  refine va_get (D := (dC, dI)) (ci := 10) (v := .int (J1 29)) (C := R_Model) (T := F_Model) (N := 54) hx hb hg i_Model hown hK hP 0 rfl rfl 29 (by decide) (hg _ k719) (fun _ h9 => h9) rfl d_Model_isEqual_22 ?_
  refine lv_iconst (v := 2) hx hb d_Model_isEqual_25 (by decide) ?_
  refine lv_isub hx hb d_Model_isEqual_26 ?_
  obtain ⟨i3, h⟩ := dz_oi h
  refine va_iald (D := (dC, dI)) (f := F 28) hx hb hK hP 18 1 rfl rfl i3 d_Model_isEqual_27 ?_
  refine lv_aload_n hx hb d_Model_isEqual_28 rfl (lv_at hl 0 rfl) ?_
  refine va_get (D := (dC, dI)) (ci := 10) (v := .ref (r 27)) (C := R_Model) (T := F_Model) (N := 54) hx hb hg i_Model hown hK hP 0 rfl rfl 27 (by decide) (hg _ k731) (fun _ h9 => h9) rfl d_Model_isEqual_29 ?_
  refine lv_aload_n hx hb d_Model_isEqual_32 rfl (lv_at hl 0 rfl) ?_
  refine va_get (D := (dC, dI)) (ci := 10) (v := .int (J1 29)) (C := R_Model) (T := F_Model) (N := 54) hx hb hg i_Model hown hK hP 0 rfl rfl 29 (by decide) (hg _ k719) (fun _ h9 => h9) rfl d_Model_isEqual_33 ?_
  refine lv_iconst (v := 1) hx hb d_Model_isEqual_36 (by decide) ?_
  refine lv_isub hx hb d_Model_isEqual_37 ?_
  obtain ⟨i4, h⟩ := dz_oi h
  refine va_iald (D := (dC, dI)) (f := F 27) hx hb hK hP 17 1 rfl rfl i4 d_Model_isEqual_38 ?_
  refine lv_aload_n hx hb d_Model_isEqual_39 rfl (lv_at hl 0 rfl) ?_
  refine va_get (D := (dC, dI)) (ci := 10) (v := .ref (r 28)) (C := R_Model) (T := F_Model) (N := 54) hx hb hg i_Model hown hK hP 0 rfl rfl 28 (by decide) (hg _ k732) (fun _ h9 => h9) rfl d_Model_isEqual_40 ?_
  refine lv_aload_n hx hb d_Model_isEqual_43 rfl (lv_at hl 0 rfl) ?_
  refine va_get (D := (dC, dI)) (ci := 10) (v := .int (J1 29)) (C := R_Model) (T := F_Model) (N := 54) hx hb hg i_Model hown hK hP 0 rfl rfl 29 (by decide) (hg _ k719) (fun _ h9 => h9) rfl d_Model_isEqual_44 ?_
  refine lv_iconst (v := 1) hx hb d_Model_isEqual_47 (by decide) ?_
  refine lv_isub hx hb d_Model_isEqual_48 ?_
  obtain ⟨i5, h⟩ := dz_oi h
  refine va_iald (D := (dC, dI)) (f := F 28) hx hb hK hP 18 1 rfl rfl i5 d_Model_isEqual_49 ?_
  obtain ⟨⟨z6_1, z6_2, z6_3⟩, hc6, h⟩ := dz_ob h
  try dsimp only at h
  have hPc := hP
  have hKc := hK
  have hDc := hD
  have hFc := dz_freeall hD hS hA
  refine va_calli (va_runV (As := [.int ((F 27) ((J1 29) - 2).toNatClampNeg), .int ((F 28) ((J1 29) - 2).toNatClampNeg), .int ((F 27) ((J1 29) - 1).toNatClampNeg), .int ((F 28) ((J1 29) - 1).toNatClampNeg)]) (rest := []) ⟨hx, hb, hml, hown, hg⟩ (c_Model_meets l dC dI N cB cI o_Model r J1 F ((F 27) ((J1 29) - 2).toNatClampNeg) ((F 28) ((J1 29) - 2).toNatClampNeg) ((F 27) ((J1 29) - 1).toNatClampNeg) ((F 28) ((J1 29) - 1).toNatClampNeg) H.size (z6_1, z6_2, z6_3) hc6) (cwV 4 hg (gd_V k862 k863 k864 k707 k861) rfl rfl rfl (by decide +kernel) ⟨Nat.le_of_ble_eq_true rfl, Nat.le_of_ble_eq_true rfl⟩) ⟨dz_blind, va_recv hKc hPc (ci := 10) (q0 := 0) rfl rfl, fun U hU hW => ⟨rfl, dz_Nw hW hN, by rw [hU], by rw [hU]; exact hPc, va_K.moved hW.alike hKc, hDc.weaken (fun _ _ _ _ => trivial)⟩⟩ rfl rfl hl.1 rfl (lv_room (Nat.le_of_ble_eq_true rfl)) d_Model_isEqual_50 ⟨Nat.le_of_ble_eq_true rfl, Nat.le_of_ble_eq_true rfl⟩) hS (fun q _ h => hFc q h) hFc (fun r6 u6 t6 H1 locs ht hvm hw hB hz1 hk1 hS => ?_)
  obtain ⟨hP1, hK1, hD1⟩ := hB
  rw [ht] at hP1
  have hP := hP1
  have hD := hD1.weaken (fun _ q _ h => hFc q.1 h)
  obtain ⟨hw, hbz6⟩ := hw
  have hw : z6_1 = r6 := hw.symm
  subst hw
  generalize H1 = H at hP hS ⊢
  have hP : va_P (dC, dI) classes (wD cB cI o_Model r z6_3 z6_2) H := hP
  have hD : va_D A (wD cB cI o_Model r z6_3 z6_2) := hD
  refine lv_istore_n (lv' := [(1, .int z6_1), (0, .ref o_Model)]) hx hb d_Model_isEqual_53 rfl hl (by decide) rfl (fun ls hl => ?_)
  refine l_Model_isEqual_1 dC dI N cB cI o_Model r hx hb hml hown hg hN hK hA (fun v1_1 w1_F w1_I H locs ls h hP hD hS hl => ?_) N z6_1 z6_2 z6_3 _ _ _ h hP hD hS (lv_sub hl [0, 1] rfl)
  refine l_Model_isEqual_3 dC dI N cB cI o_Model r v1_1 hx hb hml hown hg hN hK hA (fun w3_F w3_I H locs ls h hP hD hS hl => ?_) N w1_F w1_I _ _ _ h hP hD hS (lv_sub hl [0, 1] rfl)
  refine lv_iload_n hx hb d_Model_isEqual_209 rfl (lv_at hl 0 rfl) ?_
  obtain ⟨i30, h⟩ := dz_oi h
  have hbz30 := dz_bool i30
  obtain rfl := Option.some.inj h
  have hP9 := hP
  have hD9 := hD
  have hK9 := hK
  exact W.zret (v := v1_1) (ty := .boolean) hx hb hr hbz30.1 (fun t ht hW => ⟨⟨v1_1, (), rfl, ⟨rfl, hbz30.1, hbz30.2⟩, by rw [ht]; exact hP9, va_K.moved hW.alike hK9, hD9⟩, hS.F ht⟩) hS.2.2 d_Model_isEqual_210

set_option maxHeartbeats 4000000 in
set_option maxRecDepth 100000 in
theorem c_Model_raiseGlobal (l : Launch) (dC : Nat → ClassId) (dI : Nat → Nat → Nat) (N : Nat) (cB : ClassId) (cI : ClassId) (o_Model : Nat) (r : Nat → Nat) (I : Nat → Int32) (F : Nat → Nat → Int32) (p0 : Int32) (p1 : Int32) (sz : Nat) (z : Int32 × (Nat → Nat → Int32) × (Nat → Int32)) (h : m_Model_raiseGlobal N I F p0 p1 = some z) : Met l y_Model_raiseGlobal (.code y_Model_raiseGlobal b_Model_raiseGlobal 3 (some .int) :: lw_g) ({ frames := 2, cells := 0, slots := 0, locals := 51 }) (va_Pc [.ref o_Model, .int p0, .int p1] (fun U => dz_N U ∧ U.heap.size = sz ∧ va_P (dC, dI) classes (wD cB cI o_Model r I F) U.heap ∧ va_K (dC, dI) classes [(cB, .byte), (cI, .int)] U ∧ va_D (fun _ => True) (wD cB cI o_Model r I F))) (va_Qi (fun (r : Int32) (_ : Unit) => r = z.1) (fun (u : Unit) t => va_P (dC, dI) classes (wD cB cI o_Model r z.2.2 z.2.1) t.heap ∧ va_K (dC, dI) classes [(cB, .byte), (cI, .int)] t ∧ va_D (va_A (wD cB cI o_Model r I F) sz) (wD cB cI o_Model r z.2.2 z.2.1)) (va_A (wD cB cI o_Model r I F) sz)) 0 0 (va_A (wD cB cI o_Model r I F) sz) := by
  refine Met.ofW (cc := b_Model_raiseGlobal) (maxL := 3) (ret := (some .int)) (by decide +kernel) rfl ?_
  intro p e s m args below meth c s₁ B hml hv
  obtain ⟨rfl, hN, hsz, hP, hK, hD0⟩ := hv
  have hx := B.exec
  have hb := B.bytes
  have hr := B.returns
  have hg : ∀ w ∈ lw_g, w.before _ s = true := fun w hw => atoms_spec (ws := .code y_Model_raiseGlobal b_Model_raiseGlobal 3 (some .int) :: lw_g) B.pre w (List.mem_cons_of_mem _ hw)
  have hown : s.vm.findClass R_Model = some m.cls := findClass_of_methodNamed B.named
  have hlocks := B.notSynchronized
  clear B
  subst hsz
  have hD := hD0.self (sz := s.heap.size)
  generalize hAe : va_A (wD cB cI o_Model r I F) s.heap.size = A at hD ⊢
  have hA : ∀ q : Nat, s.heap.size ≤ q → A q := fun q h => by rw [← hAe]; exact Or.inr h
  have hS : va_S A s.heap s.heap [] := va_S.rf
  have hP : va_P (dC, dI) classes (wD cB cI o_Model r I F) s.heap := hP
  have hl := lv_entry ([.ref o_Model, .int p0, .int p1]) (n := 3) (Nat.le_of_ble_eq_true rfl)
  rw [lg_entry_eq]
  generalize (lg_sl ([.ref o_Model, .int p0, .int p1]) ++ List.replicate (3 - (lg_sl ([.ref o_Model, .int p0, .int p1])).length) Slot.unset).toArray = ls at hl ⊢
  have hl : lv_has ls 3 [(0, .ref o_Model), (1, .int p0), (2, .int p1)] := hl
  unfold m_Model_raiseGlobal at h
  refine lv_aload_n hx hb d_Model_raiseGlobal_0 rfl (lv_at hl 0 rfl) ?_
  refine va_get (D := (dC, dI)) (ci := 10) (v := .ref (r 5)) (C := R_Model) (T := F_Model) (N := 54) hx hb hg i_Model hown hK hP 0 rfl rfl 5 (by decide) (hg _ k758) (fun _ h9 => h9) rfl d_Model_raiseGlobal_1 ?_
  refine lv_iload_n hx hb d_Model_raiseGlobal_4 rfl (lv_at hl 2 rfl) ?_
  obtain ⟨i1, h⟩ := dz_oi h
  refine va_iald (D := (dC, dI)) (f := F 5) hx hb hK hP 4 1 rfl rfl i1 d_Model_raiseGlobal_5 ?_
  refine lv_sipush (v := 255) hx hb d_Model_raiseGlobal_6 (by decide) ?_
  refine lv_iand hx hb d_Model_raiseGlobal_9 ?_
  refine lv_iconst (v := 1) hx hb d_Model_raiseGlobal_10 (by decide) ?_
  refine lv_icmp_ne (tgt := 35) hx hb d_Model_raiseGlobal_11 (by decide) (fun c2 => ?_) (fun c2 => ?_)
  · rw [if_neg c2] at h
    refine lv_iconst (v := 4) hx hb d_Model_raiseGlobal_35 (by decide) ?_
    obtain rfl := Option.some.inj h
    have hP9 := hP
    have hD9 := hD
    have hK9 := hK
    exact W.iret (v := 4) hx hb hr (fun t ht hW => ⟨⟨4, (), rfl, rfl, by rw [ht]; exact hP9, va_K.moved hW.alike hK9, hD9⟩, hS.F ht⟩) hS.2.2 d_Model_raiseGlobal_36
  · rw [if_pos c2] at h
    refine lv_aload_n hx hb d_Model_raiseGlobal_14 rfl (lv_at hl 0 rfl) ?_
    refine lv_iload_n hx hb d_Model_raiseGlobal_15 rfl (lv_at hl 1 rfl) ?_
    refine lv_aload_n hx hb d_Model_raiseGlobal_16 rfl (lv_at hl 0 rfl) ?_
    refine va_get (D := (dC, dI)) (ci := 10) (v := .ref (r 5)) (C := R_Model) (T := F_Model) (N := 54) hx hb hg i_Model hown hK hP 0 rfl rfl 5 (by decide) (hg _ k758) (fun _ h9 => h9) rfl d_Model_raiseGlobal_17 ?_
    refine lv_iload_n hx hb d_Model_raiseGlobal_20 rfl (lv_at hl 2 rfl) ?_
    obtain ⟨i3, h⟩ := dz_oi h
    refine va_iald (D := (dC, dI)) (f := F 5) hx hb hK hP 4 1 rfl rfl i3 d_Model_raiseGlobal_21 ?_
    refine lv_aload_n hx hb d_Model_raiseGlobal_22 rfl (lv_at hl 0 rfl) ?_
    refine va_get (D := (dC, dI)) (ci := 10) (v := .ref (r 6)) (C := R_Model) (T := F_Model) (N := 54) hx hb hg i_Model hown hK hP 0 rfl rfl 6 (by decide) (hg _ k759) (fun _ h9 => h9) rfl d_Model_raiseGlobal_23 ?_
    refine lv_iload_n hx hb d_Model_raiseGlobal_26 rfl (lv_at hl 2 rfl) ?_
    obtain ⟨i4, h⟩ := dz_oi h
    refine va_iald (D := (dC, dI)) (f := F 6) hx hb hK hP 5 1 rfl rfl i4 d_Model_raiseGlobal_27 ?_
    refine lv_iconst (v := 2) hx hb d_Model_raiseGlobal_28 (by decide) ?_
    obtain ⟨⟨z5_1, z5_2, z5_3⟩, hc5, h⟩ := dz_ob h
    try dsimp only at h
    have hPc := hP
    have hKc := hK
    have hDc := hD
    have hFc := dz_freeall hD hS hA
    refine va_calli (va_runV (As := [.int p0, .int ((F 5) p1.toNatClampNeg), .int ((F 6) p1.toNatClampNeg), .int 2]) (rest := []) ⟨hx, hb, hml, hown, hg⟩ (c_Model_raise l dC dI N cB cI o_Model r I F p0 ((F 5) p1.toNatClampNeg) ((F 6) p1.toNatClampNeg) (2 : Int32) s.heap.size (z5_1, z5_2, z5_3) hc5) (cwV 4 hg (gd_V k866 k867 k868 k707 k865) rfl rfl rfl (by decide +kernel) ⟨Nat.le_of_ble_eq_true rfl, Nat.le_of_ble_eq_true rfl⟩) ⟨dz_blind, va_recv hKc hPc (ci := 10) (q0 := 0) rfl rfl, fun U hU hW => ⟨rfl, dz_Nw hW hN, by rw [hU], by rw [hU]; exact hPc, va_K.moved hW.alike hKc, hDc.weaken (fun _ _ _ _ => trivial)⟩⟩ rfl rfl hl.1 rfl (lv_room (Nat.le_of_ble_eq_true rfl)) d_Model_raiseGlobal_29 ⟨Nat.le_of_ble_eq_true rfl, Nat.le_of_ble_eq_true rfl⟩) hS (fun q _ h => hFc q h) hFc (fun r5 u5 t5 H1 locs ht hvm hw hB hz1 hk1 hS => ?_)
    obtain ⟨hP1, hK1, hD1⟩ := hB
    rw [ht] at hP1
    have hP := hP1
    have hD := hD1.weaken (fun _ q _ h => hFc q.1 h)
    have hw : z5_1 = r5 := hw.symm
    subst hw
    generalize H1 = H at hP hS ⊢
    have hP : va_P (dC, dI) classes (wD cB cI o_Model r z5_3 z5_2) H := hP
    have hD : va_D A (wD cB cI o_Model r z5_3 z5_2) := hD
    refine lv_goto (tgt := 36) hx hb d_Model_raiseGlobal_32 (by decide) ?_
    obtain rfl := Option.some.inj h
    have hP9 := hP
    have hD9 := hD
    have hK9 := hK
    exact W.iret (v := z5_1) hx hb hr (fun t ht hW => ⟨⟨z5_1, (), rfl, rfl, by rw [ht]; exact hP9, va_K.moved hW.alike hK9, hD9⟩, hS.F ht⟩) hS.2.2 d_Model_raiseGlobal_36

set_option maxHeartbeats 4000000 in
set_option maxRecDepth 100000 in
theorem l_Model_divide_1 {p : Program} {l : Launch} {e : Env} {s : State} {m : MethodId} {args : Array Value} {below : List Frame} {meth : Method} {c : Code} {Q : State → Prop} {A : Nat → Prop} (dC : Nat → ClassId) (dI : Nat → Nat → Nat) (N : Nat) (cB : ClassId) (cI : ClassId) (o_Model : Nat) (r : Nat → Nat) (I : Nat → Int32) (F : Nat → Nat → Int32) (p0 : Int32) (p1 : Int32) (p2 : Int32) {ζ : Type} {z : ζ} (hx : p.tables.exec = Jvm.exec) (hb : c.code = b_Model_divide) (hml : c.maxLocals = 12) (hown : s.vm.findClass R_Model = some m.cls) (hg : ∀ w ∈ lw_g, w.before args s = true) (hN : dz_N s) (hK : va_K (dC, dI) classes [(cB, .byte), (cI, .int)] s) (hA : ∀ q : Nat, s.heap.size ≤ q → A q) {k1_28 : Int64 → Option (ζ)} (hk1_28 : ∀   (y1_0 : Int64)  (H : Heap) (locs : List Loc) (ls : Array Slot), k1_28 y1_0 = some z → va_P (dC, dI) classes (wD cB cI o_Model r I F) H → va_D A (wD cB cI o_Model r I F) → va_S A s.heap H locs → lv_has ls 12 [(0, .ref o_Model), (1, .int p0), (2, .int p1), (3, .int p2)] → W p l e ({ frames := 3, cells := 0, slots := 0, locals := 73 } : Room) s m args below meth c H locs 0 0 Q (F0 m 28 ls [.long y1_0])) : ∀    (H : Heap) (locs : List Loc) (ls : Array Slot), lm_Model_divide_1 N p0 p1 k1_28  = some z → va_P (dC, dI) classes (wD cB cI o_Model r I F) H → va_D A (wD cB cI o_Model r I F) → va_S A s.heap H locs → lv_has ls 12 [(0, .ref o_Model), (1, .int p0), (2, .int p1), (3, .int p2)] → W p l e ({ frames := 3, cells := 0, slots := 0, locals := 73 } : Room) s m args below meth c H locs 0 0 Q (F0 m 11 ls []) := by
  intro H locs ls h hP hD hS hl
  unfold lm_Model_divide_1 at h
  refine lv_iload_n hx hb d_Model_divide_11 rfl (lv_at hl 1 rfl) ?_
  refine lv_bipush (v := 6) hx hb d_Model_divide_12 (by decide) ?_
  refine lv_icmp_le (tgt := 26) hx hb d_Model_divide_14 (by decide) (fun c2 => ?_) (fun c2 => ?_)
  · rw [if_pos c2] at h
    refine lv_iload_n hx hb d_Model_divide_26 rfl (lv_at hl 2 rfl) ?_
    refine lv_i2l (v := p1.toInt64) hx hb d_Model_divide_27 rfl ?_
    exact hk1_28 p1.toInt64 _ _ _ h hP hD hS (lv_sub hl [0, 1, 2, 3] rfl)
  · rw [if_neg c2] at h
    refine lv_iload_n hx hb d_Model_divide_17 rfl (lv_at hl 2 rfl) ?_
    refine lv_i2l (v := p1.toInt64) hx hb d_Model_divide_18 rfl ?_
    refine lv_ldc2 (v := 4294967295) hx hb hown (hg _ k869) d_Model_divide_19 ?_
    refine lv_land hx hb d_Model_divide_22 ?_
    refine lv_goto (tgt := 28) hx hb d_Model_divide_23 (by decide) ?_
    exact hk1_28 (p1.toInt64 &&& 4294967295) _ _ _ h hP hD hS (lv_sub hl [0, 1, 2, 3] rfl)
set_option maxHeartbeats 4000000 in
set_option maxRecDepth 100000 in
theorem l_Model_divide_2 {p : Program} {l : Launch} {e : Env} {s : State} {m : MethodId} {args : Array Value} {below : List Frame} {meth : Method} {c : Code} {Q : State → Prop} {A : Nat → Prop} (dC : Nat → ClassId) (dI : Nat → Nat → Nat) (N : Nat) (cB : ClassId) (cI : ClassId) (o_Model : Nat) (r : Nat → Nat) (I : Nat → Int32) (F : Nat → Nat → Int32) (p0 : Int32) (p1 : Int32) (p2 : Int32) (y1_0 : Int64) {ζ : Type} {z : ζ} (hx : p.tables.exec = Jvm.exec) (hb : c.code = b_Model_divide) (hml : c.maxLocals = 12) (hown : s.vm.findClass R_Model = some m.cls) (hg : ∀ w ∈ lw_g, w.before args s = true) (hN : dz_N s) (hK : va_K (dC, dI) classes [(cB, .byte), (cI, .int)] s) (hA : ∀ q : Nat, s.heap.size ≤ q → A q) {k2_47 : Int64 → Option (ζ)} (hk2_47 : ∀   (y2_0 : Int64)  (H : Heap) (locs : List Loc) (ls : Array Slot), k2_47 y2_0 = some z → va_P (dC, dI) classes (wD cB cI o_Model r I F) H → va_D A (wD cB cI o_Model r I F) → va_S A s.heap H locs → lv_has ls 12 [(4, .long y1_0), (0, .ref o_Model), (1, .int p0), (2, .int p1), (3, .int p2)] → W p l e ({ frames := 3, cells := 0, slots := 0, locals := 73 } : Room) s m args below meth c H locs 0 0 Q (F0 m 47 ls [.long y2_0])) : ∀    (H : Heap) (locs : List Loc) (ls : Array Slot), lm_Model_divide_2 N p0 p2 k2_47  = some z → va_P (dC, dI) classes (wD cB cI o_Model r I F) H → va_D A (wD cB cI o_Model r I F) → va_S A s.heap H locs → lv_has ls 12 [(4, .long y1_0), (0, .ref o_Model), (1, .int p0), (2, .int p1), (3, .int p2)] → W p l e ({ frames := 3, cells := 0, slots := 0, locals := 73 } : Room) s m args below meth c H locs 0 0 Q (F0 m 30 ls []) := by
  intro H locs ls h hP hD hS hl
  unfold lm_Model_divide_2 at h
  refine lv_iload_n hx hb d_Model_divide_30 rfl (lv_at hl 2 rfl) ?_
  refine lv_bipush (v := 6) hx hb d_Model_divide_31 (by decide) ?_
  refine lv_icmp_le (tgt := 45) hx hb d_Model_divide_33 (by decide) (fun c3 => ?_) (fun c3 => ?_)
  · rw [if_pos c3] at h
    refine lv_iload_n hx hb d_Model_divide_45 rfl (lv_at hl 4 rfl) ?_
    refine lv_i2l (v := p2.toInt64) hx hb d_Model_divide_46 rfl ?_
    exact hk2_47 p2.toInt64 _ _ _ h hP hD hS (lv_sub hl [0, 1, 2, 3, 4] rfl)
  · rw [if_neg c3] at h
    refine lv_iload_n hx hb d_Model_divide_36 rfl (lv_at hl 4 rfl) ?_
    refine lv_i2l (v := p2.toInt64) hx hb d_Model_divide_37 rfl ?_
    refine lv_ldc2 (v := 4294967295) hx hb hown (hg _ k869) d_Model_divide_38 ?_
    refine lv_land hx hb d_Model_divide_41 ?_
    refine lv_goto (tgt := 47) hx hb d_Model_divide_42 (by decide) ?_
    exact hk2_47 (p2.toInt64 &&& 4294967295) _ _ _ h hP hD hS (lv_sub hl [0, 1, 2, 3, 4] rfl)
set_option maxHeartbeats 4000000 in
set_option maxRecDepth 100000 in
theorem l_Model_divide_4 {p : Program} {l : Launch} {e : Env} {s : State} {m : MethodId} {args : Array Value} {below : List Frame} {meth : Method} {c : Code} {Q : State → Prop} {A : Nat → Prop} (dC : Nat → ClassId) (dI : Nat → Nat → Nat) (N : Nat) (cB : ClassId) (cI : ClassId) (o_Model : Nat) (r : Nat → Nat) (I : Nat → Int32) (F : Nat → Nat → Int32) (p0 : Int32) (p1 : Int32) (p2 : Int32) (y1_0 : Int64) (y2_0 : Int64) {ζ : Type} {z : ζ} (hx : p.tables.exec = Jvm.exec) (hb : c.code = b_Model_divide) (hml : c.maxLocals = 12) (hown : s.vm.findClass R_Model = some m.cls) (hg : ∀ w ∈ lw_g, w.before args s = true) (hN : dz_N s) (hK : va_K (dC, dI) classes [(cB, .byte), (cI, .int)] s) (hA : ∀ q : Nat, s.heap.size ≤ q → A q) {k4_78 : Int32 → Option (ζ)} (hk4_78 : ∀   (y4_0 : Int32)  (H : Heap) (locs : List Loc) (ls : Array Slot), k4_78 y4_0 = some z → va_P (dC, dI) classes (wD cB cI o_Model r I F) H → va_D A (wD cB cI o_Model r I F) → va_S A s.heap H locs → lv_has ls 12 [(8, .long (y1_0 / y2_0)), (6, .long y2_0), (4, .long y1_0), (0, .ref o_Model), (1, .int p0), (2, .int p1), (3, .int p2)] → W p l e ({ frames := 3, cells := 0, slots := 0, locals := 73 } : Room) s m args below meth c H locs 0 0 Q (F0 m 78 ls [.int y4_0])) : ∀    (H : Heap) (locs : List Loc) (ls : Array Slot), lm_Model_divide_4 N y1_0 k4_78  = some z → va_P (dC, dI) classes (wD cB cI o_Model r I F) H → va_D A (wD cB cI o_Model r I F) → va_S A s.heap H locs → lv_has ls 12 [(8, .long (y1_0 / y2_0)), (6, .long y2_0), (4, .long y1_0), (0, .ref o_Model), (1, .int p0), (2, .int p1), (3, .int p2)] → W p l e ({ frames := 3, cells := 0, slots := 0, locals := 73 } : Room) s m args below meth c H locs 0 0 Q (F0 m 66 ls []) := by
  intro H locs ls h hP hD hS hl
  unfold lm_Model_divide_4 at h
  refine lv_lload hx hb d_Model_divide_66 (lv_at hl 2 rfl) ?_
  refine lv_lconst (v := 0) hx hb d_Model_divide_68 (by decide) ?_
  refine W.lcmp hx hb d_Model_divide_69 ?_
  refine lv_if_ge (tgt := 77) hx hb d_Model_divide_70 (by decide) (fun c7 => ?_) (fun c7 => ?_)
  · rw [if_pos c7] at h
    refine lv_iconst (v := 0) hx hb d_Model_divide_77 (by decide) ?_
    exact hk4_78 (0 : Int32) _ _ _ h hP hD hS (lv_sub hl [0, 1, 2, 3, 4, 5, 6] rfl)
  · rw [if_neg c7] at h
    refine lv_iconst (v := 1) hx hb d_Model_divide_73 (by decide) ?_
    refine lv_goto (tgt := 78) hx hb d_Model_divide_74 (by decide) ?_
    exact hk4_78 (1 : Int32) _ _ _ h hP hD hS (lv_sub hl [0, 1, 2, 3, 4, 5, 6] rfl)
set_option maxHeartbeats 4000000 in
set_option maxRecDepth 100000 in
theorem l_Model_divide_5 {p : Program} {l : Launch} {e : Env} {s : State} {m : MethodId} {args : Array Value} {below : List Frame} {meth : Method} {c : Code} {Q : State → Prop} {A : Nat → Prop} (dC : Nat → ClassId) (dI : Nat → Nat → Nat) (N : Nat) (cB : ClassId) (cI : ClassId) (o_Model : Nat) (r : Nat → Nat) (I : Nat → Int32) (F : Nat → Nat → Int32) (p0 : Int32) (p1 : Int32) (p2 : Int32) (y1_0 : Int64) (y2_0 : Int64) (y4_0 : Int32) {ζ : Type} {z : ζ} (hx : p.tables.exec = Jvm.exec) (hb : c.code = b_Model_divide) (hml : c.maxLocals = 12) (hown : s.vm.findClass R_Model = some m.cls) (hg : ∀ w ∈ lw_g, w.before args s = true) (hN : dz_N s) (hK : va_K (dC, dI) classes [(cB, .byte), (cI, .int)] s) (hA : ∀ q : Nat, s.heap.size ≤ q → A q) {k5_90 : Int32 → Option (ζ)} (hk5_90 : ∀   (y5_0 : Int32)  (H : Heap) (locs : List Loc) (ls : Array Slot), k5_90 y5_0 = some z → va_P (dC, dI) classes (wD cB cI o_Model r I F) H → va_D A (wD cB cI o_Model r I F) → va_S A s.heap H locs → lv_has ls 12 [(8, .long (y1_0 / y2_0)), (6, .long y2_0), (4, .long y1_0), (0, .ref o_Model), (1, .int p0), (2, .int p1), (3, .int p2)] → W p l e ({ frames := 3, cells := 0, slots := 0, locals := 73 } : Room) s m args below meth c H locs 0 0 Q (F0 m 90 ls [.int y5_0, .int y4_0])) : ∀    (H : Heap) (locs : List Loc) (ls : Array Slot), lm_Model_divide_5 N y2_0 k5_90  = some z → va_P (dC, dI) classes (wD cB cI o_Model r I F) H → va_D A (wD cB cI o_Model r I F) → va_S A s.heap H locs → lv_has ls 12 [(8, .long (y1_0 / y2_0)), (6, .long y2_0), (4, .long y1_0), (0, .ref o_Model), (1, .int p0), (2, .int p1), (3, .int p2)] → W p l e ({ frames := 3, cells := 0, slots := 0, locals := 73 } : Room) s m args below meth c H locs 0 0 Q (F0 m 78 ls [.int y4_0]) := by
  intro H locs ls h hP hD hS hl
  unfold lm_Model_divide_5 at h
  refine lv_lload hx hb d_Model_divide_78 (lv_at hl 1 rfl) ?_
  refine lv_lconst (v := 0) hx hb d_Model_divide_80 (by decide) ?_
  refine W.lcmp hx hb d_Model_divide_81 ?_
  refine lv_if_ge (tgt := 89) hx hb d_Model_divide_82 (by decide) (fun c8 => ?_) (fun c8 => ?_)
  · rw [if_pos c8] at h
    refine lv_iconst (v := 0) hx hb d_Model_divide_89 (by decide) ?_
    exact hk5_90 (0 : Int32) _ _ _ h hP hD hS (lv_sub hl [0, 1, 2, 3, 4, 5, 6] rfl)
  · rw [if_neg c8] at h
    refine lv_iconst (v := 1) hx hb d_Model_divide_85 (by decide) ?_
    refine lv_goto (tgt := 90) hx hb d_Model_divide_86 (by decide) ?_
    exact hk5_90 (1 : Int32) _ _ _ h hP hD hS (lv_sub hl [0, 1, 2, 3, 4, 5, 6] rfl)
set_option maxHeartbeats 4000000 in
set_option maxRecDepth 100000 in
theorem l_Model_divide_3 {p : Program} {l : Launch} {e : Env} {s : State} {m : MethodId} {args : Array Value} {below : List Frame} {meth : Method} {c : Code} {Q : State → Prop} {A : Nat → Prop} (dC : Nat → ClassId) (dI : Nat → Nat → Nat) (N : Nat) (cB : ClassId) (cI : ClassId) (o_Model : Nat) (r : Nat → Nat) (I : Nat → Int32) (F : Nat → Nat → Int32) (p0 : Int32) (p1 : Int32) (p2 : Int32) (y1_0 : Int64) (y2_0 : Int64) {ζ : Type} {z : ζ} (hx : p.tables.exec = Jvm.exec) (hb : c.code = b_Model_divide) (hml : c.maxLocals = 12) (hown : s.vm.findClass R_Model = some m.cls) (hg : ∀ w ∈ lw_g, w.before args s = true) (hN : dz_N s) (hK : va_K (dC, dI) classes [(cB, .byte), (cI, .int)] s) (hA : ∀ q : Nat, s.heap.size ≤ q → A q) {k3_102 : Int64 → Option (ζ)} (hk3_102 : ∀   (y3_0 : Int64)  (H : Heap) (locs : List Loc) (ls : Array Slot), k3_102 y3_0 = some z → va_P (dC, dI) classes (wD cB cI o_Model r I F) H → va_D A (wD cB cI o_Model r I F) → va_S A s.heap H locs → lv_has ls 12 [(8, .long (y1_0 / y2_0)), (6, .long y2_0), (4, .long y1_0), (0, .ref o_Model), (1, .int p0), (2, .int p1), (3, .int p2)] → W p l e ({ frames := 3, cells := 0, slots := 0, locals := 73 } : Room) s m args below meth c H locs 0 0 Q (F0 m 102 ls [.long y3_0])) : ∀    (H : Heap) (locs : List Loc) (ls : Array Slot), lm_Model_divide_3 N y1_0 y2_0 k3_102  = some z → va_P (dC, dI) classes (wD cB cI o_Model r I F) H → va_D A (wD cB cI o_Model r I F) → va_S A s.heap H locs → lv_has ls 12 [(8, .long (y1_0 / y2_0)), (6, .long y2_0), (4, .long y1_0), (0, .ref o_Model), (1, .int p0), (2, .int p1), (3, .int p2)] → W p l e ({ frames := 3, cells := 0, slots := 0, locals := 73 } : Room) s m args below meth c H locs 0 0 Q (F0 m 56 ls []) := by
  intro H locs ls h hP hD hS hl
  unfold lm_Model_divide_3 at h
  refine lv_lload hx hb d_Model_divide_56 (lv_at hl 2 rfl) ?_
  refine lv_lload hx hb d_Model_divide_58 (lv_at hl 1 rfl) ?_
  obtain ⟨i5, h⟩ := dz_oi h
  refine lv_lrem hx hb d_Model_divide_60 i5 ?_
  refine lv_lconst (v := 0) hx hb d_Model_divide_61 (by decide) ?_
  refine W.lcmp hx hb d_Model_divide_62 ?_
  refine lv_if_eq (tgt := 100) hx hb d_Model_divide_63 (by decide) (fun c6 => ?_) (fun c6 => ?_)
  · rw [if_pos c6] at h
    refine lv_lload hx hb d_Model_divide_100 (lv_at hl 0 rfl) ?_
    exact hk3_102 (y1_0 / y2_0) _ _ _ h hP hD hS (lv_sub hl [0, 1, 2, 3, 4, 5, 6] rfl)
  · rw [if_neg c6] at h
    refine l_Model_divide_4 dC dI N cB cI o_Model r I F p0 p1 p2 y1_0 y2_0 hx hb hml hown hg hN hK hA (fun y4_0 H locs ls h hP hD hS hl => ?_)  _ _ _ h hP hD hS (lv_sub hl [0, 1, 2, 3, 4, 5, 6] rfl)
    refine l_Model_divide_5 dC dI N cB cI o_Model r I F p0 p1 p2 y1_0 y2_0 y4_0 hx hb hml hown hg hN hK hA (fun y5_0 H locs ls h hP hD hS hl => ?_)  _ _ _ h hP hD hS (lv_sub hl [0, 1, 2, 3, 4, 5, 6] rfl)
    refine lv_icmp_eq (tgt := 100) hx hb d_Model_divide_90 (by decide) (fun c9 => ?_) (fun c9 => ?_)
    · rw [if_pos c9] at h
      refine lv_lload hx hb d_Model_divide_100 (lv_at hl 0 rfl) ?_
      exact hk3_102 (y1_0 / y2_0) _ _ _ h hP hD hS (lv_sub hl [0, 1, 2, 3, 4, 5, 6] rfl)
    · rw [if_neg c9] at h
      refine lv_lload hx hb d_Model_divide_93 (lv_at hl 0 rfl) ?_
      refine lv_lconst (v := 1) hx hb d_Model_divide_95 (by decide) ?_
      refine lv_lsub hx hb d_Model_divide_96 ?_
      refine lv_goto (tgt := 102) hx hb d_Model_divide_97 (by decide) ?_
      exact hk3_102 ((y1_0 / y2_0) - 1) _ _ _ h hP hD hS (lv_sub hl [0, 1, 2, 3, 4, 5, 6] rfl)
set_option maxHeartbeats 4000000 in
set_option maxRecDepth 100000 in
theorem l_Model_divide_6 {p : Program} {l : Launch} {e : Env} {s : State} {m : MethodId} {args : Array Value} {below : List Frame} {meth : Method} {c : Code} {Q : State → Prop} {A : Nat → Prop} (dC : Nat → ClassId) (dI : Nat → Nat → Nat) (N : Nat) (cB : ClassId) (cI : ClassId) (o_Model : Nat) (r : Nat → Nat) (I : Nat → Int32) (F : Nat → Nat → Int32) (p0 : Int32) (p1 : Int32) (p2 : Int32) (y1_0 : Int64) (y2_0 : Int64) (y3_0 : Int64) {ζ : Type} {z : ζ} (hx : p.tables.exec = Jvm.exec) (hb : c.code = b_Model_divide) (hml : c.maxLocals = 12) (hown : s.vm.findClass R_Model = some m.cls) (hg : ∀ w ∈ lw_g, w.before args s = true) (hN : dz_N s) (hK : va_K (dC, dI) classes [(cB, .byte), (cI, .int)] s) (hA : ∀ q : Nat, s.heap.size ≤ q → A q) {k6_128 : Int64 → Option (ζ)} (hk6_128 : ∀   (y6_0 : Int64)  (H : Heap) (locs : List Loc) (ls : Array Slot), k6_128 y6_0 = some z → va_P (dC, dI) classes (wD cB cI o_Model r I F) H → va_D A (wD cB cI o_Model r I F) → va_S A s.heap H locs → lv_has ls 12 [(8, .long y3_0), (6, .long y2_0), (4, .long y1_0), (0, .ref o_Model), (1, .int p0), (2, .int p1), (3, .int p2)] → W p l e ({ frames := 3, cells := 0, slots := 0, locals := 73 } : Room) s m args below meth c H locs 0 0 Q (F0 m 128 ls [.long y6_0])) : ∀    (H : Heap) (locs : List Loc) (ls : Array Slot), lm_Model_divide_6 N p0 y1_0 y2_0 y3_0 k6_128  = some z → va_P (dC, dI) classes (wD cB cI o_Model r I F) H → va_D A (wD cB cI o_Model r I F) → va_S A s.heap H locs → lv_has ls 12 [(8, .long y3_0), (6, .long y2_0), (4, .long y1_0), (0, .ref o_Model), (1, .int p0), (2, .int p1), (3, .int p2)] → W p l e ({ frames := 3, cells := 0, slots := 0, locals := 73 } : Room) s m args below meth c H locs 0 0 Q (F0 m 104 ls []) := by
  intro H locs ls h hP hD hS hl
  unfold lm_Model_divide_6 at h
  refine lv_iload_n hx hb d_Model_divide_104 rfl (lv_at hl 4 rfl) ?_
  refine lv_iconst (v := 5) hx hb d_Model_divide_105 (by decide) ?_
  refine lv_icmp_eq (tgt := 115) hx hb d_Model_divide_106 (by decide) (fun c10 => ?_) (fun c10 => ?_)
  · rw [if_pos c10] at h
    refine lv_lload hx hb d_Model_divide_115 (lv_at hl 0 rfl) ?_
    refine lv_goto (tgt := 128) hx hb d_Model_divide_117 (by decide) ?_
    exact hk6_128 y3_0 _ _ _ h hP hD hS (lv_sub hl [0, 1, 2, 3, 4, 5, 6] rfl)
  · rw [if_neg c10] at h
    refine lv_iload_n hx hb d_Model_divide_109 rfl (lv_at hl 4 rfl) ?_
    refine lv_bipush (v := 14) hx hb d_Model_divide_110 (by decide) ?_
    refine lv_icmp_ne (tgt := 120) hx hb d_Model_divide_112 (by decide) (fun c11 => ?_) (fun c11 => ?_)
    · rw [if_neg c11] at h
      refine lv_lload hx hb d_Model_divide_120 (lv_at hl 2 rfl) ?_
      refine lv_lload hx hb d_Model_divide_122 (lv_at hl 0 rfl) ?_
      refine lv_lload hx hb d_Model_divide_124 (lv_at hl 1 rfl) ?_
      refine lv_lmul hx hb d_Model_divide_126 ?_
      refine lv_lsub hx hb d_Model_divide_127 ?_
      exact hk6_128 (y1_0 - (y3_0 * y2_0)) _ _ _ h hP hD hS (lv_sub hl [0, 1, 2, 3, 4, 5, 6] rfl)
    · rw [if_pos c11] at h
      refine lv_lload hx hb d_Model_divide_115 (lv_at hl 0 rfl) ?_
      refine lv_goto (tgt := 128) hx hb d_Model_divide_117 (by decide) ?_
      exact hk6_128 y3_0 _ _ _ h hP hD hS (lv_sub hl [0, 1, 2, 3, 4, 5, 6] rfl)
set_option maxHeartbeats 4000000 in
set_option maxRecDepth 100000 in
theorem c_Model_divide (l : Launch) (dC : Nat → ClassId) (dI : Nat → Nat → Nat) (N : Nat) (cB : ClassId) (cI : ClassId) (o_Model : Nat) (r : Nat → Nat) (I : Nat → Int32) (F : Nat → Nat → Int32) (p0 : Int32) (p1 : Int32) (p2 : Int32) (sz : Nat) (z : Int32 × (Nat → Nat → Int32) × (Nat → Int32)) (h : m_Model_divide N I F p0 p1 p2 = some z) : Met l y_Model_divide (.code y_Model_divide b_Model_divide 12 (some .int) :: lw_g) ({ frames := 3, cells := 0, slots := 0, locals := 73 }) (va_Pc [.ref o_Model, .int p0, .int p1, .int p2] (fun U => dz_N U ∧ U.heap.size = sz ∧ va_P (dC, dI) classes (wD cB cI o_Model r I F) U.heap ∧ va_K (dC, dI) classes [(cB, .byte), (cI, .int)] U ∧ va_D (fun _ => True) (wD cB cI o_Model r I F))) (va_Qi (fun (r : Int32) (_ : Unit) => r = z.1) (fun (u : Unit) t => va_P (dC, dI) classes (wD cB cI o_Model r z.2.2 z.2.1) t.heap ∧ va_K (dC, dI) classes [(cB, .byte), (cI, .int)] t ∧ va_D (va_A (wD cB cI o_Model r I F) sz) (wD cB cI o_Model r z.2.2 z.2.1)) (va_A (wD cB cI o_Model r I F) sz)) 0 0 (va_A (wD cB cI o_Model r I F) sz) := by
  refine Met.ofW (cc := b_Model_divide) (maxL := 12) (ret := (some .int)) (by decide +kernel) rfl ?_
  intro p e s m args below meth c s₁ B hml hv
  obtain ⟨rfl, hN, hsz, hP, hK, hD0⟩ := hv
  have hx := B.exec
  have hb := B.bytes
  have hr := B.returns
  have hg : ∀ w ∈ lw_g, w.before _ s = true := fun w hw => atoms_spec (ws := .code y_Model_divide b_Model_divide 12 (some .int) :: lw_g) B.pre w (List.mem_cons_of_mem _ hw)
  have hown : s.vm.findClass R_Model = some m.cls := findClass_of_methodNamed B.named
  have hlocks := B.notSynchronized
  clear B
  subst hsz
  have hD := hD0.self (sz := s.heap.size)
  generalize hAe : va_A (wD cB cI o_Model r I F) s.heap.size = A at hD ⊢
  have hA : ∀ q : Nat, s.heap.size ≤ q → A q := fun q h => by rw [← hAe]; exact Or.inr h
  have hS : va_S A s.heap s.heap [] := va_S.rf
  have hP : va_P (dC, dI) classes (wD cB cI o_Model r I F) s.heap := hP
  have hl := lv_entry ([.ref o_Model, .int p0, .int p1, .int p2]) (n := 12) (Nat.le_of_ble_eq_true rfl)
  rw [lg_entry_eq]
  generalize (lg_sl ([.ref o_Model, .int p0, .int p1, .int p2]) ++ List.replicate (12 - (lg_sl ([.ref o_Model, .int p0, .int p1, .int p2])).length) Slot.unset).toArray = ls at hl ⊢
  have hl : lv_has ls 12 [(0, .ref o_Model), (1, .int p0), (2, .int p1), (3, .int p2)] := hl
  unfold m_Model_divide at h
  refine lv_iload_n hx hb d_Model_divide_0 rfl (lv_at hl 3 rfl) ?_
  refine lv_if_ne (tgt := 11) hx hb d_Model_divide_1 (by decide) (fun c1 => ?_) (fun c1 => ?_)
  · rw [if_neg c1] at h
    refine l_Model_divide_1 dC dI N cB cI o_Model r I F p0 p1 p2 hx hb hml hown hg hN hK hA (fun y1_0 H locs ls h hP hD hS hl => ?_)  _ _ _ h hP hD hS (lv_sub hl [0, 1, 2, 3] rfl)
    refine lv_lstore (lv' := [(4, .long y1_0), (0, .ref o_Model), (1, .int p0), (2, .int p1), (3, .int p2)]) hx hb d_Model_divide_28 hl (by decide) rfl (fun ls hl => ?_)
    refine l_Model_divide_2 dC dI N cB cI o_Model r I F p0 p1 p2 y1_0 hx hb hml hown hg hN hK hA (fun y2_0 H locs ls h hP hD hS hl => ?_)  _ _ _ h hP hD hS (lv_sub hl [0, 1, 2, 3, 4] rfl)
    refine lv_lstore (lv' := [(6, .long y2_0), (4, .long y1_0), (0, .ref o_Model), (1, .int p0), (2, .int p1), (3, .int p2)]) hx hb d_Model_divide_47 hl (by decide) rfl (fun ls hl => ?_)
    refine lv_lload hx hb d_Model_divide_49 (lv_at hl 1 rfl) ?_
    refine lv_lload hx hb d_Model_divide_51 (lv_at hl 0 rfl) ?_
    obtain ⟨i4, h⟩ := dz_oi h
    refine lv_ldiv hx hb d_Model_divide_53 i4 ?_
    refine lv_lstore (lv' := [(8, .long (y1_0 / y2_0)), (6, .long y2_0), (4, .long y1_0), (0, .ref o_Model), (1, .int p0), (2, .int p1), (3, .int p2)]) hx hb d_Model_divide_54 hl (by decide) rfl (fun ls hl => ?_)
    refine l_Model_divide_3 dC dI N cB cI o_Model r I F p0 p1 p2 y1_0 y2_0 hx hb hml hown hg hN hK hA (fun y3_0 H locs ls h hP hD hS hl => ?_)  _ _ _ h hP hD hS (lv_sub hl [0, 1, 2, 3, 4, 5, 6] rfl)
    refine lv_lstore (lv' := [(8, .long y3_0), (6, .long y2_0), (4, .long y1_0), (0, .ref o_Model), (1, .int p0), (2, .int p1), (3, .int p2)]) hx hb d_Model_divide_102 hl (by decide) rfl (fun ls hl => ?_)
    refine l_Model_divide_6 dC dI N cB cI o_Model r I F p0 p1 p2 y1_0 y2_0 y3_0 hx hb hml hown hg hN hK hA (fun y6_0 H locs ls h hP hD hS hl => ?_)  _ _ _ h hP hD hS (lv_sub hl [0, 1, 2, 3, 4, 5, 6] rfl)
    refine lv_lstore (lv' := [(10, .long y6_0), (8, .long y3_0), (6, .long y2_0), (4, .long y1_0), (0, .ref o_Model), (1, .int p0), (2, .int p1), (3, .int p2)]) hx hb d_Model_divide_128 hl (by decide) rfl (fun ls hl => ?_)
    refine lv_iload_n hx hb d_Model_divide_130 rfl (lv_at hl 5 rfl) ?_
    refine lv_iconst (v := 5) hx hb d_Model_divide_131 (by decide) ?_
    refine lv_icmp_ne (tgt := 154) hx hb d_Model_divide_132 (by decide) (fun c12 => ?_) (fun c12 => ?_)
    · rw [if_neg c12] at h
      refine lv_aload_n hx hb d_Model_divide_154 rfl (lv_at hl 4 rfl) ?_
      refine lv_iconst (v := 2) hx hb d_Model_divide_155 (by decide) ?_
      refine lv_aload_n hx hb d_Model_divide_156 rfl (lv_at hl 4 rfl) ?_
      refine lv_iconst (v := 2) hx hb d_Model_divide_157 (by decide) ?_
      refine lv_iconst (v := 0) hx hb d_Model_divide_158 (by decide) ?_
      refine lv_lload hx hb d_Model_divide_159 (lv_at hl 0 rfl) ?_
      refine lv_l2i (v := y6_0.toInt32) hx hb d_Model_divide_161 rfl ?_
      obtain ⟨⟨z13_1, z13_2, z13_3⟩, hc13, h⟩ := dz_ob h
      try dsimp only at h
      have hPc := hP
      have hKc := hK
      have hDc := hD
      have hFc := dz_freeall hD hS hA
      refine va_calli (va_runV (As := [.int 2, .int 0, .int y6_0.toInt32]) (rest := [.int 2, .ref o_Model]) ⟨hx, hb, hml, hown, hg⟩ (c_Model_give l dC dI N cB cI o_Model r I F (2 : Int32) (0 : Int32) y6_0.toInt32 H.size (z13_1, z13_2, z13_3) hc13) (cwV 3 hg (gd_V k734 k735 k736 k707 k733) rfl rfl rfl (by decide +kernel) ⟨Nat.le_of_ble_eq_true rfl, Nat.le_of_ble_eq_true rfl⟩) ⟨dz_blind, va_recv hKc hPc (ci := 10) (q0 := 0) rfl rfl, fun U hU hW => ⟨rfl, dz_Nw hW hN, by rw [hU], by rw [hU]; exact hPc, va_K.moved hW.alike hKc, hDc.weaken (fun _ _ _ _ => trivial)⟩⟩ rfl rfl hl.1 rfl (lv_room (Nat.le_of_ble_eq_true rfl)) d_Model_divide_162 ⟨Nat.le_of_ble_eq_true rfl, Nat.le_of_ble_eq_true rfl⟩) hS (fun q _ h => hFc q h) hFc (fun r13 u13 t13 H1 locs ht hvm hw hB hz1 hk1 hS => ?_)
      obtain ⟨hP1, hK1, hD1⟩ := hB
      rw [ht] at hP1
      have hP := hP1
      have hD := hD1.weaken (fun _ q _ h => hFc q.1 h)
      have hw : z13_1 = r13 := hw.symm
      subst hw
      generalize H1 = H at hP hS ⊢
      have hP : va_P (dC, dI) classes (wD cB cI o_Model r z13_3 z13_2) H := hP
      have hD : va_D A (wD cB cI o_Model r z13_3 z13_2) := hD
      obtain ⟨⟨z14_1, z14_2⟩, hc14, h⟩ := dz_ob h
      try dsimp only at h
      have hPc := hP
      have hKc := hK
      have hDc := hD
      have hFc := dz_freeall hD hS hA
      refine va_calli (va_runV (As := [.int 2, .int z13_1]) (rest := []) ⟨hx, hb, hml, hown, hg⟩ (c_Model_next l dC dI N cB cI o_Model r z13_3 z13_2 (2 : Int32) z13_1 H.size (z14_1, z14_2) hc14) (cwV 2 hg (gd_V k871 k872 k873 k707 k870) rfl rfl rfl (by decide +kernel) ⟨Nat.le_of_ble_eq_true rfl, Nat.le_of_ble_eq_true rfl⟩) ⟨dz_blind, va_recv hKc hPc (ci := 10) (q0 := 0) rfl rfl, fun U hU hW => ⟨rfl, dz_Nw hW hN, by rw [hU], by rw [hU]; exact hPc, va_K.moved hW.alike hKc, hDc.weaken (fun _ _ _ _ => trivial)⟩⟩ rfl rfl hl.1 rfl (lv_room (Nat.le_of_ble_eq_true rfl)) d_Model_divide_165 ⟨Nat.le_of_ble_eq_true rfl, Nat.le_of_ble_eq_true rfl⟩) hS (fun q _ h => hFc q h) hFc (fun r14 u14 t14 H1 locs ht hvm hw hB hz1 hk1 hS => ?_)
      obtain ⟨hP1, hK1, hD1⟩ := hB
      rw [ht] at hP1
      have hP := hP1
      have hD := hD1.weaken (fun _ q _ h => hFc q.1 h)
      have hw : z14_1 = r14 := hw.symm
      subst hw
      generalize H1 = H at hP hS ⊢
      have hP : va_P (dC, dI) classes (wD cB cI o_Model r z14_2 z13_2) H := hP
      have hD : va_D A (wD cB cI o_Model r z14_2 z13_2) := hD
      obtain rfl := Option.some.inj h
      have hP9 := hP
      have hD9 := hD
      have hK9 := hK
      exact W.iret (v := z14_1) hx hb hr (fun t ht hW => ⟨⟨z14_1, (), rfl, rfl, by rw [ht]; exact hP9, va_K.moved hW.alike hK9, hD9⟩, hS.F ht⟩) hS.2.2 d_Model_divide_168
    · rw [if_pos c12] at h
      refine lv_lload hx hb d_Model_divide_135 (lv_at hl 0 rfl) ?_
      refine lv_lload hx hb d_Model_divide_137 (lv_at hl 0 rfl) ?_
      refine lv_l2i (v := y6_0.toInt32) hx hb d_Model_divide_139 rfl ?_
      refine lv_i2l (v := y6_0.toInt32.toInt64) hx hb d_Model_divide_140 rfl ?_
      refine W.lcmp hx hb d_Model_divide_141 ?_
      refine lv_if_eq (tgt := 154) hx hb d_Model_divide_142 (by decide) (fun c15 => ?_) (fun c15 => ?_)
      · rw [if_pos c15] at h
        refine lv_aload_n hx hb d_Model_divide_154 rfl (lv_at hl 4 rfl) ?_
        refine lv_iconst (v := 2) hx hb d_Model_divide_155 (by decide) ?_
        refine lv_aload_n hx hb d_Model_divide_156 rfl (lv_at hl 4 rfl) ?_
        refine lv_iconst (v := 2) hx hb d_Model_divide_157 (by decide) ?_
        refine lv_iconst (v := 0) hx hb d_Model_divide_158 (by decide) ?_
        refine lv_lload hx hb d_Model_divide_159 (lv_at hl 0 rfl) ?_
        refine lv_l2i (v := y6_0.toInt32) hx hb d_Model_divide_161 rfl ?_
        obtain ⟨⟨z16_1, z16_2, z16_3⟩, hc16, h⟩ := dz_ob h
        try dsimp only at h
        have hPc := hP
        have hKc := hK
        have hDc := hD
        have hFc := dz_freeall hD hS hA
        refine va_calli (va_runV (As := [.int 2, .int 0, .int y6_0.toInt32]) (rest := [.int 2, .ref o_Model]) ⟨hx, hb, hml, hown, hg⟩ (c_Model_give l dC dI N cB cI o_Model r I F (2 : Int32) (0 : Int32) y6_0.toInt32 H.size (z16_1, z16_2, z16_3) hc16) (cwV 3 hg (gd_V k734 k735 k736 k707 k733) rfl rfl rfl (by decide +kernel) ⟨Nat.le_of_ble_eq_true rfl, Nat.le_of_ble_eq_true rfl⟩) ⟨dz_blind, va_recv hKc hPc (ci := 10) (q0 := 0) rfl rfl, fun U hU hW => ⟨rfl, dz_Nw hW hN, by rw [hU], by rw [hU]; exact hPc, va_K.moved hW.alike hKc, hDc.weaken (fun _ _ _ _ => trivial)⟩⟩ rfl rfl hl.1 rfl (lv_room (Nat.le_of_ble_eq_true rfl)) d_Model_divide_162 ⟨Nat.le_of_ble_eq_true rfl, Nat.le_of_ble_eq_true rfl⟩) hS (fun q _ h => hFc q h) hFc (fun r16 u16 t16 H1 locs ht hvm hw hB hz1 hk1 hS => ?_)
        obtain ⟨hP1, hK1, hD1⟩ := hB
        rw [ht] at hP1
        have hP := hP1
        have hD := hD1.weaken (fun _ q _ h => hFc q.1 h)
        have hw : z16_1 = r16 := hw.symm
        subst hw
        generalize H1 = H at hP hS ⊢
        have hP : va_P (dC, dI) classes (wD cB cI o_Model r z16_3 z16_2) H := hP
        have hD : va_D A (wD cB cI o_Model r z16_3 z16_2) := hD
        obtain ⟨⟨z17_1, z17_2⟩, hc17, h⟩ := dz_ob h
        try dsimp only at h
        have hPc := hP
        have hKc := hK
        have hDc := hD
        have hFc := dz_freeall hD hS hA
        refine va_calli (va_runV (As := [.int 2, .int z16_1]) (rest := []) ⟨hx, hb, hml, hown, hg⟩ (c_Model_next l dC dI N cB cI o_Model r z16_3 z16_2 (2 : Int32) z16_1 H.size (z17_1, z17_2) hc17) (cwV 2 hg (gd_V k871 k872 k873 k707 k870) rfl rfl rfl (by decide +kernel) ⟨Nat.le_of_ble_eq_true rfl, Nat.le_of_ble_eq_true rfl⟩) ⟨dz_blind, va_recv hKc hPc (ci := 10) (q0 := 0) rfl rfl, fun U hU hW => ⟨rfl, dz_Nw hW hN, by rw [hU], by rw [hU]; exact hPc, va_K.moved hW.alike hKc, hDc.weaken (fun _ _ _ _ => trivial)⟩⟩ rfl rfl hl.1 rfl (lv_room (Nat.le_of_ble_eq_true rfl)) d_Model_divide_165 ⟨Nat.le_of_ble_eq_true rfl, Nat.le_of_ble_eq_true rfl⟩) hS (fun q _ h => hFc q h) hFc (fun r17 u17 t17 H1 locs ht hvm hw hB hz1 hk1 hS => ?_)
        obtain ⟨hP1, hK1, hD1⟩ := hB
        rw [ht] at hP1
        have hP := hP1
        have hD := hD1.weaken (fun _ q _ h => hFc q.1 h)
        have hw : z17_1 = r17 := hw.symm
        subst hw
        generalize H1 = H at hP hS ⊢
        have hP : va_P (dC, dI) classes (wD cB cI o_Model r z17_2 z16_2) H := hP
        have hD : va_D A (wD cB cI o_Model r z17_2 z16_2) := hD
        obtain rfl := Option.some.inj h
        have hP9 := hP
        have hD9 := hD
        have hK9 := hK
        exact W.iret (v := z17_1) hx hb hr (fun t ht hW => ⟨⟨z17_1, (), rfl, rfl, by rw [ht]; exact hP9, va_K.moved hW.alike hK9, hD9⟩, hS.F ht⟩) hS.2.2 d_Model_divide_168
      · rw [if_neg c15] at h
        refine lv_aload_n hx hb d_Model_divide_145 rfl (lv_at hl 4 rfl) ?_
        refine lv_iconst (v := 2) hx hb d_Model_divide_146 (by decide) ?_
        refine lv_iconst (v := 2) hx hb d_Model_divide_147 (by decide) ?_
        obtain ⟨⟨z18_1, z18_2, z18_3⟩, hc18, h⟩ := dz_ob h
        try dsimp only at h
        have hPc := hP
        have hKc := hK
        have hDc := hD
        have hFc := dz_freeall hD hS hA
        refine va_calli (va_runV (As := [.int 2, .int 2]) (rest := []) ⟨hx, hb, hml, hown, hg⟩ (c_Model_raiseGlobal l dC dI N cB cI o_Model r I F (2 : Int32) (2 : Int32) H.size (z18_1, z18_2, z18_3) hc18) (cwV 2 hg (gd_V k875 k876 k877 k707 k874) rfl rfl rfl (by decide +kernel) ⟨Nat.le_of_ble_eq_true rfl, Nat.le_of_ble_eq_true rfl⟩) ⟨dz_blind, va_recv hKc hPc (ci := 10) (q0 := 0) rfl rfl, fun U hU hW => ⟨rfl, dz_Nw hW hN, by rw [hU], by rw [hU]; exact hPc, va_K.moved hW.alike hKc, hDc.weaken (fun _ _ _ _ => trivial)⟩⟩ rfl rfl hl.1 rfl (lv_room (Nat.le_of_ble_eq_true rfl)) d_Model_divide_148 ⟨Nat.le_of_ble_eq_true rfl, Nat.le_of_ble_eq_true rfl⟩) hS (fun q _ h => hFc q h) hFc (fun r18 u18 t18 H1 locs ht hvm hw hB hz1 hk1 hS => ?_)
        obtain ⟨hP1, hK1, hD1⟩ := hB
        rw [ht] at hP1
        have hP := hP1
        have hD := hD1.weaken (fun _ q _ h => hFc q.1 h)
        have hw : z18_1 = r18 := hw.symm
        subst hw
        generalize H1 = H at hP hS ⊢
        have hP : va_P (dC, dI) classes (wD cB cI o_Model r z18_3 z18_2) H := hP
        have hD : va_D A (wD cB cI o_Model r z18_3 z18_2) := hD
        refine lv_goto (tgt := 168) hx hb d_Model_divide_151 (by decide) ?_
        obtain rfl := Option.some.inj h
        have hP9 := hP
        have hD9 := hD
        have hK9 := hK
        exact W.iret (v := z18_1) hx hb hr (fun t ht hW => ⟨⟨z18_1, (), rfl, rfl, by rw [ht]; exact hP9, va_K.moved hW.alike hK9, hD9⟩, hS.F ht⟩) hS.2.2 d_Model_divide_168
  · rw [if_pos c1] at h
    refine lv_aload_n hx hb d_Model_divide_4 rfl (lv_at hl 0 rfl) ?_
    refine lv_iconst (v := 2) hx hb d_Model_divide_5 (by decide) ?_
    refine lv_iconst (v := 3) hx hb d_Model_divide_6 (by decide) ?_
    obtain ⟨⟨z19_1, z19_2, z19_3⟩, hc19, h⟩ := dz_ob h
    try dsimp only at h
    have hPc := hP
    have hKc := hK
    have hDc := hD
    have hFc := dz_freeall hD hS hA
    refine va_calli (va_runV (As := [.int 2, .int 3]) (rest := []) ⟨hx, hb, hml, hown, hg⟩ (c_Model_raiseGlobal l dC dI N cB cI o_Model r I F (2 : Int32) (3 : Int32) s.heap.size (z19_1, z19_2, z19_3) hc19) (cwV 2 hg (gd_V k875 k876 k877 k707 k874) rfl rfl rfl (by decide +kernel) ⟨Nat.le_of_ble_eq_true rfl, Nat.le_of_ble_eq_true rfl⟩) ⟨dz_blind, va_recv hKc hPc (ci := 10) (q0 := 0) rfl rfl, fun U hU hW => ⟨rfl, dz_Nw hW hN, by rw [hU], by rw [hU]; exact hPc, va_K.moved hW.alike hKc, hDc.weaken (fun _ _ _ _ => trivial)⟩⟩ rfl rfl hl.1 rfl (lv_room (Nat.le_of_ble_eq_true rfl)) d_Model_divide_7 ⟨Nat.le_of_ble_eq_true rfl, Nat.le_of_ble_eq_true rfl⟩) hS (fun q _ h => hFc q h) hFc (fun r19 u19 t19 H1 locs ht hvm hw hB hz1 hk1 hS => ?_)
    obtain ⟨hP1, hK1, hD1⟩ := hB
    rw [ht] at hP1
    have hP := hP1
    have hD := hD1.weaken (fun _ q _ h => hFc q.1 h)
    have hw : z19_1 = r19 := hw.symm
    subst hw
    generalize H1 = H at hP hS ⊢
    have hP : va_P (dC, dI) classes (wD cB cI o_Model r z19_3 z19_2) H := hP
    have hD : va_D A (wD cB cI o_Model r z19_3 z19_2) := hD
    obtain rfl := Option.some.inj h
    have hP9 := hP
    have hD9 := hD
    have hK9 := hK
    exact W.iret (v := z19_1) hx hb hr (fun t ht hW => ⟨⟨z19_1, (), rfl, rfl, by rw [ht]; exact hP9, va_K.moved hW.alike hK9, hD9⟩, hS.F ht⟩) hS.2.2 d_Model_divide_10

set_option maxHeartbeats 4000000 in
set_option maxRecDepth 100000 in
theorem c_Model_makes (l : Launch) (dC : Nat → ClassId) (dI : Nat → Nat → Nat) (N : Nat) (cB : ClassId) (cI : ClassId) (o_Model : Nat) (r : Nat → Nat) (I : Nat → Int32) (F : Nat → Nat → Int32) (p0 : Int32) (sz : Nat) (z : Int32 × (Nat → Nat → Int32) × (Nat → Int32)) (h : m_Model_makes N I F p0 = some z) : Met l y_Model_makes (.code y_Model_makes b_Model_makes 2 (some .boolean) :: lw_g) ({ frames := 7, cells := 0, slots := 0, locals := 150 }) (va_Pc [.ref o_Model, .int p0] (fun U => dz_N U ∧ U.heap.size = sz ∧ va_P (dC, dI) classes (wD cB cI o_Model r I F) U.heap ∧ va_K (dC, dI) classes [(cB, .byte), (cI, .int)] U ∧ va_D (fun _ => True) (wD cB cI o_Model r I F))) (va_Qi (fun (r : Int32) (_ : Unit) => r = z.1 ∧ narrow .boolean (.int z.1) = .int z.1 ∧ fits .boolean (.int z.1) = true) (fun (u : Unit) t => va_P (dC, dI) classes (wD cB cI o_Model r z.2.2 z.2.1) t.heap ∧ va_K (dC, dI) classes [(cB, .byte), (cI, .int)] t ∧ va_D (va_A (wD cB cI o_Model r I F) sz) (wD cB cI o_Model r z.2.2 z.2.1)) (va_A (wD cB cI o_Model r I F) sz)) 0 0 (va_A (wD cB cI o_Model r I F) sz) := by
  refine Met.ofW (cc := b_Model_makes) (maxL := 2) (ret := (some .boolean)) (by decide +kernel) rfl ?_
  intro p e s m args below meth c s₁ B hml hv
  obtain ⟨rfl, hN, hsz, hP, hK, hD0⟩ := hv
  have hx := B.exec
  have hb := B.bytes
  have hr := B.returns
  have hg : ∀ w ∈ lw_g, w.before _ s = true := fun w hw => atoms_spec (ws := .code y_Model_makes b_Model_makes 2 (some .boolean) :: lw_g) B.pre w (List.mem_cons_of_mem _ hw)
  have hown : s.vm.findClass R_Model = some m.cls := findClass_of_methodNamed B.named
  have hlocks := B.notSynchronized
  clear B
  subst hsz
  have hD := hD0.self (sz := s.heap.size)
  generalize hAe : va_A (wD cB cI o_Model r I F) s.heap.size = A at hD ⊢
  have hA : ∀ q : Nat, s.heap.size ≤ q → A q := fun q h => by rw [← hAe]; exact Or.inr h
  have hS : va_S A s.heap s.heap [] := va_S.rf
  have hP : va_P (dC, dI) classes (wD cB cI o_Model r I F) s.heap := hP
  have hl := lv_entry ([.ref o_Model, .int p0]) (n := 2) (Nat.le_of_ble_eq_true rfl)
  rw [lg_entry_eq]
  generalize (lg_sl ([.ref o_Model, .int p0]) ++ List.replicate (2 - (lg_sl ([.ref o_Model, .int p0])).length) Slot.unset).toArray = ls at hl ⊢
  have hl : lv_has ls 2 [(0, .ref o_Model), (1, .int p0)] := hl
  unfold m_Model_makes at h
  refine lv_aload_n hx hb d_Model_makes_0 rfl (lv_at hl 0 rfl) ?_
  refine va_get (D := (dC, dI)) (ci := 10) (v := .int (I 38)) (C := R_Model) (T := F_Model) (N := 54) hx hb hg i_Model hown hK hP 0 rfl rfl 38 (by decide) (hg _ k724) (fun _ h9 => h9) rfl d_Model_makes_1 ?_
  refine lv_i2l (v := (I 38).toInt64) hx hb d_Model_makes_4 rfl ?_
  refine lv_iload_n hx hb d_Model_makes_5 rfl (lv_at hl 1 rfl) ?_
  refine lv_i2l (v := p0.toInt64) hx hb d_Model_makes_6 rfl ?_
  refine lv_ladd hx hb d_Model_makes_7 ?_
  refine lv_aload_n hx hb d_Model_makes_8 rfl (lv_at hl 0 rfl) ?_
  refine va_get (D := (dC, dI)) (ci := 10) (v := .int (I 44)) (C := R_Model) (T := F_Model) (N := 54) hx hb hg i_Model hown hK hP 0 rfl rfl 44 (by decide) (hg _ k878) (fun _ h9 => h9) rfl d_Model_makes_9 ?_
  refine lv_i2l (v := (I 44).toInt64) hx hb d_Model_makes_12 rfl ?_
  refine W.lcmp hx hb d_Model_makes_13 ?_
  refine lv_if_gt (tgt := 25) hx hb d_Model_makes_14 (by decide) (fun c1 => ?_) (fun c1 => ?_)
  · rw [if_pos c1] at h
    refine lv_iconst (v := 0) hx hb d_Model_makes_25 (by decide) ?_
    obtain rfl := Option.some.inj h
    have hP9 := hP
    have hD9 := hD
    have hK9 := hK
    exact W.zret (v := 0) (ty := .boolean) hx hb hr (show narrow .boolean (.int 0) = .int 0 from rfl) (fun t ht hW => ⟨⟨0, (), rfl, ⟨rfl, (show narrow .boolean (.int 0) = .int 0 from rfl), (show fits .boolean (.int 0) = true from rfl)⟩, by rw [ht]; exact hP9, va_K.moved hW.alike hK9, hD9⟩, hS.F ht⟩) hS.2.2 d_Model_makes_26
  · rw [if_neg c1] at h
    refine lv_aload_n hx hb d_Model_makes_17 rfl (lv_at hl 0 rfl) ?_
    refine lv_iload_n hx hb d_Model_makes_18 rfl (lv_at hl 1 rfl) ?_
    obtain ⟨⟨z2_1, z2_2, z2_3⟩, hc2, h⟩ := dz_ob h
    try dsimp only at h
    have hPc := hP
    have hKc := hK
    have hDc := hD
    have hFc := dz_freeall hD hS hA
    refine va_calli (va_runV (As := [.int p0]) (rest := []) ⟨hx, hb, hml, hown, hg⟩ (c_Model_hasRoom l dC dI N cB cI o_Model r I F p0 s.heap.size (z2_1, z2_2, z2_3) hc2) (cwV 1 hg (gd_V k788 k789 k790 k707 k787) rfl rfl rfl (by decide +kernel) ⟨Nat.le_of_ble_eq_true rfl, Nat.le_of_ble_eq_true rfl⟩) ⟨dz_blind, va_recv hKc hPc (ci := 10) (q0 := 0) rfl rfl, fun U hU hW => ⟨rfl, dz_Nw hW hN, by rw [hU], by rw [hU]; exact hPc, va_K.moved hW.alike hKc, hDc.weaken (fun _ _ _ _ => trivial)⟩⟩ rfl rfl hl.1 rfl (lv_room (Nat.le_of_ble_eq_true rfl)) d_Model_makes_19 ⟨Nat.le_of_ble_eq_true rfl, Nat.le_of_ble_eq_true rfl⟩) hS (fun q _ h => hFc q h) hFc (fun r2 u2 t2 H1 locs ht hvm hw hB hz1 hk1 hS => ?_)
    obtain ⟨hP1, hK1, hD1⟩ := hB
    rw [ht] at hP1
    have hP := hP1
    have hD := hD1.weaken (fun _ q _ h => hFc q.1 h)
    obtain ⟨hw, hbz2⟩ := hw
    have hw : z2_1 = r2 := hw.symm
    subst hw
    generalize H1 = H at hP hS ⊢
    have hP : va_P (dC, dI) classes (wD cB cI o_Model r z2_3 z2_2) H := hP
    have hD : va_D A (wD cB cI o_Model r z2_3 z2_2) := hD
    refine lv_if_ne (tgt := 27) hx hb d_Model_makes_22 (by decide) (fun c3 => ?_) (fun c3 => ?_)
    · rw [if_neg c3] at h
      refine lv_aload_n hx hb d_Model_makes_27 rfl (lv_at hl 0 rfl) ?_
      refine lv_dup hx hb d_Model_makes_28 rfl ?_
      refine va_get (D := (dC, dI)) (ci := 10) (v := .int (z2_3 38)) (C := R_Model) (T := F_Model) (N := 54) hx hb hg i_Model hown hK hP 0 rfl rfl 38 (by decide) (hg _ k724) (fun _ h9 => h9) rfl d_Model_makes_29 ?_
      refine lv_iload_n hx hb d_Model_makes_32 rfl (lv_at hl 1 rfl) ?_
      refine lv_iadd hx hb d_Model_makes_33 ?_
      refine va_put (D := (dC, dI)) (ci := 10) (v := .int ((z2_3 38) + p0)) (ty := .int) (C := R_Model) (T := F_Model) (N := 54) hx hb hg i_Model t_Model t_Model_ok n_Model hown hK hP hD hS 0 rfl rfl 38 (by decide) (hg _ k724) (fun _ h9 => h9) rfl (by decide +kernel) rfl rfl (Nat.le_of_ble_eq_true rfl) d_Model_makes_34 (fun H locs hP hD hS => ?_)
      obtain ⟨J4, eJ4, h⟩ := dz_lt h
      have hP : va_P (dC, dI) classes (wD cB cI o_Model r J4 z2_2) H := by rw [eJ4]; exact hP
      have hD : va_D A (wD cB cI o_Model r J4 z2_2) := by rw [eJ4]; exact hD
      refine lv_iconst (v := 1) hx hb d_Model_makes_37 (by decide) ?_
      obtain rfl := Option.some.inj h
      have hP9 := hP
      have hD9 := hD
      have hK9 := hK
      exact W.zret (v := 1) (ty := .boolean) hx hb hr (show narrow .boolean (.int 1) = .int 1 from rfl) (fun t ht hW => ⟨⟨1, (), rfl, ⟨rfl, (show narrow .boolean (.int 1) = .int 1 from rfl), (show fits .boolean (.int 1) = true from rfl)⟩, by rw [ht]; exact hP9, va_K.moved hW.alike hK9, hD9⟩, hS.F ht⟩) hS.2.2 d_Model_makes_38
    · rw [if_pos c3] at h
      refine lv_iconst (v := 0) hx hb d_Model_makes_25 (by decide) ?_
      obtain rfl := Option.some.inj h
      have hP9 := hP
      have hD9 := hD
      have hK9 := hK
      exact W.zret (v := 0) (ty := .boolean) hx hb hr (show narrow .boolean (.int 0) = .int 0 from rfl) (fun t ht hW => ⟨⟨0, (), rfl, ⟨rfl, (show narrow .boolean (.int 0) = .int 0 from rfl), (show fits .boolean (.int 0) = true from rfl)⟩, by rw [ht]; exact hP9, va_K.moved hW.alike hK9, hD9⟩, hS.F ht⟩) hS.2.2 d_Model_makes_26

set_option maxHeartbeats 4000000 in
set_option maxRecDepth 100000 in
theorem c_Model_oneByte (l : Launch) (dC : Nat → ClassId) (dI : Nat → Nat → Nat) (N : Nat) (cB : ClassId) (cI : ClassId) (o_Model : Nat) (r : Nat → Nat) (I : Nat → Int32) (F : Nat → Nat → Int32) (p0 : Int32) (sz : Nat) (z : Int32 × (Nat → Nat → Int32) × (Nat → Int32)) (h : m_Model_oneByte N I F p0 = some z) : Met l y_Model_oneByte (.code y_Model_oneByte b_Model_oneByte 3 (some .int) :: lw_g) ({ frames := 8, cells := 0, slots := 0, locals := 171 }) (va_Pc [.ref o_Model, .int p0] (fun U => dz_N U ∧ U.heap.size = sz ∧ va_P (dC, dI) classes (wD cB cI o_Model r I F) U.heap ∧ va_K (dC, dI) classes [(cB, .byte), (cI, .int)] U ∧ va_D (fun _ => True) (wD cB cI o_Model r I F))) (va_Qi (fun (r : Int32) (_ : Unit) => r = z.1) (fun (u : Unit) t => va_P (dC, dI) classes (wD cB cI o_Model r z.2.2 z.2.1) t.heap ∧ va_K (dC, dI) classes [(cB, .byte), (cI, .int)] t ∧ va_D (va_A (wD cB cI o_Model r I F) sz) (wD cB cI o_Model r z.2.2 z.2.1)) (va_A (wD cB cI o_Model r I F) sz)) 0 0 (va_A (wD cB cI o_Model r I F) sz) := by
  refine Met.ofW (cc := b_Model_oneByte) (maxL := 3) (ret := (some .int)) (by decide +kernel) rfl ?_
  intro p e s m args below meth c s₁ B hml hv
  obtain ⟨rfl, hN, hsz, hP, hK, hD0⟩ := hv
  have hx := B.exec
  have hb := B.bytes
  have hr := B.returns
  have hg : ∀ w ∈ lw_g, w.before _ s = true := fun w hw => atoms_spec (ws := .code y_Model_oneByte b_Model_oneByte 3 (some .int) :: lw_g) B.pre w (List.mem_cons_of_mem _ hw)
  have hown : s.vm.findClass R_Model = some m.cls := findClass_of_methodNamed B.named
  have hlocks := B.notSynchronized
  clear B
  subst hsz
  have hD := hD0.self (sz := s.heap.size)
  generalize hAe : va_A (wD cB cI o_Model r I F) s.heap.size = A at hD ⊢
  have hA : ∀ q : Nat, s.heap.size ≤ q → A q := fun q h => by rw [← hAe]; exact Or.inr h
  have hS : va_S A s.heap s.heap [] := va_S.rf
  have hP : va_P (dC, dI) classes (wD cB cI o_Model r I F) s.heap := hP
  have hl := lv_entry ([.ref o_Model, .int p0]) (n := 3) (Nat.le_of_ble_eq_true rfl)
  rw [lg_entry_eq]
  generalize (lg_sl ([.ref o_Model, .int p0]) ++ List.replicate (3 - (lg_sl ([.ref o_Model, .int p0])).length) Slot.unset).toArray = ls at hl ⊢
  have hl : lv_has ls 3 [(0, .ref o_Model), (1, .int p0)] := hl
  unfold m_Model_oneByte at h
  refine lv_aload_n hx hb d_Model_oneByte_0 rfl (lv_at hl 0 rfl) ?_
  refine lv_iconst (v := 2) hx hb d_Model_oneByte_1 (by decide) ?_
  obtain ⟨⟨z1_1, z1_2, z1_3⟩, hc1, h⟩ := dz_ob h
  try dsimp only at h
  have hPc := hP
  have hKc := hK
  have hDc := hD
  have hFc := dz_freeall hD hS hA
  refine va_calli (va_runV (As := [.int 2]) (rest := []) ⟨hx, hb, hml, hown, hg⟩ (c_Model_makes l dC dI N cB cI o_Model r I F (2 : Int32) s.heap.size (z1_1, z1_2, z1_3) hc1) (cwV 1 hg (gd_V k880 k881 k882 k707 k879) rfl rfl rfl (by decide +kernel) ⟨Nat.le_of_ble_eq_true rfl, Nat.le_of_ble_eq_true rfl⟩) ⟨dz_blind, va_recv hKc hPc (ci := 10) (q0 := 0) rfl rfl, fun U hU hW => ⟨rfl, dz_Nw hW hN, by rw [hU], by rw [hU]; exact hPc, va_K.moved hW.alike hKc, hDc.weaken (fun _ _ _ _ => trivial)⟩⟩ rfl rfl hl.1 rfl (lv_room (Nat.le_of_ble_eq_true rfl)) d_Model_oneByte_2 ⟨Nat.le_of_ble_eq_true rfl, Nat.le_of_ble_eq_true rfl⟩) hS (fun q _ h => hFc q h) hFc (fun r1 u1 t1 H1 locs ht hvm hw hB hz1 hk1 hS => ?_)
  obtain ⟨hP1, hK1, hD1⟩ := hB
  rw [ht] at hP1
  have hP := hP1
  have hD := hD1.weaken (fun _ q _ h => hFc q.1 h)
  obtain ⟨hw, hbz1⟩ := hw
  have hw : z1_1 = r1 := hw.symm
  subst hw
  generalize H1 = H at hP hS ⊢
  have hP : va_P (dC, dI) classes (wD cB cI o_Model r z1_3 z1_2) H := hP
  have hD : va_D A (wD cB cI o_Model r z1_3 z1_2) := hD
  refine lv_if_ne (tgt := 10) hx hb d_Model_oneByte_5 (by decide) (fun c2 => ?_) (fun c2 => ?_)
  · rw [if_neg c2] at h
    refine lv_aload_n hx hb d_Model_oneByte_10 rfl (lv_at hl 0 rfl) ?_
    refine lv_iconst (v := 1) hx hb d_Model_oneByte_11 (by decide) ?_
    obtain ⟨⟨z3_1, z3_2, z3_3⟩, hc3, h⟩ := dz_ob h
    try dsimp only at h
    have hPc := hP
    have hKc := hK
    have hDc := hD
    have hFc := dz_freeall hD hS hA
    refine va_calli (va_runV (As := [.int 1]) (rest := []) ⟨hx, hb, hml, hown, hg⟩ (c_Model_string l dC dI N cB cI o_Model r z1_3 z1_2 (1 : Int32) H.size (z3_1, z3_2, z3_3) hc3) (cwV 1 hg (gd_V k792 k793 k794 k707 k791) rfl rfl rfl (by decide +kernel) ⟨Nat.le_of_ble_eq_true rfl, Nat.le_of_ble_eq_true rfl⟩) ⟨dz_blind, va_recv hKc hPc (ci := 10) (q0 := 0) rfl rfl, fun U hU hW => ⟨rfl, dz_Nw hW hN, by rw [hU], by rw [hU]; exact hPc, va_K.moved hW.alike hKc, hDc.weaken (fun _ _ _ _ => trivial)⟩⟩ rfl rfl hl.1 rfl (lv_room (Nat.le_of_ble_eq_true rfl)) d_Model_oneByte_12 ⟨Nat.le_of_ble_eq_true rfl, Nat.le_of_ble_eq_true rfl⟩) hS (fun q _ h => hFc q h) hFc (fun r3 u3 t3 H1 locs ht hvm hw hB hz1 hk1 hS => ?_)
    obtain ⟨hP1, hK1, hD1⟩ := hB
    rw [ht] at hP1
    have hP := hP1
    have hD := hD1.weaken (fun _ q _ h => hFc q.1 h)
    have hw : z3_1 = r3 := hw.symm
    subst hw
    generalize H1 = H at hP hS ⊢
    have hP : va_P (dC, dI) classes (wD cB cI o_Model r z3_3 z3_2) H := hP
    have hD : va_D A (wD cB cI o_Model r z3_3 z3_2) := hD
    refine lv_istore_n (lv' := [(2, .int z3_1), (0, .ref o_Model), (1, .int p0)]) hx hb d_Model_oneByte_15 rfl hl (by decide) rfl (fun ls hl => ?_)
    refine lv_aload_n hx hb d_Model_oneByte_16 rfl (lv_at hl 1 rfl) ?_
    refine lv_iload_n hx hb d_Model_oneByte_17 rfl (lv_at hl 0 rfl) ?_
    refine lv_iconst (v := 0) hx hb d_Model_oneByte_18 (by decide) ?_
    refine lv_iload_n hx hb d_Model_oneByte_19 rfl (lv_at hl 2 rfl) ?_
    obtain ⟨z4_1, hc4, h⟩ := dz_ob h
    try dsimp only at h
    have hPc := hP
    have hKc := hK
    have hDc := hD
    have hFc := dz_freeall hD hS hA
    refine va_callv (va_runV (As := [.int z3_1, .int 0, .int p0]) (rest := []) ⟨hx, hb, hml, hown, hg⟩ (c_Model_setByte l dC dI N cB cI o_Model r z3_3 z3_2 z3_1 (0 : Int32) p0 H.size z4_1 hc4) (cwV 3 hg (gd_V k796 k797 k798 k707 k795) rfl rfl rfl (by decide +kernel) ⟨Nat.le_of_ble_eq_true rfl, Nat.le_of_ble_eq_true rfl⟩) ⟨dz_blind, va_recv hKc hPc (ci := 10) (q0 := 0) rfl rfl, fun U hU hW => ⟨rfl, dz_Nw hW hN, by rw [hU], by rw [hU]; exact hPc, va_K.moved hW.alike hKc, hDc.weaken (fun _ _ _ _ => trivial)⟩⟩ rfl rfl hl.1 rfl (lv_room (Nat.le_of_ble_eq_true rfl)) d_Model_oneByte_20 ⟨Nat.le_of_ble_eq_true rfl, Nat.le_of_ble_eq_true rfl⟩) hS (fun q _ h => hFc q h) hFc (fun u4 t4 H1 locs ht hvm hw hB hz1 hk1 hS => ?_)
    obtain ⟨hP1, hK1, hD1⟩ := hB
    rw [ht] at hP1
    have hP := hP1
    have hD := hD1.weaken (fun _ q _ h => hFc q.1 h)
    generalize H1 = H at hP hS ⊢
    have hP : va_P (dC, dI) classes (wD cB cI o_Model r z3_3 z4_1) H := hP
    have hD : va_D A (wD cB cI o_Model r z3_3 z4_1) := hD
    refine lv_aload_n hx hb d_Model_oneByte_23 rfl (lv_at hl 1 rfl) ?_
    refine lv_iconst (v := 1) hx hb d_Model_oneByte_24 (by decide) ?_
    refine lv_iconst (v := 2) hx hb d_Model_oneByte_25 (by decide) ?_
    refine lv_iload_n hx hb d_Model_oneByte_26 rfl (lv_at hl 0 rfl) ?_
    obtain ⟨⟨z5_1, z5_2, z5_3⟩, hc5, h⟩ := dz_ob h
    try dsimp only at h
    have hPc := hP
    have hKc := hK
    have hDc := hD
    have hFc := dz_freeall hD hS hA
    refine va_calli (va_runV (As := [.int 1, .int 2, .int z3_1]) (rest := []) ⟨hx, hb, hml, hown, hg⟩ (c_Model_give l dC dI N cB cI o_Model r z3_3 z4_1 (1 : Int32) (2 : Int32) z3_1 H.size (z5_1, z5_2, z5_3) hc5) (cwV 3 hg (gd_V k734 k735 k736 k707 k733) rfl rfl rfl (by decide +kernel) ⟨Nat.le_of_ble_eq_true rfl, Nat.le_of_ble_eq_true rfl⟩) ⟨dz_blind, va_recv hKc hPc (ci := 10) (q0 := 0) rfl rfl, fun U hU hW => ⟨rfl, dz_Nw hW hN, by rw [hU], by rw [hU]; exact hPc, va_K.moved hW.alike hKc, hDc.weaken (fun _ _ _ _ => trivial)⟩⟩ rfl rfl hl.1 rfl (lv_room (Nat.le_of_ble_eq_true rfl)) d_Model_oneByte_27 ⟨Nat.le_of_ble_eq_true rfl, Nat.le_of_ble_eq_true rfl⟩) hS (fun q _ h => hFc q h) hFc (fun r5 u5 t5 H1 locs ht hvm hw hB hz1 hk1 hS => ?_)
    obtain ⟨hP1, hK1, hD1⟩ := hB
    rw [ht] at hP1
    have hP := hP1
    have hD := hD1.weaken (fun _ q _ h => hFc q.1 h)
    have hw : z5_1 = r5 := hw.symm
    subst hw
    generalize H1 = H at hP hS ⊢
    have hP : va_P (dC, dI) classes (wD cB cI o_Model r z5_3 z5_2) H := hP
    have hD : va_D A (wD cB cI o_Model r z5_3 z5_2) := hD
    obtain rfl := Option.some.inj h
    have hP9 := hP
    have hD9 := hD
    have hK9 := hK
    exact W.iret (v := z5_1) hx hb hr (fun t ht hW => ⟨⟨z5_1, (), rfl, rfl, by rw [ht]; exact hP9, va_K.moved hW.alike hK9, hD9⟩, hS.F ht⟩) hS.2.2 d_Model_oneByte_30
  · rw [if_pos c2] at h
    refine lv_iconst (v := 3) hx hb d_Model_oneByte_8 (by decide) ?_
    obtain rfl := Option.some.inj h
    have hP9 := hP
    have hD9 := hD
    have hK9 := hK
    exact W.iret (v := 3) hx hb hr (fun t ht hW => ⟨⟨3, (), rfl, rfl, by rw [ht]; exact hP9, va_K.moved hW.alike hK9, hD9⟩, hS.F ht⟩) hS.2.2 d_Model_oneByte_9

set_option maxHeartbeats 4000000 in
set_option maxRecDepth 100000 in
theorem l_Model_decimal_1 {p : Program} {l : Launch} {e : Env} {s : State} {m : MethodId} {args : Array Value} {below : List Frame} {meth : Method} {c : Code} {Q : State → Prop} {A : Nat → Prop} (dC : Nat → ClassId) (dI : Nat → Nat → Nat) (N : Nat) (cB : ClassId) (cI : ClassId) (o_Model : Nat) (r : Nat → Nat) (I : Nat → Int32) (F : Nat → Nat → Int32) (p0 : Int32) {ζ : Type} {z : ζ} (hx : p.tables.exec = Jvm.exec) (hb : c.code = b_Model_decimal) (hml : c.maxLocals = 10) (hown : s.vm.findClass R_Model = some m.cls) (hg : ∀ w ∈ lw_g, w.before args s = true) (hN : dz_N s) (hK : va_K (dC, dI) classes [(cB, .byte), (cI, .int)] s) (hA : ∀ q : Nat, s.heap.size ≤ q → A q) {k1_16 : Int64 → Option (ζ)} (hk1_16 : ∀   (y1_0 : Int64)  (H : Heap) (locs : List Loc) (ls : Array Slot), k1_16 y1_0 = some z → va_P (dC, dI) classes (wD cB cI o_Model r I F) H → va_D A (wD cB cI o_Model r I F) → va_S A s.heap H locs → lv_has ls 10 [(3, .long 1), (2, .int 1), (0, .ref o_Model), (1, .int p0)] → W p l e ({ frames := 8, cells := 0, slots := 0, locals := 171 } : Room) s m args below meth c H locs 0 0 Q (F0 m 16 ls [.long y1_0])) : ∀    (H : Heap) (locs : List Loc) (ls : Array Slot), lm_Model_decimal_1 N p0 k1_16  = some z → va_P (dC, dI) classes (wD cB cI o_Model r I F) H → va_D A (wD cB cI o_Model r I F) → va_S A s.heap H locs → lv_has ls 10 [(3, .long 1), (2, .int 1), (0, .ref o_Model), (1, .int p0)] → W p l e ({ frames := 8, cells := 0, slots := 0, locals := 171 } : Room) s m args below meth c H locs 0 0 Q (F0 m 4 ls []) := by
  intro H locs ls h hP hD hS hl
  unfold lm_Model_decimal_1 at h
  refine lv_iload_n hx hb d_Model_decimal_4 rfl (lv_at hl 3 rfl) ?_
  refine lv_if_ge (tgt := 14) hx hb d_Model_decimal_5 (by decide) (fun c1 => ?_) (fun c1 => ?_)
  · rw [if_pos c1] at h
    refine lv_iload_n hx hb d_Model_decimal_14 rfl (lv_at hl 3 rfl) ?_
    refine lv_i2l (v := p0.toInt64) hx hb d_Model_decimal_15 rfl ?_
    exact hk1_16 p0.toInt64 _ _ _ h hP hD hS (lv_sub hl [0, 1, 2, 3] rfl)
  · rw [if_neg c1] at h
    refine lv_iload_n hx hb d_Model_decimal_8 rfl (lv_at hl 3 rfl) ?_
    refine lv_i2l (v := p0.toInt64) hx hb d_Model_decimal_9 rfl ?_
    refine lv_lneg hx hb d_Model_decimal_10 ?_
    refine lv_goto (tgt := 16) hx hb d_Model_decimal_11 (by decide) ?_
    exact hk1_16 (-p0.toInt64) _ _ _ h hP hD hS (lv_sub hl [0, 1, 2, 3] rfl)
set_option maxHeartbeats 4000000 in
set_option maxRecDepth 100000 in
theorem l_Model_decimal_2 {p : Program} {l : Launch} {e : Env} {s : State} {m : MethodId} {args : Array Value} {below : List Frame} {meth : Method} {c : Code} {Q : State → Prop} {A : Nat → Prop} (dC : Nat → ClassId) (dI : Nat → Nat → Nat) (N : Nat) (cB : ClassId) (cI : ClassId) (o_Model : Nat) (r : Nat → Nat) (I : Nat → Int32) (F : Nat → Nat → Int32) (p0 : Int32) (y1_0 : Int64) {ζ : Type} {z : ζ} (hx : p.tables.exec = Jvm.exec) (hb : c.code = b_Model_decimal) (hml : c.maxLocals = 10) (hown : s.vm.findClass R_Model = some m.cls) (hg : ∀ w ∈ lw_g, w.before args s = true) (hN : dz_N s) (hK : va_K (dC, dI) classes [(cB, .byte), (cI, .int)] s) (hA : ∀ q : Nat, s.heap.size ≤ q → A q) {k2_41 : Int32 → Int64 → Option (ζ)} (hk2_41 : ∀ (v2_2 : Int32) (v2_3 : Int64)    (H : Heap) (locs : List Loc) (ls : Array Slot), k2_41 v2_2 v2_3 = some z → va_P (dC, dI) classes (wD cB cI o_Model r I F) H → va_D A (wD cB cI o_Model r I F) → va_S A s.heap H locs → lv_has ls 10 [(5, .long y1_0), (3, .long v2_3), (2, .int v2_2), (0, .ref o_Model), (1, .int p0)] → W p l e ({ frames := 8, cells := 0, slots := 0, locals := 171 } : Room) s m args below meth c H locs 0 0 Q (F0 m 41 ls [])) : ∀ (n2 : Nat) (v2_2 : Int32) (v2_3 : Int64)   (H : Heap) (locs : List Loc) (ls : Array Slot), lm_Model_decimal_2 N y1_0 k2_41 n2 v2_2 v2_3 = some z → va_P (dC, dI) classes (wD cB cI o_Model r I F) H → va_D A (wD cB cI o_Model r I F) → va_S A s.heap H locs → lv_has ls 10 [(5, .long y1_0), (3, .long v2_3), (2, .int v2_2), (0, .ref o_Model), (1, .int p0)] → W p l e ({ frames := 8, cells := 0, slots := 0, locals := 171 } : Room) s m args below meth c H locs 0 0 Q (F0 m 18 ls []) := by
  intro n2
  induction n2 with
  | zero =>
    intro v2_2 v2_3 H locs ls h hP hD hS hl
    rw [lm_Model_decimal_2] at h
    cases h
  | succ n2 ih2 =>
    intro v2_2 v2_3 H locs ls h hP hD hS hl
    rw [lm_Model_decimal_2] at h
    refine lv_lload hx hb d_Model_decimal_18 (lv_at hl 0 rfl) ?_
    refine lv_lload_n hx hb d_Model_decimal_20 rfl (lv_at hl 1 rfl) ?_
    obtain ⟨i2, h⟩ := dz_oi h
    refine lv_ldiv hx hb d_Model_decimal_21 i2 ?_
    refine lv_ldc2 (v := 10) hx hb hown (hg _ k883) d_Model_decimal_22 ?_
    refine W.lcmp hx hb d_Model_decimal_25 ?_
    refine lv_if_lt (tgt := 41) hx hb d_Model_decimal_26 (by decide) (fun c3 => ?_) (fun c3 => ?_)
    · rw [if_pos c3] at h
      exact hk2_41 v2_2 v2_3 _ _ _ h hP hD hS (lv_sub hl [0, 1, 2, 3, 4] rfl)
    · rw [if_neg c3] at h
      refine lv_lload_n hx hb d_Model_decimal_29 rfl (lv_at hl 1 rfl) ?_
      refine lv_ldc2 (v := 10) hx hb hown (hg _ k883) d_Model_decimal_30 ?_
      refine lv_lmul hx hb d_Model_decimal_33 ?_
      refine lv_lstore_n (lv' := [(3, .long (v2_3 * 10)), (5, .long y1_0), (2, .int v2_2), (0, .ref o_Model), (1, .int p0)]) hx hb d_Model_decimal_34 rfl hl (by decide) rfl (fun ls hl => ?_)
      refine lv_iinc (v := v2_2 + 1) (lv' := [(2, .int (v2_2 + 1)), (3, .long (v2_3 * 10)), (5, .long y1_0), (0, .ref o_Model), (1, .int p0)]) hx hb d_Model_decimal_35 hl (k := 2) rfl rfl (by decide) rfl (fun ls hl => ?_)
      refine lv_goto (tgt := 18) hx hb d_Model_decimal_38 (by decide) ?_
      exact ih2 (v2_2 + 1) (v2_3 * 10) _ _ _ h hP hD hS (lv_sub hl [2, 1, 0, 3, 4] rfl)
set_option maxHeartbeats 4000000 in
set_option maxRecDepth 100000 in
theorem l_Model_decimal_3 {p : Program} {l : Launch} {e : Env} {s : State} {m : MethodId} {args : Array Value} {below : List Frame} {meth : Method} {c : Code} {Q : State → Prop} {A : Nat → Prop} (dC : Nat → ClassId) (dI : Nat → Nat → Nat) (N : Nat) (cB : ClassId) (cI : ClassId) (o_Model : Nat) (r : Nat → Nat) (I : Nat → Int32) (F : Nat → Nat → Int32) (p0 : Int32) (y1_0 : Int64) (v2_3 : Int64) (v2_2 : Int32) {ζ : Type} {z : ζ} (hx : p.tables.exec = Jvm.exec) (hb : c.code = b_Model_decimal) (hml : c.maxLocals = 10) (hown : s.vm.findClass R_Model = some m.cls) (hg : ∀ w ∈ lw_g, w.before args s = true) (hN : dz_N s) (hK : va_K (dC, dI) classes [(cB, .byte), (cI, .int)] s) (hA : ∀ q : Nat, s.heap.size ≤ q → A q) {k3_52 : Int32 → Option (ζ)} (hk3_52 : ∀   (y3_0 : Int32)  (H : Heap) (locs : List Loc) (ls : Array Slot), k3_52 y3_0 = some z → va_P (dC, dI) classes (wD cB cI o_Model r I F) H → va_D A (wD cB cI o_Model r I F) → va_S A s.heap H locs → lv_has ls 10 [(5, .long y1_0), (3, .long v2_3), (2, .int v2_2), (0, .ref o_Model), (1, .int p0)] → W p l e ({ frames := 8, cells := 0, slots := 0, locals := 171 } : Room) s m args below meth c H locs 0 0 Q (F0 m 52 ls [.int y3_0])) : ∀    (H : Heap) (locs : List Loc) (ls : Array Slot), lm_Model_decimal_3 N p0 v2_2 k3_52  = some z → va_P (dC, dI) classes (wD cB cI o_Model r I F) H → va_D A (wD cB cI o_Model r I F) → va_S A s.heap H locs → lv_has ls 10 [(5, .long y1_0), (3, .long v2_3), (2, .int v2_2), (0, .ref o_Model), (1, .int p0)] → W p l e ({ frames := 8, cells := 0, slots := 0, locals := 171 } : Room) s m args below meth c H locs 0 0 Q (F0 m 41 ls []) := by
  intro H locs ls h hP hD hS hl
  unfold lm_Model_decimal_3 at h
  refine lv_iload_n hx hb d_Model_decimal_41 rfl (lv_at hl 4 rfl) ?_
  refine lv_if_ge (tgt := 51) hx hb d_Model_decimal_42 (by decide) (fun c4 => ?_) (fun c4 => ?_)
  · rw [if_pos c4] at h
    refine lv_iload_n hx hb d_Model_decimal_51 rfl (lv_at hl 2 rfl) ?_
    exact hk3_52 v2_2 _ _ _ h hP hD hS (lv_sub hl [0, 1, 2, 3, 4] rfl)
  · rw [if_neg c4] at h
    refine lv_iload_n hx hb d_Model_decimal_45 rfl (lv_at hl 2 rfl) ?_
    refine lv_iconst (v := 1) hx hb d_Model_decimal_46 (by decide) ?_
    refine lv_iadd hx hb d_Model_decimal_47 ?_
    refine lv_goto (tgt := 52) hx hb d_Model_decimal_48 (by decide) ?_
    exact hk3_52 (v2_2 + 1) _ _ _ h hP hD hS (lv_sub hl [0, 1, 2, 3, 4] rfl)
set_option maxHeartbeats 4000000 in
set_option maxRecDepth 100000 in
theorem l_Model_decimal_4 {p : Program} {l : Launch} {e : Env} {s : State} {m : MethodId} {args : Array Value} {below : List Frame} {meth : Method} {c : Code} {Q : State → Prop} {A : Nat → Prop} (dC : Nat → ClassId) (dI : Nat → Nat → Nat) (N : Nat) (cB : ClassId) (cI : ClassId) (o_Model : Nat) (r : Nat → Nat) (p0 : Int32) (y1_0 : Int64) (v2_3 : Int64) (v2_2 : Int32) (y3_0 : Int32) (z8_1 : Int32) (z8_3 : Nat → Int32) {ζ : Type} {z : ζ} (hx : p.tables.exec = Jvm.exec) (hb : c.code = b_Model_decimal) (hml : c.maxLocals = 10) (hown : s.vm.findClass R_Model = some m.cls) (hg : ∀ w ∈ lw_g, w.before args s = true) (hN : dz_N s) (hK : va_K (dC, dI) classes [(cB, .byte), (cI, .int)] s) (hA : ∀ q : Nat, s.heap.size ≤ q → A q) {k4_92 : (Nat → Nat → Int32) → Option (ζ)} (hk4_92 : ∀ (w4_F : (Nat → Nat → Int32))    (H : Heap) (locs : List Loc) (ls : Array Slot), k4_92 w4_F = some z → va_P (dC, dI) classes (wD cB cI o_Model r z8_3 w4_F) H → va_D A (wD cB cI o_Model r z8_3 w4_F) → va_S A s.heap H locs → lv_has ls 10 [(8, .int z8_1), (7, .int y3_0), (5, .long y1_0), (3, .long v2_3), (2, .int v2_2), (0, .ref o_Model), (1, .int p0)] → W p l e ({ frames := 8, cells := 0, slots := 0, locals := 171 } : Room) s m args below meth c H locs 0 0 Q (F0 m 92 ls [])) : ∀ (w4_F : (Nat → Nat → Int32))   (H : Heap) (locs : List Loc) (ls : Array Slot), lm_Model_decimal_4 N p0 z8_1 z8_3 k4_92 w4_F = some z → va_P (dC, dI) classes (wD cB cI o_Model r z8_3 w4_F) H → va_D A (wD cB cI o_Model r z8_3 w4_F) → va_S A s.heap H locs → lv_has ls 10 [(8, .int z8_1), (7, .int y3_0), (5, .long y1_0), (3, .long v2_3), (2, .int v2_2), (0, .ref o_Model), (1, .int p0)] → W p l e ({ frames := 8, cells := 0, slots := 0, locals := 171 } : Room) s m args below meth c H locs 0 0 Q (F0 m 79 ls []) := by
  intro w4_F H locs ls h hP hD hS hl
  unfold lm_Model_decimal_4 at h
  refine lv_iload_n hx hb d_Model_decimal_79 rfl (lv_at hl 6 rfl) ?_
  refine lv_if_ge (tgt := 92) hx hb d_Model_decimal_80 (by decide) (fun c9 => ?_) (fun c9 => ?_)
  · rw [if_pos c9] at h
    exact hk4_92 w4_F _ _ _ h hP hD hS (lv_sub hl [0, 1, 2, 3, 4, 5, 6] rfl)
  · rw [if_neg c9] at h
    refine lv_aload_n hx hb d_Model_decimal_83 rfl (lv_at hl 5 rfl) ?_
    refine lv_iload hx hb d_Model_decimal_84 (lv_at hl 0 rfl) ?_
    refine lv_iconst (v := 0) hx hb d_Model_decimal_86 (by decide) ?_
    refine lv_bipush (v := 126) hx hb d_Model_decimal_87 (by decide) ?_
    obtain ⟨z10_1, hc10, h⟩ := dz_ob h
    try dsimp only at h
    have hPc := hP
    have hKc := hK
    have hDc := hD
    have hFc := dz_freeall hD hS hA
    refine va_callv (va_runV (As := [.int z8_1, .int 0, .int 126]) (rest := []) ⟨hx, hb, hml, hown, hg⟩ (c_Model_setByte l dC dI N cB cI o_Model r z8_3 w4_F z8_1 (0 : Int32) (126 : Int32) H.size z10_1 hc10) (cwV 3 hg (gd_V k796 k797 k798 k707 k795) rfl rfl rfl (by decide +kernel) ⟨Nat.le_of_ble_eq_true rfl, Nat.le_of_ble_eq_true rfl⟩) ⟨dz_blind, va_recv hKc hPc (ci := 10) (q0 := 0) rfl rfl, fun U hU hW => ⟨rfl, dz_Nw hW hN, by rw [hU], by rw [hU]; exact hPc, va_K.moved hW.alike hKc, hDc.weaken (fun _ _ _ _ => trivial)⟩⟩ rfl rfl hl.1 rfl (lv_room (Nat.le_of_ble_eq_true rfl)) d_Model_decimal_89 ⟨Nat.le_of_ble_eq_true rfl, Nat.le_of_ble_eq_true rfl⟩) hS (fun q _ h => hFc q h) hFc (fun u10 t10 H1 locs ht hvm hw hB hz1 hk1 hS => ?_)
    obtain ⟨hP1, hK1, hD1⟩ := hB
    rw [ht] at hP1
    have hP := hP1
    have hD := hD1.weaken (fun _ q _ h => hFc q.1 h)
    generalize H1 = H at hP hS ⊢
    have hP : va_P (dC, dI) classes (wD cB cI o_Model r z8_3 z10_1) H := hP
    have hD : va_D A (wD cB cI o_Model r z8_3 z10_1) := hD
    exact hk4_92 z10_1 _ _ _ h hP hD hS (lv_sub hl [0, 1, 2, 3, 4, 5, 6] rfl)
set_option maxHeartbeats 4000000 in
set_option maxRecDepth 100000 in
theorem l_Model_decimal_5 {p : Program} {l : Launch} {e : Env} {s : State} {m : MethodId} {args : Array Value} {below : List Frame} {meth : Method} {c : Code} {Q : State → Prop} {A : Nat → Prop} (dC : Nat → ClassId) (dI : Nat → Nat → Nat) (N : Nat) (cB : ClassId) (cI : ClassId) (o_Model : Nat) (r : Nat → Nat) (p0 : Int32) (y1_0 : Int64) (v2_2 : Int32) (y3_0 : Int32) (z8_1 : Int32) (z8_3 : Nat → Int32) {ζ : Type} {z : ζ} (hx : p.tables.exec = Jvm.exec) (hb : c.code = b_Model_decimal) (hml : c.maxLocals = 10) (hown : s.vm.findClass R_Model = some m.cls) (hg : ∀ w ∈ lw_g, w.before args s = true) (hN : dz_N s) (hK : va_K (dC, dI) classes [(cB, .byte), (cI, .int)] s) (hA : ∀ q : Nat, s.heap.size ≤ q → A q) {k5_138 : Int64 → Int32 → (Nat → Nat → Int32) → Option (ζ)} (hk5_138 : ∀ (v5_3 : Int64) (v5_9 : Int32) (w5_F : (Nat → Nat → Int32))    (H : Heap) (locs : List Loc) (ls : Array Slot), k5_138 v5_3 v5_9 w5_F = some z → va_P (dC, dI) classes (wD cB cI o_Model r z8_3 w5_F) H → va_D A (wD cB cI o_Model r z8_3 w5_F) → va_S A s.heap H locs → lv_has ls 10 [(9, .int v5_9), (8, .int z8_1), (7, .int y3_0), (5, .long y1_0), (3, .long v5_3), (2, .int v2_2), (0, .ref o_Model), (1, .int p0)] → W p l e ({ frames := 8, cells := 0, slots := 0, locals := 171 } : Room) s m args below meth c H locs 0 0 Q (F0 m 138 ls [])) : ∀ (n5 : Nat) (v5_3 : Int64) (v5_9 : Int32) (w5_F : (Nat → Nat → Int32))   (H : Heap) (locs : List Loc) (ls : Array Slot), lm_Model_decimal_5 N y1_0 y3_0 z8_1 z8_3 k5_138 n5 v5_3 v5_9 w5_F = some z → va_P (dC, dI) classes (wD cB cI o_Model r z8_3 w5_F) H → va_D A (wD cB cI o_Model r z8_3 w5_F) → va_S A s.heap H locs → lv_has ls 10 [(9, .int v5_9), (8, .int z8_1), (7, .int y3_0), (5, .long y1_0), (3, .long v5_3), (2, .int v2_2), (0, .ref o_Model), (1, .int p0)] → W p l e ({ frames := 8, cells := 0, slots := 0, locals := 171 } : Room) s m args below meth c H locs 0 0 Q (F0 m 98 ls []) := by
  intro n5
  induction n5 with
  | zero =>
    intro v5_3 v5_9 w5_F H locs ls h hP hD hS hl
    rw [lm_Model_decimal_5] at h
    cases h
  | succ n5 ih5 =>
    intro v5_3 v5_9 w5_F H locs ls h hP hD hS hl
    rw [lm_Model_decimal_5] at h
    refine lv_iload hx hb d_Model_decimal_98 (lv_at hl 0 rfl) ?_
    refine lv_iload hx hb d_Model_decimal_100 (lv_at hl 2 rfl) ?_
    refine lv_icmp_ge (tgt := 138) hx hb d_Model_decimal_102 (by decide) (fun c11 => ?_) (fun c11 => ?_)
    · rw [if_pos c11] at h
      exact hk5_138 v5_3 v5_9 w5_F _ _ _ h hP hD hS (lv_sub hl [0, 1, 2, 3, 4, 5, 6, 7] rfl)
    · rw [if_neg c11] at h
      refine lv_aload_n hx hb d_Model_decimal_105 rfl (lv_at hl 6 rfl) ?_
      refine lv_iload hx hb d_Model_decimal_106 (lv_at hl 1 rfl) ?_
      refine lv_iload hx hb d_Model_decimal_108 (lv_at hl 0 rfl) ?_
      refine lv_ldc2 (v := 48) hx hb hown (hg _ k884) d_Model_decimal_110 ?_
      refine lv_lload hx hb d_Model_decimal_113 (lv_at hl 3 rfl) ?_
      refine lv_lload_n hx hb d_Model_decimal_115 rfl (lv_at hl 4 rfl) ?_
      obtain ⟨i12, h⟩ := dz_oi h
      refine lv_ldiv hx hb d_Model_decimal_116 i12 ?_
      refine lv_ldc2 (v := 10) hx hb hown (hg _ k883) d_Model_decimal_117 ?_
      refine lv_lrem hx hb d_Model_decimal_120 (by decide) ?_
      refine lv_ladd hx hb d_Model_decimal_121 ?_
      refine lv_l2i (v := (48 + ((y1_0 / v5_3) - (y1_0 / v5_3) / 10 * 10)).toInt32) hx hb d_Model_decimal_122 rfl ?_
      obtain ⟨z14_1, hc14, h⟩ := dz_ob h
      try dsimp only at h
      have hPc := hP
      have hKc := hK
      have hDc := hD
      have hFc := dz_freeall hD hS hA
      refine va_callv (va_runV (As := [.int z8_1, .int v5_9, .int ((48 + ((y1_0 / v5_3) - (y1_0 / v5_3) / 10 * 10)).toInt32)]) (rest := []) ⟨hx, hb, hml, hown, hg⟩ (c_Model_setByte l dC dI N cB cI o_Model r z8_3 w5_F z8_1 v5_9 ((48 + ((y1_0 / v5_3) - (y1_0 / v5_3) / 10 * 10)).toInt32) H.size z14_1 hc14) (cwV 3 hg (gd_V k796 k797 k798 k707 k795) rfl rfl rfl (by decide +kernel) ⟨Nat.le_of_ble_eq_true rfl, Nat.le_of_ble_eq_true rfl⟩) ⟨dz_blind, va_recv hKc hPc (ci := 10) (q0 := 0) rfl rfl, fun U hU hW => ⟨rfl, dz_Nw hW hN, by rw [hU], by rw [hU]; exact hPc, va_K.moved hW.alike hKc, hDc.weaken (fun _ _ _ _ => trivial)⟩⟩ rfl rfl hl.1 rfl (lv_room (Nat.le_of_ble_eq_true rfl)) d_Model_decimal_123 ⟨Nat.le_of_ble_eq_true rfl, Nat.le_of_ble_eq_true rfl⟩) hS (fun q _ h => hFc q h) hFc (fun u14 t14 H1 locs ht hvm hw hB hz1 hk1 hS => ?_)
      obtain ⟨hP1, hK1, hD1⟩ := hB
      rw [ht] at hP1
      have hP := hP1
      have hD := hD1.weaken (fun _ q _ h => hFc q.1 h)
      generalize H1 = H at hP hS ⊢
      have hP : va_P (dC, dI) classes (wD cB cI o_Model r z8_3 z14_1) H := hP
      have hD : va_D A (wD cB cI o_Model r z8_3 z14_1) := hD
      refine lv_lload_n hx hb d_Model_decimal_126 rfl (lv_at hl 4 rfl) ?_
      refine lv_ldc2 (v := 10) hx hb hown (hg _ k883) d_Model_decimal_127 ?_
      refine lv_ldiv hx hb d_Model_decimal_130 (by decide) ?_
      refine lv_lstore_n (lv' := [(3, .long (v5_3 / 10)), (9, .int v5_9), (8, .int z8_1), (7, .int y3_0), (5, .long y1_0), (2, .int v2_2), (0, .ref o_Model), (1, .int p0)]) hx hb d_Model_decimal_131 rfl hl (by decide) rfl (fun ls hl => ?_)
      refine lv_iinc (v := v5_9 + 1) (lv' := [(9, .int (v5_9 + 1)), (3, .long (v5_3 / 10)), (8, .int z8_1), (7, .int y3_0), (5, .long y1_0), (2, .int v2_2), (0, .ref o_Model), (1, .int p0)]) hx hb d_Model_decimal_132 hl (k := 1) rfl rfl (by decide) rfl (fun ls hl => ?_)
      refine lv_goto (tgt := 98) hx hb d_Model_decimal_135 (by decide) ?_
      exact ih5 (v5_3 / 10) (v5_9 + 1) z14_1 _ _ _ h hP hD hS (lv_sub hl [0, 2, 3, 4, 1, 5, 6, 7] rfl)
set_option maxHeartbeats 4000000 in
set_option maxRecDepth 100000 in
theorem c_Model_decimal (l : Launch) (dC : Nat → ClassId) (dI : Nat → Nat → Nat) (N : Nat) (cB : ClassId) (cI : ClassId) (o_Model : Nat) (r : Nat → Nat) (I : Nat → Int32) (F : Nat → Nat → Int32) (p0 : Int32) (sz : Nat) (z : Int32 × (Nat → Nat → Int32) × (Nat → Int32)) (h : m_Model_decimal N I F p0 = some z) : Met l y_Model_decimal (.code y_Model_decimal b_Model_decimal 10 (some .int) :: lw_g) ({ frames := 8, cells := 0, slots := 0, locals := 171 }) (va_Pc [.ref o_Model, .int p0] (fun U => dz_N U ∧ U.heap.size = sz ∧ va_P (dC, dI) classes (wD cB cI o_Model r I F) U.heap ∧ va_K (dC, dI) classes [(cB, .byte), (cI, .int)] U ∧ va_D (fun _ => True) (wD cB cI o_Model r I F))) (va_Qi (fun (r : Int32) (_ : Unit) => r = z.1) (fun (u : Unit) t => va_P (dC, dI) classes (wD cB cI o_Model r z.2.2 z.2.1) t.heap ∧ va_K (dC, dI) classes [(cB, .byte), (cI, .int)] t ∧ va_D (va_A (wD cB cI o_Model r I F) sz) (wD cB cI o_Model r z.2.2 z.2.1)) (va_A (wD cB cI o_Model r I F) sz)) 0 0 (va_A (wD cB cI o_Model r I F) sz) := by
  refine Met.ofW (cc := b_Model_decimal) (maxL := 10) (ret := (some .int)) (by decide +kernel) rfl ?_
  intro p e s m args below meth c s₁ B hml hv
  obtain ⟨rfl, hN, hsz, hP, hK, hD0⟩ := hv
  have hx := B.exec
  have hb := B.bytes
  have hr := B.returns
  have hg : ∀ w ∈ lw_g, w.before _ s = true := fun w hw => atoms_spec (ws := .code y_Model_decimal b_Model_decimal 10 (some .int) :: lw_g) B.pre w (List.mem_cons_of_mem _ hw)
  have hown : s.vm.findClass R_Model = some m.cls := findClass_of_methodNamed B.named
  have hlocks := B.notSynchronized
  clear B
  subst hsz
  have hD := hD0.self (sz := s.heap.size)
  generalize hAe : va_A (wD cB cI o_Model r I F) s.heap.size = A at hD ⊢
  have hA : ∀ q : Nat, s.heap.size ≤ q → A q := fun q h => by rw [← hAe]; exact Or.inr h
  have hS : va_S A s.heap s.heap [] := va_S.rf
  have hP : va_P (dC, dI) classes (wD cB cI o_Model r I F) s.heap := hP
  have hl := lv_entry ([.ref o_Model, .int p0]) (n := 10) (Nat.le_of_ble_eq_true rfl)
  rw [lg_entry_eq]
  generalize (lg_sl ([.ref o_Model, .int p0]) ++ List.replicate (10 - (lg_sl ([.ref o_Model, .int p0])).length) Slot.unset).toArray = ls at hl ⊢
  have hl : lv_has ls 10 [(0, .ref o_Model), (1, .int p0)] := hl
  unfold m_Model_decimal at h
  refine lv_iconst (v := 1) hx hb d_Model_decimal_0 (by decide) ?_
  refine lv_istore_n (lv' := [(2, .int 1), (0, .ref o_Model), (1, .int p0)]) hx hb d_Model_decimal_1 rfl hl (by decide) rfl (fun ls hl => ?_)
  refine lv_lconst (v := 1) hx hb d_Model_decimal_2 (by decide) ?_
  refine lv_lstore_n (lv' := [(3, .long 1), (2, .int 1), (0, .ref o_Model), (1, .int p0)]) hx hb d_Model_decimal_3 rfl hl (by decide) rfl (fun ls hl => ?_)
  refine l_Model_decimal_1 dC dI N cB cI o_Model r I F p0 hx hb hml hown hg hN hK hA (fun y1_0 H locs ls h hP hD hS hl => ?_)  _ _ _ h hP hD hS (lv_sub hl [0, 1, 2, 3] rfl)
  refine lv_lstore (lv' := [(5, .long y1_0), (3, .long 1), (2, .int 1), (0, .ref o_Model), (1, .int p0)]) hx hb d_Model_decimal_16 hl (by decide) rfl (fun ls hl => ?_)
  refine l_Model_decimal_2 dC dI N cB cI o_Model r I F p0 y1_0 hx hb hml hown hg hN hK hA (fun v2_2 v2_3 H locs ls h hP hD hS hl => ?_) N (1 : Int32) (1 : Int64) _ _ _ h hP hD hS (lv_sub hl [0, 1, 2, 3, 4] rfl)
  refine l_Model_decimal_3 dC dI N cB cI o_Model r I F p0 y1_0 v2_3 v2_2 hx hb hml hown hg hN hK hA (fun y3_0 H locs ls h hP hD hS hl => ?_)  _ _ _ h hP hD hS (lv_sub hl [0, 1, 2, 3, 4] rfl)
  refine lv_istore (lv' := [(7, .int y3_0), (5, .long y1_0), (3, .long v2_3), (2, .int v2_2), (0, .ref o_Model), (1, .int p0)]) hx hb d_Model_decimal_52 hl (by decide) rfl (fun ls hl => ?_)
  refine lv_aload_n hx hb d_Model_decimal_54 rfl (lv_at hl 4 rfl) ?_
  refine lv_iconst (v := 1) hx hb d_Model_decimal_55 (by decide) ?_
  refine lv_iload hx hb d_Model_decimal_56 (lv_at hl 0 rfl) ?_
  refine lv_iconst (v := 3) hx hb d_Model_decimal_58 (by decide) ?_
  refine lv_iadd hx hb d_Model_decimal_59 ?_
  refine lv_iconst (v := 4) hx hb d_Model_decimal_60 (by decide) ?_
  refine lv_idiv hx hb d_Model_decimal_61 (by decide) ?_
  refine lv_iadd hx hb d_Model_decimal_62 ?_
  obtain ⟨⟨z6_1, z6_2, z6_3⟩, hc6, h⟩ := dz_ob h
  try dsimp only at h
  have hPc := hP
  have hKc := hK
  have hDc := hD
  have hFc := dz_freeall hD hS hA
  refine va_calli (va_runV (As := [.int (1 + ((y3_0 + 3) / 4))]) (rest := []) ⟨hx, hb, hml, hown, hg⟩ (c_Model_makes l dC dI N cB cI o_Model r I F (1 + ((y3_0 + 3) / 4)) H.size (z6_1, z6_2, z6_3) hc6) (cwV 1 hg (gd_V k880 k881 k882 k707 k879) rfl rfl rfl (by decide +kernel) ⟨Nat.le_of_ble_eq_true rfl, Nat.le_of_ble_eq_true rfl⟩) ⟨dz_blind, va_recv hKc hPc (ci := 10) (q0 := 0) rfl rfl, fun U hU hW => ⟨rfl, dz_Nw hW hN, by rw [hU], by rw [hU]; exact hPc, va_K.moved hW.alike hKc, hDc.weaken (fun _ _ _ _ => trivial)⟩⟩ rfl rfl hl.1 rfl (lv_room (Nat.le_of_ble_eq_true rfl)) d_Model_decimal_63 ⟨Nat.le_of_ble_eq_true rfl, Nat.le_of_ble_eq_true rfl⟩) hS (fun q _ h => hFc q h) hFc (fun r6 u6 t6 H1 locs ht hvm hw hB hz1 hk1 hS => ?_)
  obtain ⟨hP1, hK1, hD1⟩ := hB
  rw [ht] at hP1
  have hP := hP1
  have hD := hD1.weaken (fun _ q _ h => hFc q.1 h)
  obtain ⟨hw, hbz6⟩ := hw
  have hw : z6_1 = r6 := hw.symm
  subst hw
  generalize H1 = H at hP hS ⊢
  have hP : va_P (dC, dI) classes (wD cB cI o_Model r z6_3 z6_2) H := hP
  have hD : va_D A (wD cB cI o_Model r z6_3 z6_2) := hD
  refine lv_if_ne (tgt := 71) hx hb d_Model_decimal_66 (by decide) (fun c7 => ?_) (fun c7 => ?_)
  · rw [if_neg c7] at h
    refine lv_aload_n hx hb d_Model_decimal_71 rfl (lv_at hl 4 rfl) ?_
    refine lv_iload hx hb d_Model_decimal_72 (lv_at hl 0 rfl) ?_
    obtain ⟨⟨z8_1, z8_2, z8_3⟩, hc8, h⟩ := dz_ob h
    try dsimp only at h
    have hPc := hP
    have hKc := hK
    have hDc := hD
    have hFc := dz_freeall hD hS hA
    refine va_calli (va_runV (As := [.int y3_0]) (rest := []) ⟨hx, hb, hml, hown, hg⟩ (c_Model_string l dC dI N cB cI o_Model r z6_3 z6_2 y3_0 H.size (z8_1, z8_2, z8_3) hc8) (cwV 1 hg (gd_V k792 k793 k794 k707 k791) rfl rfl rfl (by decide +kernel) ⟨Nat.le_of_ble_eq_true rfl, Nat.le_of_ble_eq_true rfl⟩) ⟨dz_blind, va_recv hKc hPc (ci := 10) (q0 := 0) rfl rfl, fun U hU hW => ⟨rfl, dz_Nw hW hN, by rw [hU], by rw [hU]; exact hPc, va_K.moved hW.alike hKc, hDc.weaken (fun _ _ _ _ => trivial)⟩⟩ rfl rfl hl.1 rfl (lv_room (Nat.le_of_ble_eq_true rfl)) d_Model_decimal_74 ⟨Nat.le_of_ble_eq_true rfl, Nat.le_of_ble_eq_true rfl⟩) hS (fun q _ h => hFc q h) hFc (fun r8 u8 t8 H1 locs ht hvm hw hB hz1 hk1 hS => ?_)
    obtain ⟨hP1, hK1, hD1⟩ := hB
    rw [ht] at hP1
    have hP := hP1
    have hD := hD1.weaken (fun _ q _ h => hFc q.1 h)
    have hw : z8_1 = r8 := hw.symm
    subst hw
    generalize H1 = H at hP hS ⊢
    have hP : va_P (dC, dI) classes (wD cB cI o_Model r z8_3 z8_2) H := hP
    have hD : va_D A (wD cB cI o_Model r z8_3 z8_2) := hD
    refine lv_istore (lv' := [(8, .int z8_1), (7, .int y3_0), (5, .long y1_0), (3, .long v2_3), (2, .int v2_2), (0, .ref o_Model), (1, .int p0)]) hx hb d_Model_decimal_77 hl (by decide) rfl (fun ls hl => ?_)
    refine l_Model_decimal_4 dC dI N cB cI o_Model r p0 y1_0 v2_3 v2_2 y3_0 z8_1 z8_3 hx hb hml hown hg hN hK hA (fun w4_F H locs ls h hP hD hS hl => ?_) z8_2 _ _ _ h hP hD hS (lv_sub hl [0, 1, 2, 3, 4, 5, 6] rfl)
    refine lv_iload hx hb d_Model_decimal_92 (lv_at hl 1 rfl) ?_
    refine lv_iload_n hx hb d_Model_decimal_94 rfl (lv_at hl 4 rfl) ?_
    refine lv_isub hx hb d_Model_decimal_95 ?_
    refine lv_istore (lv' := [(9, .int (y3_0 - v2_2)), (8, .int z8_1), (7, .int y3_0), (5, .long y1_0), (3, .long v2_3), (2, .int v2_2), (0, .ref o_Model), (1, .int p0)]) hx hb d_Model_decimal_96 hl (by decide) rfl (fun ls hl => ?_)
    refine l_Model_decimal_5 dC dI N cB cI o_Model r p0 y1_0 v2_2 y3_0 z8_1 z8_3 hx hb hml hown hg hN hK hA (fun v5_3 v5_9 w5_F H locs ls h hP hD hS hl => ?_) N v2_3 (y3_0 - v2_2) w4_F _ _ _ h hP hD hS (lv_sub hl [0, 1, 2, 3, 4, 5, 6, 7] rfl)
    refine lv_aload_n hx hb d_Model_decimal_138 rfl (lv_at hl 6 rfl) ?_
    refine lv_iconst (v := 1) hx hb d_Model_decimal_139 (by decide) ?_
    refine lv_iconst (v := 2) hx hb d_Model_decimal_140 (by decide) ?_
    refine lv_iload hx hb d_Model_decimal_141 (lv_at hl 1 rfl) ?_
    obtain ⟨⟨z16_1, z16_2, z16_3⟩, hc16, h⟩ := dz_ob h
    try dsimp only at h
    have hPc := hP
    have hKc := hK
    have hDc := hD
    have hFc := dz_freeall hD hS hA
    refine va_calli (va_runV (As := [.int 1, .int 2, .int z8_1]) (rest := []) ⟨hx, hb, hml, hown, hg⟩ (c_Model_give l dC dI N cB cI o_Model r z8_3 w5_F (1 : Int32) (2 : Int32) z8_1 H.size (z16_1, z16_2, z16_3) hc16) (cwV 3 hg (gd_V k734 k735 k736 k707 k733) rfl rfl rfl (by decide +kernel) ⟨Nat.le_of_ble_eq_true rfl, Nat.le_of_ble_eq_true rfl⟩) ⟨dz_blind, va_recv hKc hPc (ci := 10) (q0 := 0) rfl rfl, fun U hU hW => ⟨rfl, dz_Nw hW hN, by rw [hU], by rw [hU]; exact hPc, va_K.moved hW.alike hKc, hDc.weaken (fun _ _ _ _ => trivial)⟩⟩ rfl rfl hl.1 rfl (lv_room (Nat.le_of_ble_eq_true rfl)) d_Model_decimal_143 ⟨Nat.le_of_ble_eq_true rfl, Nat.le_of_ble_eq_true rfl⟩) hS (fun q _ h => hFc q h) hFc (fun r16 u16 t16 H1 locs ht hvm hw hB hz1 hk1 hS => ?_)
    obtain ⟨hP1, hK1, hD1⟩ := hB
    rw [ht] at hP1
    have hP := hP1
    have hD := hD1.weaken (fun _ q _ h => hFc q.1 h)
    have hw : z16_1 = r16 := hw.symm
    subst hw
    generalize H1 = H at hP hS ⊢
    have hP : va_P (dC, dI) classes (wD cB cI o_Model r z16_3 z16_2) H := hP
    have hD : va_D A (wD cB cI o_Model r z16_3 z16_2) := hD
    obtain rfl := Option.some.inj h
    have hP9 := hP
    have hD9 := hD
    have hK9 := hK
    exact W.iret (v := z16_1) hx hb hr (fun t ht hW => ⟨⟨z16_1, (), rfl, rfl, by rw [ht]; exact hP9, va_K.moved hW.alike hK9, hD9⟩, hS.F ht⟩) hS.2.2 d_Model_decimal_146
  · rw [if_pos c7] at h
    refine lv_iconst (v := 3) hx hb d_Model_decimal_69 (by decide) ?_
    obtain rfl := Option.some.inj h
    have hP9 := hP
    have hD9 := hD
    have hK9 := hK
    exact W.iret (v := 3) hx hb hr (fun t ht hW => ⟨⟨3, (), rfl, rfl, by rw [ht]; exact hP9, va_K.moved hW.alike hK9, hD9⟩, hS.F ht⟩) hS.2.2 d_Model_decimal_70

set_option maxHeartbeats 4000000 in
set_option maxRecDepth 100000 in
theorem c_Model_plain (l : Launch) (dC : Nat → ClassId) (dI : Nat → Nat → Nat) (N : Nat) (p0 : Int32) (p1 : Int32) (p2 : Int32) (z : Int32) (h : m_Model_plain N p0 p1 p2 = some z) : Met l y_Model_plain (.code y_Model_plain b_Model_plain 7 (some .int) :: lw_g) ({ frames := 0, cells := 0, slots := 0, locals := 0 }) (va_Pc [.int p0, .int p1, .int p2] (fun U => dz_N U ∧ va_P (dC, dI) classes [] U.heap ∧ va_K (dC, dI) classes [] U)) (vp_Si (fun r => r = z)) 0 0 (fun _ => False) := by
  refine Met.ofW (cc := b_Model_plain) (maxL := 7) (ret := (some .int)) (by decide +kernel) rfl ?_
  intro p e s m args below meth c s₁ B hml hv
  obtain ⟨rfl, hN, hP, hK⟩ := hv
  have hx := B.exec
  have hb := B.bytes
  have hr := B.returns
  have hg : ∀ w ∈ lw_g, w.before _ s = true := fun w hw => atoms_spec (ws := .code y_Model_plain b_Model_plain 7 (some .int) :: lw_g) B.pre w (List.mem_cons_of_mem _ hw)
  have hown : s.vm.findClass R_Model = some m.cls := findClass_of_methodNamed B.named
  have hlocks := B.notSynchronized
  clear B
  have hP : va_P (dC, dI) classes [] s.heap := hP
  have hl := lv_entry ([.int p0, .int p1, .int p2]) (n := 7) (Nat.le_of_ble_eq_true rfl)
  rw [lg_entry_eq]
  generalize (lg_sl ([.int p0, .int p1, .int p2]) ++ List.replicate (7 - (lg_sl ([.int p0, .int p1, .int p2])).length) Slot.unset).toArray = ls at hl ⊢
  have hl : lv_has ls 7 [(0, .int p0), (1, .int p1), (2, .int p2)] := hl
  unfold m_Model_plain at h
  refine lv_iload_n hx hb d_Model_plain_0 rfl (lv_at hl 1 rfl) ?_
  refine lv_i2l (v := p1.toInt64) hx hb d_Model_plain_1 rfl ?_
  refine lv_ldc2 (v := 4294967295) hx hb hown (hg _ k869) d_Model_plain_2 ?_
  refine lv_land hx hb d_Model_plain_5 ?_
  refine lv_lstore_n (lv' := [(3, .long (p1.toInt64 &&& 4294967295)), (0, .int p0), (1, .int p1), (2, .int p2)]) hx hb d_Model_plain_6 rfl hl (by decide) rfl (fun ls hl => ?_)
  refine lv_iload_n hx hb d_Model_plain_7 rfl (lv_at hl 3 rfl) ?_
  refine lv_i2l (v := p2.toInt64) hx hb d_Model_plain_8 rfl ?_
  refine lv_ldc2 (v := 4294967295) hx hb hown (hg _ k869) d_Model_plain_9 ?_
  refine lv_land hx hb d_Model_plain_12 ?_
  refine lv_lstore (lv' := [(5, .long (p2.toInt64 &&& 4294967295)), (3, .long (p1.toInt64 &&& 4294967295)), (0, .int p0), (1, .int p1), (2, .int p2)]) hx hb d_Model_plain_13 hl (by decide) rfl (fun ls hl => ?_)
  refine lv_iload_n hx hb d_Model_plain_15 rfl (lv_at hl 2 rfl) ?_
  by_cases s1_7 : p0 = 7
  · rw [if_pos s1_7] at h
    refine lv_tableIn (off := 92) (tgt := 108) hx hb d_Model_plain_16 (by rw [s1_7]; decide) (by rw [s1_7]; decide) (by rw [s1_7]; decide) (by decide) ?_
    refine lv_iload_n hx hb d_Model_plain_108 rfl (lv_at hl 3 rfl) ?_
    refine lv_iload_n hx hb d_Model_plain_109 rfl (lv_at hl 4 rfl) ?_
    refine lv_icmp_ge (tgt := 117) hx hb d_Model_plain_110 (by decide) (fun c2 => ?_) (fun c2 => ?_)
    · rw [if_pos c2] at h
      refine lv_iconst (v := 0) hx hb d_Model_plain_117 (by decide) ?_
      obtain rfl := Option.some.inj h
      exact W.iret (v := 0) hx hb hr (fun t ht hW => ⟨_, rfl, rfl, ht⟩) (fun _ h => by cases h) d_Model_plain_118
    · rw [if_neg c2] at h
      refine lv_iconst (v := 1) hx hb d_Model_plain_113 (by decide) ?_
      refine lv_goto (tgt := 118) hx hb d_Model_plain_114 (by decide) ?_
      obtain rfl := Option.some.inj h
      exact W.iret (v := 1) hx hb hr (fun t ht hW => ⟨_, rfl, rfl, ht⟩) (fun _ h => by cases h) d_Model_plain_118
  rw [if_neg s1_7] at h
  by_cases s1_8 : p0 = 8
  · rw [if_pos s1_8] at h
    refine lv_tableIn (off := 103) (tgt := 119) hx hb d_Model_plain_16 (by rw [s1_8]; decide) (by rw [s1_8]; decide) (by rw [s1_8]; decide) (by decide) ?_
    refine lv_iload_n hx hb d_Model_plain_119 rfl (lv_at hl 3 rfl) ?_
    refine lv_iload_n hx hb d_Model_plain_120 rfl (lv_at hl 4 rfl) ?_
    refine lv_icmp_le (tgt := 128) hx hb d_Model_plain_121 (by decide) (fun c3 => ?_) (fun c3 => ?_)
    · rw [if_pos c3] at h
      refine lv_iconst (v := 0) hx hb d_Model_plain_128 (by decide) ?_
      obtain rfl := Option.some.inj h
      exact W.iret (v := 0) hx hb hr (fun t ht hW => ⟨_, rfl, rfl, ht⟩) (fun _ h => by cases h) d_Model_plain_129
    · rw [if_neg c3] at h
      refine lv_iconst (v := 1) hx hb d_Model_plain_124 (by decide) ?_
      refine lv_goto (tgt := 129) hx hb d_Model_plain_125 (by decide) ?_
      obtain rfl := Option.some.inj h
      exact W.iret (v := 1) hx hb hr (fun t ht hW => ⟨_, rfl, rfl, ht⟩) (fun _ h => by cases h) d_Model_plain_129
  rw [if_neg s1_8] at h
  by_cases s1_9 : p0 = 9
  · rw [if_pos s1_9] at h
    refine lv_tableIn (off := 114) (tgt := 130) hx hb d_Model_plain_16 (by rw [s1_9]; decide) (by rw [s1_9]; decide) (by rw [s1_9]; decide) (by decide) ?_
    refine lv_iload_n hx hb d_Model_plain_130 rfl (lv_at hl 3 rfl) ?_
    refine lv_iload_n hx hb d_Model_plain_131 rfl (lv_at hl 4 rfl) ?_
    refine lv_icmp_gt (tgt := 139) hx hb d_Model_plain_132 (by decide) (fun c4 => ?_) (fun c4 => ?_)
    · rw [if_pos c4] at h
      refine lv_iconst (v := 0) hx hb d_Model_plain_139 (by decide) ?_
      obtain rfl := Option.some.inj h
      exact W.iret (v := 0) hx hb hr (fun t ht hW => ⟨_, rfl, rfl, ht⟩) (fun _ h => by cases h) d_Model_plain_140
    · rw [if_neg c4] at h
      refine lv_iconst (v := 1) hx hb d_Model_plain_135 (by decide) ?_
      refine lv_goto (tgt := 140) hx hb d_Model_plain_136 (by decide) ?_
      obtain rfl := Option.some.inj h
      exact W.iret (v := 1) hx hb hr (fun t ht hW => ⟨_, rfl, rfl, ht⟩) (fun _ h => by cases h) d_Model_plain_140
  rw [if_neg s1_9] at h
  by_cases s1_10 : p0 = 10
  · rw [if_pos s1_10] at h
    refine lv_tableIn (off := 125) (tgt := 141) hx hb d_Model_plain_16 (by rw [s1_10]; decide) (by rw [s1_10]; decide) (by rw [s1_10]; decide) (by decide) ?_
    refine lv_iload_n hx hb d_Model_plain_141 rfl (lv_at hl 3 rfl) ?_
    refine lv_iload_n hx hb d_Model_plain_142 rfl (lv_at hl 4 rfl) ?_
    refine lv_icmp_lt (tgt := 150) hx hb d_Model_plain_143 (by decide) (fun c5 => ?_) (fun c5 => ?_)
    · rw [if_pos c5] at h
      refine lv_iconst (v := 0) hx hb d_Model_plain_150 (by decide) ?_
      obtain rfl := Option.some.inj h
      exact W.iret (v := 0) hx hb hr (fun t ht hW => ⟨_, rfl, rfl, ht⟩) (fun _ h => by cases h) d_Model_plain_151
    · rw [if_neg c5] at h
      refine lv_iconst (v := 1) hx hb d_Model_plain_146 (by decide) ?_
      refine lv_goto (tgt := 151) hx hb d_Model_plain_147 (by decide) ?_
      obtain rfl := Option.some.inj h
      exact W.iret (v := 1) hx hb hr (fun t ht hW => ⟨_, rfl, rfl, ht⟩) (fun _ h => by cases h) d_Model_plain_151
  rw [if_neg s1_10] at h
  by_cases s1_11 : p0 = 11
  · rw [if_pos s1_11] at h
    refine lv_tableIn (off := 136) (tgt := 152) hx hb d_Model_plain_16 (by rw [s1_11]; decide) (by rw [s1_11]; decide) (by rw [s1_11]; decide) (by decide) ?_
    refine lv_lload_n hx hb d_Model_plain_152 rfl (lv_at hl 1 rfl) ?_
    refine lv_lload hx hb d_Model_plain_153 (lv_at hl 0 rfl) ?_
    refine lv_ladd hx hb d_Model_plain_155 ?_
    refine lv_l2i (v := ((p1.toInt64 &&& 4294967295) + (p2.toInt64 &&& 4294967295)).toInt32) hx hb d_Model_plain_156 rfl ?_
    obtain rfl := Option.some.inj h
    exact W.iret (v := ((p1.toInt64 &&& 4294967295) + (p2.toInt64 &&& 4294967295)).toInt32) hx hb hr (fun t ht hW => ⟨_, rfl, rfl, ht⟩) (fun _ h => by cases h) d_Model_plain_157
  rw [if_neg s1_11] at h
  by_cases s1_12 : p0 = 12
  · rw [if_pos s1_12] at h
    refine lv_tableIn (off := 142) (tgt := 158) hx hb d_Model_plain_16 (by rw [s1_12]; decide) (by rw [s1_12]; decide) (by rw [s1_12]; decide) (by decide) ?_
    refine lv_lload_n hx hb d_Model_plain_158 rfl (lv_at hl 1 rfl) ?_
    refine lv_lload hx hb d_Model_plain_159 (lv_at hl 0 rfl) ?_
    refine lv_lsub hx hb d_Model_plain_161 ?_
    refine lv_l2i (v := ((p1.toInt64 &&& 4294967295) - (p2.toInt64 &&& 4294967295)).toInt32) hx hb d_Model_plain_162 rfl ?_
    obtain rfl := Option.some.inj h
    exact W.iret (v := ((p1.toInt64 &&& 4294967295) - (p2.toInt64 &&& 4294967295)).toInt32) hx hb hr (fun t ht hW => ⟨_, rfl, rfl, ht⟩) (fun _ h => by cases h) d_Model_plain_163
  rw [if_neg s1_12] at h
  by_cases s1_13 : p0 = 13
  · rw [if_pos s1_13] at h
    refine lv_tableIn (off := 148) (tgt := 164) hx hb d_Model_plain_16 (by rw [s1_13]; decide) (by rw [s1_13]; decide) (by rw [s1_13]; decide) (by decide) ?_
    refine lv_lload_n hx hb d_Model_plain_164 rfl (lv_at hl 1 rfl) ?_
    refine lv_lload hx hb d_Model_plain_165 (lv_at hl 0 rfl) ?_
    refine lv_lmul hx hb d_Model_plain_167 ?_
    refine lv_l2i (v := ((p1.toInt64 &&& 4294967295) * (p2.toInt64 &&& 4294967295)).toInt32) hx hb d_Model_plain_168 rfl ?_
    obtain rfl := Option.some.inj h
    exact W.iret (v := ((p1.toInt64 &&& 4294967295) * (p2.toInt64 &&& 4294967295)).toInt32) hx hb hr (fun t ht hW => ⟨_, rfl, rfl, ht⟩) (fun _ h => by cases h) d_Model_plain_169
  rw [if_neg s1_13] at h
  by_cases s1_14 : p0 = 14
  · rw [if_pos s1_14] at h
    refine lv_tableIn (off := 262) (tgt := 278) hx hb d_Model_plain_16 (by rw [s1_14]; decide) (by rw [s1_14]; decide) (by rw [s1_14]; decide) (by decide) ?_
    refine lv_iload_n hx hb d_Model_plain_278 rfl (lv_at hl 3 rfl) ?_
    obtain rfl := Option.some.inj h
    exact W.iret (v := p1) hx hb hr (fun t ht hW => ⟨_, rfl, rfl, ht⟩) (fun _ h => by cases h) d_Model_plain_279
  rw [if_neg s1_14] at h
  by_cases s1_15 : p0 = 15
  · rw [if_pos s1_15] at h
    refine lv_tableIn (off := 262) (tgt := 278) hx hb d_Model_plain_16 (by rw [s1_15]; decide) (by rw [s1_15]; decide) (by rw [s1_15]; decide) (by decide) ?_
    refine lv_iload_n hx hb d_Model_plain_278 rfl (lv_at hl 3 rfl) ?_
    obtain rfl := Option.some.inj h
    exact W.iret (v := p1) hx hb hr (fun t ht hW => ⟨_, rfl, rfl, ht⟩) (fun _ h => by cases h) d_Model_plain_279
  rw [if_neg s1_15] at h
  by_cases s1_16 : p0 = 16
  · rw [if_pos s1_16] at h
    refine lv_tableIn (off := 154) (tgt := 170) hx hb d_Model_plain_16 (by rw [s1_16]; decide) (by rw [s1_16]; decide) (by rw [s1_16]; decide) (by decide) ?_
    refine lv_lload_n hx hb d_Model_plain_170 rfl (lv_at hl 1 rfl) ?_
    refine lv_lload hx hb d_Model_plain_171 (lv_at hl 0 rfl) ?_
    refine W.lcmp hx hb d_Model_plain_173 ?_
    refine lv_if_ge (tgt := 181) hx hb d_Model_plain_174 (by decide) (fun c6 => ?_) (fun c6 => ?_)
    · rw [if_pos c6] at h
      refine lv_iconst (v := 0) hx hb d_Model_plain_181 (by decide) ?_
      obtain rfl := Option.some.inj h
      exact W.iret (v := 0) hx hb hr (fun t ht hW => ⟨_, rfl, rfl, ht⟩) (fun _ h => by cases h) d_Model_plain_182
    · rw [if_neg c6] at h
      refine lv_iconst (v := 1) hx hb d_Model_plain_177 (by decide) ?_
      refine lv_goto (tgt := 182) hx hb d_Model_plain_178 (by decide) ?_
      obtain rfl := Option.some.inj h
      exact W.iret (v := 1) hx hb hr (fun t ht hW => ⟨_, rfl, rfl, ht⟩) (fun _ h => by cases h) d_Model_plain_182
  rw [if_neg s1_16] at h
  by_cases s1_17 : p0 = 17
  · rw [if_pos s1_17] at h
    refine lv_tableIn (off := 167) (tgt := 183) hx hb d_Model_plain_16 (by rw [s1_17]; decide) (by rw [s1_17]; decide) (by rw [s1_17]; decide) (by decide) ?_
    refine lv_lload_n hx hb d_Model_plain_183 rfl (lv_at hl 1 rfl) ?_
    refine lv_lload hx hb d_Model_plain_184 (lv_at hl 0 rfl) ?_
    refine W.lcmp hx hb d_Model_plain_186 ?_
    refine lv_if_le (tgt := 194) hx hb d_Model_plain_187 (by decide) (fun c7 => ?_) (fun c7 => ?_)
    · rw [if_pos c7] at h
      refine lv_iconst (v := 0) hx hb d_Model_plain_194 (by decide) ?_
      obtain rfl := Option.some.inj h
      exact W.iret (v := 0) hx hb hr (fun t ht hW => ⟨_, rfl, rfl, ht⟩) (fun _ h => by cases h) d_Model_plain_195
    · rw [if_neg c7] at h
      refine lv_iconst (v := 1) hx hb d_Model_plain_190 (by decide) ?_
      refine lv_goto (tgt := 195) hx hb d_Model_plain_191 (by decide) ?_
      obtain rfl := Option.some.inj h
      exact W.iret (v := 1) hx hb hr (fun t ht hW => ⟨_, rfl, rfl, ht⟩) (fun _ h => by cases h) d_Model_plain_195
  rw [if_neg s1_17] at h
  by_cases s1_18 : p0 = 18
  · rw [if_pos s1_18] at h
    refine lv_tableIn (off := 180) (tgt := 196) hx hb d_Model_plain_16 (by rw [s1_18]; decide) (by rw [s1_18]; decide) (by rw [s1_18]; decide) (by decide) ?_
    refine lv_lload_n hx hb d_Model_plain_196 rfl (lv_at hl 1 rfl) ?_
    refine lv_lload hx hb d_Model_plain_197 (lv_at hl 0 rfl) ?_
    refine W.lcmp hx hb d_Model_plain_199 ?_
    refine lv_if_gt (tgt := 207) hx hb d_Model_plain_200 (by decide) (fun c8 => ?_) (fun c8 => ?_)
    · rw [if_pos c8] at h
      refine lv_iconst (v := 0) hx hb d_Model_plain_207 (by decide) ?_
      obtain rfl := Option.some.inj h
      exact W.iret (v := 0) hx hb hr (fun t ht hW => ⟨_, rfl, rfl, ht⟩) (fun _ h => by cases h) d_Model_plain_208
    · rw [if_neg c8] at h
      refine lv_iconst (v := 1) hx hb d_Model_plain_203 (by decide) ?_
      refine lv_goto (tgt := 208) hx hb d_Model_plain_204 (by decide) ?_
      obtain rfl := Option.some.inj h
      exact W.iret (v := 1) hx hb hr (fun t ht hW => ⟨_, rfl, rfl, ht⟩) (fun _ h => by cases h) d_Model_plain_208
  rw [if_neg s1_18] at h
  by_cases s1_19 : p0 = 19
  · rw [if_pos s1_19] at h
    refine lv_tableIn (off := 193) (tgt := 209) hx hb d_Model_plain_16 (by rw [s1_19]; decide) (by rw [s1_19]; decide) (by rw [s1_19]; decide) (by decide) ?_
    refine lv_lload_n hx hb d_Model_plain_209 rfl (lv_at hl 1 rfl) ?_
    refine lv_lload hx hb d_Model_plain_210 (lv_at hl 0 rfl) ?_
    refine W.lcmp hx hb d_Model_plain_212 ?_
    refine lv_if_lt (tgt := 220) hx hb d_Model_plain_213 (by decide) (fun c9 => ?_) (fun c9 => ?_)
    · rw [if_pos c9] at h
      refine lv_iconst (v := 0) hx hb d_Model_plain_220 (by decide) ?_
      obtain rfl := Option.some.inj h
      exact W.iret (v := 0) hx hb hr (fun t ht hW => ⟨_, rfl, rfl, ht⟩) (fun _ h => by cases h) d_Model_plain_221
    · rw [if_neg c9] at h
      refine lv_iconst (v := 1) hx hb d_Model_plain_216 (by decide) ?_
      refine lv_goto (tgt := 221) hx hb d_Model_plain_217 (by decide) ?_
      obtain rfl := Option.some.inj h
      exact W.iret (v := 1) hx hb hr (fun t ht hW => ⟨_, rfl, rfl, ht⟩) (fun _ h => by cases h) d_Model_plain_221
  rw [if_neg s1_19] at h
  by_cases s1_20 : p0 = 20
  · rw [if_pos s1_20] at h
    refine lv_tableIn (off := 206) (tgt := 222) hx hb d_Model_plain_16 (by rw [s1_20]; decide) (by rw [s1_20]; decide) (by rw [s1_20]; decide) (by decide) ?_
    refine lv_iload_n hx hb d_Model_plain_222 rfl (lv_at hl 3 rfl) ?_
    refine lv_iload_n hx hb d_Model_plain_223 rfl (lv_at hl 4 rfl) ?_
    refine lv_iand hx hb d_Model_plain_224 ?_
    obtain rfl := Option.some.inj h
    exact W.iret (v := p1 &&& p2) hx hb hr (fun t ht hW => ⟨_, rfl, rfl, ht⟩) (fun _ h => by cases h) d_Model_plain_225
  rw [if_neg s1_20] at h
  by_cases s1_21 : p0 = 21
  · rw [if_pos s1_21] at h
    refine lv_tableIn (off := 210) (tgt := 226) hx hb d_Model_plain_16 (by rw [s1_21]; decide) (by rw [s1_21]; decide) (by rw [s1_21]; decide) (by decide) ?_
    refine lv_iload_n hx hb d_Model_plain_226 rfl (lv_at hl 3 rfl) ?_
    refine lv_iload_n hx hb d_Model_plain_227 rfl (lv_at hl 4 rfl) ?_
    refine lv_ior hx hb d_Model_plain_228 ?_
    obtain rfl := Option.some.inj h
    exact W.iret (v := p1 ||| p2) hx hb hr (fun t ht hW => ⟨_, rfl, rfl, ht⟩) (fun _ h => by cases h) d_Model_plain_229
  rw [if_neg s1_21] at h
  by_cases s1_22 : p0 = 22
  · rw [if_pos s1_22] at h
    refine lv_tableIn (off := 214) (tgt := 230) hx hb d_Model_plain_16 (by rw [s1_22]; decide) (by rw [s1_22]; decide) (by rw [s1_22]; decide) (by decide) ?_
    refine lv_iload_n hx hb d_Model_plain_230 rfl (lv_at hl 3 rfl) ?_
    refine lv_iload_n hx hb d_Model_plain_231 rfl (lv_at hl 4 rfl) ?_
    refine lv_ixor hx hb d_Model_plain_232 ?_
    obtain rfl := Option.some.inj h
    exact W.iret (v := p1 ^^^ p2) hx hb hr (fun t ht hW => ⟨_, rfl, rfl, ht⟩) (fun _ h => by cases h) d_Model_plain_233
  rw [if_neg s1_22] at h
  by_cases s1_23 : p0 = 23
  · rw [if_pos s1_23] at h
    refine lv_tableIn (off := 218) (tgt := 234) hx hb d_Model_plain_16 (by rw [s1_23]; decide) (by rw [s1_23]; decide) (by rw [s1_23]; decide) (by decide) ?_
    refine lv_iload_n hx hb d_Model_plain_234 rfl (lv_at hl 3 rfl) ?_
    refine lv_iconst (v := (-1)) hx hb d_Model_plain_235 (by decide) ?_
    refine lv_ixor hx hb d_Model_plain_236 ?_
    obtain rfl := Option.some.inj h
    exact W.iret (v := p1 ^^^ (-1)) hx hb hr (fun t ht hW => ⟨_, rfl, rfl, ht⟩) (fun _ h => by cases h) d_Model_plain_237
  rw [if_neg s1_23] at h
  by_cases s1_24 : p0 = 24
  · rw [if_pos s1_24] at h
    refine lv_tableIn (off := 222) (tgt := 238) hx hb d_Model_plain_16 (by rw [s1_24]; decide) (by rw [s1_24]; decide) (by rw [s1_24]; decide) (by decide) ?_
    refine lv_lload hx hb d_Model_plain_238 (lv_at hl 0 rfl) ?_
    refine lv_ldc2 (v := 31) hx hb hown (hg _ k885) d_Model_plain_240 ?_
    refine W.lcmp hx hb d_Model_plain_243 ?_
    refine lv_if_le (tgt := 251) hx hb d_Model_plain_244 (by decide) (fun c10 => ?_) (fun c10 => ?_)
    · rw [if_pos c10] at h
      refine lv_lload_n hx hb d_Model_plain_251 rfl (lv_at hl 1 rfl) ?_
      refine lv_lload hx hb d_Model_plain_252 (lv_at hl 0 rfl) ?_
      refine lv_l2i (v := (p2.toInt64 &&& 4294967295).toInt32) hx hb d_Model_plain_254 rfl ?_
      refine lv_lshl (v := (p1.toInt64 &&& 4294967295) <<< (((p2.toInt64 &&& 4294967295).toInt32).toInt64 &&& 63)) hx hb d_Model_plain_255 rfl ?_
      obtain ⟨x11, ex11, h⟩ := dz_lt h
      refine dz_topl ex11 ?_
      refine lv_l2i (v := x11.toInt32) hx hb d_Model_plain_256 rfl ?_
      obtain rfl := Option.some.inj h
      exact W.iret (v := x11.toInt32) hx hb hr (fun t ht hW => ⟨_, rfl, rfl, ht⟩) (fun _ h => by cases h) d_Model_plain_257
    · rw [if_neg c10] at h
      refine lv_iconst (v := 0) hx hb d_Model_plain_247 (by decide) ?_
      refine lv_goto (tgt := 257) hx hb d_Model_plain_248 (by decide) ?_
      obtain rfl := Option.some.inj h
      exact W.iret (v := 0) hx hb hr (fun t ht hW => ⟨_, rfl, rfl, ht⟩) (fun _ h => by cases h) d_Model_plain_257
  rw [if_neg s1_24] at h
  by_cases s1_25 : p0 = 25
  · rw [if_pos s1_25] at h
    refine lv_tableIn (off := 242) (tgt := 258) hx hb d_Model_plain_16 (by rw [s1_25]; decide) (by rw [s1_25]; decide) (by rw [s1_25]; decide) (by decide) ?_
    refine lv_lload hx hb d_Model_plain_258 (lv_at hl 0 rfl) ?_
    refine lv_ldc2 (v := 31) hx hb hown (hg _ k885) d_Model_plain_260 ?_
    refine W.lcmp hx hb d_Model_plain_263 ?_
    refine lv_if_le (tgt := 271) hx hb d_Model_plain_264 (by decide) (fun c12 => ?_) (fun c12 => ?_)
    · rw [if_pos c12] at h
      refine lv_lload_n hx hb d_Model_plain_271 rfl (lv_at hl 1 rfl) ?_
      refine lv_lload hx hb d_Model_plain_272 (lv_at hl 0 rfl) ?_
      refine lv_l2i (v := (p2.toInt64 &&& 4294967295).toInt32) hx hb d_Model_plain_274 rfl ?_
      refine lv_lshr (v := (p1.toInt64 &&& 4294967295) >>> (((p2.toInt64 &&& 4294967295).toInt32).toInt64 &&& 63)) hx hb d_Model_plain_275 rfl ?_
      obtain ⟨x13, ex13, h⟩ := dz_lt h
      refine dz_topl ex13 ?_
      refine lv_l2i (v := x13.toInt32) hx hb d_Model_plain_276 rfl ?_
      obtain rfl := Option.some.inj h
      exact W.iret (v := x13.toInt32) hx hb hr (fun t ht hW => ⟨_, rfl, rfl, ht⟩) (fun _ h => by cases h) d_Model_plain_277
    · rw [if_neg c12] at h
      refine lv_iconst (v := 0) hx hb d_Model_plain_267 (by decide) ?_
      refine lv_goto (tgt := 277) hx hb d_Model_plain_268 (by decide) ?_
      obtain rfl := Option.some.inj h
      exact W.iret (v := 0) hx hb hr (fun t ht hW => ⟨_, rfl, rfl, ht⟩) (fun _ h => by cases h) d_Model_plain_277
  rw [if_neg s1_25] at h
  refine lv_tableOut (tgt := 278) hx hb d_Model_plain_16 (by have q0 := lv_neT s1_7 (a := 7) (by decide); have q1 := lv_neT s1_8 (a := 8) (by decide); have q2 := lv_neT s1_9 (a := 9) (by decide); have q3 := lv_neT s1_10 (a := 10) (by decide); have q4 := lv_neT s1_11 (a := 11) (by decide); have q5 := lv_neT s1_12 (a := 12) (by decide); have q6 := lv_neT s1_13 (a := 13) (by decide); have q7 := lv_neT s1_14 (a := 14) (by decide); have q8 := lv_neT s1_15 (a := 15) (by decide); have q9 := lv_neT s1_16 (a := 16) (by decide); have q10 := lv_neT s1_17 (a := 17) (by decide); have q11 := lv_neT s1_18 (a := 18) (by decide); have q12 := lv_neT s1_19 (a := 19) (by decide); have q13 := lv_neT s1_20 (a := 20) (by decide); have q14 := lv_neT s1_21 (a := 21) (by decide); have q15 := lv_neT s1_22 (a := 22) (by decide); have q16 := lv_neT s1_23 (a := 23) (by decide); have q17 := lv_neT s1_24 (a := 24) (by decide); have q18 := lv_neT s1_25 (a := 25) (by decide); omega) (by decide) ?_
  refine lv_iload_n hx hb d_Model_plain_278 rfl (lv_at hl 3 rfl) ?_
  obtain rfl := Option.some.inj h
  exact W.iret (v := p1) hx hb hr (fun t ht hW => ⟨_, rfl, rfl, ht⟩) (fun _ h => by cases h) d_Model_plain_279
