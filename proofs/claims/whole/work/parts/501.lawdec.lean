theorem d_law_0 : decode b_law 0 = .ok (.new 7, 3) := by decide +kernel
theorem d_law_3 : decode b_law 3 = .ok (.dup, 1) := by decide +kernel
theorem d_law_4 : decode b_law 4 = .ok (.invokespecial 9, 3) := by decide +kernel
theorem d_law_7 : decode b_law 7 = .ok (.astore_n 1, 1) := by decide +kernel
theorem d_law_8 : decode b_law 8 = .ok (.new 10, 3) := by decide +kernel
theorem d_law_11 : decode b_law 11 = .ok (.dup, 1) := by decide +kernel
theorem d_law_12 : decode b_law 12 = .ok (.invokespecial 12, 3) := by decide +kernel
theorem d_law_15 : decode b_law 15 = .ok (.astore_n 2, 1) := by decide +kernel
theorem d_law_16 : decode b_law 16 = .ok (.iconst 0, 1) := by decide +kernel
theorem d_law_17 : decode b_law 17 = .ok (.istore_n 3, 1) := by decide +kernel
theorem d_law_18 : decode b_law 18 = .ok (.iload_n 3, 1) := by decide +kernel
theorem d_law_19 : decode b_law 19 = .ok (.aload_n 0, 1) := by decide +kernel
theorem d_law_20 : decode b_law 20 = .ok (.arraylength, 1) := by decide +kernel
theorem d_law_21 : decode b_law 21 = .ok (.bipush 7, 2) := by decide +kernel
theorem d_law_23 : decode b_law 23 = .ok (.isub, 1) := by decide +kernel
theorem d_law_24 : decode b_law 24 = .ok (.if_icmp .gt 674, 3) := by decide +kernel
theorem d_law_27 : decode b_law 27 = .ok (.aload_n 0, 1) := by decide +kernel
theorem d_law_28 : decode b_law 28 = .ok (.iload_n 3, 1) := by decide +kernel
theorem d_law_29 : decode b_law 29 = .ok (.iaload, 1) := by decide +kernel
theorem d_law_30 : decode b_law 30 = .ok (.bipush 15, 2) := by decide +kernel
theorem d_law_32 : decode b_law 32 = .ok (.iand, 1) := by decide +kernel
theorem d_law_33 : decode b_law 33 = .ok (.tableswitch 659 0 15 #[79, 102, 125, 178, 191, 224, 247, 320, 393, 508, 531, 574, 597, 610, 623, 636], 79) := by decide +kernel
theorem d_law_112 : decode b_law 112 = .ok (.aload_n 1, 1) := by decide +kernel
theorem d_law_113 : decode b_law 113 = .ok (.aload_n 0, 1) := by decide +kernel
theorem d_law_114 : decode b_law 114 = .ok (.iload_n 3, 1) := by decide +kernel
theorem d_law_115 : decode b_law 115 = .ok (.iconst 1, 1) := by decide +kernel
theorem d_law_116 : decode b_law 116 = .ok (.iadd, 1) := by decide +kernel
theorem d_law_117 : decode b_law 117 = .ok (.iaload, 1) := by decide +kernel
theorem d_law_118 : decode b_law 118 = .ok (.invokevirtual 13, 3) := by decide +kernel
theorem d_law_121 : decode b_law 121 = .ok (.aload_n 2, 1) := by decide +kernel
theorem d_law_122 : decode b_law 122 = .ok (.aload_n 0, 1) := by decide +kernel
theorem d_law_123 : decode b_law 123 = .ok (.iload_n 3, 1) := by decide +kernel
theorem d_law_124 : decode b_law 124 = .ok (.iconst 1, 1) := by decide +kernel
theorem d_law_125 : decode b_law 125 = .ok (.iadd, 1) := by decide +kernel
theorem d_law_126 : decode b_law 126 = .ok (.iaload, 1) := by decide +kernel
theorem d_law_127 : decode b_law 127 = .ok (.invokevirtual 17, 3) := by decide +kernel
theorem d_law_130 : decode b_law 130 = .ok (.if_icmp .eq 562, 3) := by decide +kernel
theorem d_law_133 : decode b_law 133 = .ok (.iconst 0, 1) := by decide +kernel
theorem d_law_134 : decode b_law 134 = .ok (.ireturn, 1) := by decide +kernel
theorem d_law_135 : decode b_law 135 = .ok (.aload_n 1, 1) := by decide +kernel
theorem d_law_136 : decode b_law 136 = .ok (.aload_n 0, 1) := by decide +kernel
theorem d_law_137 : decode b_law 137 = .ok (.iload_n 3, 1) := by decide +kernel
theorem d_law_138 : decode b_law 138 = .ok (.iconst 1, 1) := by decide +kernel
theorem d_law_139 : decode b_law 139 = .ok (.iadd, 1) := by decide +kernel
theorem d_law_140 : decode b_law 140 = .ok (.iaload, 1) := by decide +kernel
theorem d_law_141 : decode b_law 141 = .ok (.invokevirtual 18, 3) := by decide +kernel
theorem d_law_144 : decode b_law 144 = .ok (.aload_n 2, 1) := by decide +kernel
theorem d_law_145 : decode b_law 145 = .ok (.aload_n 0, 1) := by decide +kernel
theorem d_law_146 : decode b_law 146 = .ok (.iload_n 3, 1) := by decide +kernel
theorem d_law_147 : decode b_law 147 = .ok (.iconst 1, 1) := by decide +kernel
theorem d_law_148 : decode b_law 148 = .ok (.iadd, 1) := by decide +kernel
theorem d_law_149 : decode b_law 149 = .ok (.iaload, 1) := by decide +kernel
theorem d_law_150 : decode b_law 150 = .ok (.invokevirtual 21, 3) := by decide +kernel
theorem d_law_153 : decode b_law 153 = .ok (.if_icmp .eq 539, 3) := by decide +kernel
theorem d_law_156 : decode b_law 156 = .ok (.iconst 0, 1) := by decide +kernel
theorem d_law_157 : decode b_law 157 = .ok (.ireturn, 1) := by decide +kernel
theorem d_law_158 : decode b_law 158 = .ok (.aload_n 1, 1) := by decide +kernel
theorem d_law_159 : decode b_law 159 = .ok (.aload_n 0, 1) := by decide +kernel
theorem d_law_160 : decode b_law 160 = .ok (.iload_n 3, 1) := by decide +kernel
theorem d_law_161 : decode b_law 161 = .ok (.iconst 1, 1) := by decide +kernel
