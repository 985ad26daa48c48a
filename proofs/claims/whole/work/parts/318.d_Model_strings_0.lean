theorem d_Model_strings_0 : decode b_Model_strings 0 = .ok (.iload_n 1, 1) := by decide +kernel
theorem d_Model_strings_1 : decode b_Model_strings 1 = .ok (.tableswitch 309 27 41 #[75, 104, 309, 140, 175, 309, 309, 309, 309, 309, 256, 309, 309, 280, 285], 75) := by decide +kernel
theorem d_Model_strings_76 : decode b_Model_strings 76 = .ok (.aload_n 0, 1) := by decide +kernel
theorem d_Model_strings_77 : decode b_Model_strings 77 = .ok (.iconst 1, 1) := by decide +kernel
theorem d_Model_strings_78 : decode b_Model_strings 78 = .ok (.bipush 6, 2) := by decide +kernel
theorem d_Model_strings_80 : decode b_Model_strings 80 = .ok (.invokevirtual 246, 3) := by decide +kernel
theorem d_Model_strings_83 : decode b_Model_strings 83 = .ok (.ifCond .eq 20, 3) := by decide +kernel
theorem d_Model_strings_86 : decode b_Model_strings 86 = .ok (.aload_n 0, 1) := by decide +kernel
theorem d_Model_strings_87 : decode b_Model_strings 87 = .ok (.iconst 2, 1) := by decide +kernel
theorem d_Model_strings_88 : decode b_Model_strings 88 = .ok (.bipush 6, 2) := by decide +kernel
theorem d_Model_strings_90 : decode b_Model_strings 90 = .ok (.invokevirtual 246, 3) := by decide +kernel
theorem d_Model_strings_93 : decode b_Model_strings 93 = .ok (.ifCond .eq 10, 3) := by decide +kernel
theorem d_Model_strings_96 : decode b_Model_strings 96 = .ok (.aload_n 0, 1) := by decide +kernel
theorem d_Model_strings_97 : decode b_Model_strings 97 = .ok (.invokevirtual 386, 3) := by decide +kernel
theorem d_Model_strings_100 : decode b_Model_strings 100 = .ok (.goto 4, 3) := by decide +kernel
theorem d_Model_strings_103 : decode b_Model_strings 103 = .ok (.iconst 4, 1) := by decide +kernel
theorem d_Model_strings_104 : decode b_Model_strings 104 = .ok (.ireturn, 1) := by decide +kernel
theorem d_Model_strings_105 : decode b_Model_strings 105 = .ok (.aload_n 0, 1) := by decide +kernel
theorem d_Model_strings_106 : decode b_Model_strings 106 = .ok (.iconst 2, 1) := by decide +kernel
theorem d_Model_strings_107 : decode b_Model_strings 107 = .ok (.aload_n 0, 1) := by decide +kernel
theorem d_Model_strings_108 : decode b_Model_strings 108 = .ok (.iconst 1, 1) := by decide +kernel
theorem d_Model_strings_109 : decode b_Model_strings 109 = .ok (.bipush 6, 2) := by decide +kernel
theorem d_Model_strings_111 : decode b_Model_strings 111 = .ok (.invokevirtual 246, 3) := by decide +kernel
theorem d_Model_strings_114 : decode b_Model_strings 114 = .ok (.ifCond .eq 22, 3) := by decide +kernel
theorem d_Model_strings_117 : decode b_Model_strings 117 = .ok (.aload_n 0, 1) := by decide +kernel
theorem d_Model_strings_118 : decode b_Model_strings 118 = .ok (.iconst 1, 1) := by decide +kernel
theorem d_Model_strings_119 : decode b_Model_strings 119 = .ok (.iconst 0, 1) := by decide +kernel
theorem d_Model_strings_120 : decode b_Model_strings 120 = .ok (.aload_n 0, 1) := by decide +kernel
theorem d_Model_strings_121 : decode b_Model_strings 121 = .ok (.getfield 14, 3) := by decide +kernel
theorem d_Model_strings_124 : decode b_Model_strings 124 = .ok (.aload_n 0, 1) := by decide +kernel
theorem d_Model_strings_125 : decode b_Model_strings 125 = .ok (.iconst 1, 1) := by decide +kernel
theorem d_Model_strings_126 : decode b_Model_strings 126 = .ok (.invokevirtual 250, 3) := by decide +kernel
theorem d_Model_strings_129 : decode b_Model_strings 129 = .ok (.iaload, 1) := by decide +kernel
theorem d_Model_strings_130 : decode b_Model_strings 130 = .ok (.invokevirtual 207, 3) := by decide +kernel
theorem d_Model_strings_133 : decode b_Model_strings 133 = .ok (.goto 4, 3) := by decide +kernel
theorem d_Model_strings_136 : decode b_Model_strings 136 = .ok (.iconst 4, 1) := by decide +kernel
theorem d_Model_strings_137 : decode b_Model_strings 137 = .ok (.invokevirtual 228, 3) := by decide +kernel
theorem d_Model_strings_140 : decode b_Model_strings 140 = .ok (.ireturn, 1) := by decide +kernel
theorem d_Model_strings_141 : decode b_Model_strings 141 = .ok (.aload_n 0, 1) := by decide +kernel
theorem d_Model_strings_142 : decode b_Model_strings 142 = .ok (.iconst 3, 1) := by decide +kernel
theorem d_Model_strings_143 : decode b_Model_strings 143 = .ok (.bipush 6, 2) := by decide +kernel
theorem d_Model_strings_145 : decode b_Model_strings 145 = .ok (.invokevirtual 246, 3) := by decide +kernel
theorem d_Model_strings_148 : decode b_Model_strings 148 = .ok (.ifCond .eq 26, 3) := by decide +kernel
theorem d_Model_strings_151 : decode b_Model_strings 151 = .ok (.aload_n 0, 1) := by decide +kernel
theorem d_Model_strings_152 : decode b_Model_strings 152 = .ok (.iconst 2, 1) := by decide +kernel
theorem d_Model_strings_153 : decode b_Model_strings 153 = .ok (.invokevirtual 256, 3) := by decide +kernel
theorem d_Model_strings_156 : decode b_Model_strings 156 = .ok (.ifCond .eq 18, 3) := by decide +kernel
theorem d_Model_strings_159 : decode b_Model_strings 159 = .ok (.aload_n 0, 1) := by decide +kernel
theorem d_Model_strings_160 : decode b_Model_strings 160 = .ok (.iconst 1, 1) := by decide +kernel
theorem d_Model_strings_161 : decode b_Model_strings 161 = .ok (.invokevirtual 256, 3) := by decide +kernel
theorem d_Model_strings_164 : decode b_Model_strings 164 = .ok (.ifCond .eq 10, 3) := by decide +kernel
theorem d_Model_strings_167 : decode b_Model_strings 167 = .ok (.aload_n 0, 1) := by decide +kernel
theorem d_Model_strings_168 : decode b_Model_strings 168 = .ok (.invokevirtual 389, 3) := by decide +kernel
theorem d_Model_strings_171 : decode b_Model_strings 171 = .ok (.goto 4, 3) := by decide +kernel
theorem d_Model_strings_174 : decode b_Model_strings 174 = .ok (.iconst 4, 1) := by decide +kernel
theorem d_Model_strings_175 : decode b_Model_strings 175 = .ok (.ireturn, 1) := by decide +kernel
theorem d_Model_strings_176 : decode b_Model_strings 176 = .ok (.aload_n 0, 1) := by decide +kernel
theorem d_Model_strings_177 : decode b_Model_strings 177 = .ok (.iconst 2, 1) := by decide +kernel
theorem d_Model_strings_178 : decode b_Model_strings 178 = .ok (.bipush 6, 2) := by decide +kernel
theorem d_Model_strings_180 : decode b_Model_strings 180 = .ok (.invokevirtual 246, 3) := by decide +kernel
theorem d_Model_strings_183 : decode b_Model_strings 183 = .ok (.ifCond .eq 11, 3) := by decide +kernel
theorem d_Model_strings_186 : decode b_Model_strings 186 = .ok (.aload_n 0, 1) := by decide +kernel
theorem d_Model_strings_187 : decode b_Model_strings 187 = .ok (.iconst 1, 1) := by decide +kernel
theorem d_Model_strings_188 : decode b_Model_strings 188 = .ok (.invokevirtual 256, 3) := by decide +kernel
theorem d_Model_strings_191 : decode b_Model_strings 191 = .ok (.ifCond .ne 5, 3) := by decide +kernel
theorem d_Model_strings_194 : decode b_Model_strings 194 = .ok (.iconst 4, 1) := by decide +kernel
theorem d_Model_strings_195 : decode b_Model_strings 195 = .ok (.ireturn, 1) := by decide +kernel
theorem d_Model_strings_196 : decode b_Model_strings 196 = .ok (.aload_n 0, 1) := by decide +kernel
theorem d_Model_strings_197 : decode b_Model_strings 197 = .ok (.iconst 1, 1) := by decide +kernel
theorem d_Model_strings_198 : decode b_Model_strings 198 = .ok (.invokevirtual 250, 3) := by decide +kernel
