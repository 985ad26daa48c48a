theorem d_Model_plain_0 : decode b_Model_plain 0 = .ok (.iload_n 1, 1) := by decide +kernel
theorem d_Model_plain_1 : decode b_Model_plain 1 = .ok (.i2l, 1) := by decide +kernel
theorem d_Model_plain_2 : decode b_Model_plain 2 = .ok (.ldc2_w 375, 3) := by decide +kernel
theorem d_Model_plain_5 : decode b_Model_plain 5 = .ok (.land, 1) := by decide +kernel
theorem d_Model_plain_6 : decode b_Model_plain 6 = .ok (.lstore_n 3, 1) := by decide +kernel
theorem d_Model_plain_7 : decode b_Model_plain 7 = .ok (.iload_n 2, 1) := by decide +kernel
theorem d_Model_plain_8 : decode b_Model_plain 8 = .ok (.i2l, 1) := by decide +kernel
theorem d_Model_plain_9 : decode b_Model_plain 9 = .ok (.ldc2_w 375, 3) := by decide +kernel
theorem d_Model_plain_12 : decode b_Model_plain 12 = .ok (.land, 1) := by decide +kernel
theorem d_Model_plain_13 : decode b_Model_plain 13 = .ok (.lstore 5, 2) := by decide +kernel
theorem d_Model_plain_15 : decode b_Model_plain 15 = .ok (.iload_n 0, 1) := by decide +kernel
theorem d_Model_plain_16 : decode b_Model_plain 16 = .ok (.tableswitch 262 7 25 #[92, 103, 114, 125, 136, 142, 148, 262, 262, 154, 167, 180, 193, 206, 210, 214, 218, 222, 242], 92) := by decide +kernel
theorem d_Model_plain_108 : decode b_Model_plain 108 = .ok (.iload_n 1, 1) := by decide +kernel
theorem d_Model_plain_109 : decode b_Model_plain 109 = .ok (.iload_n 2, 1) := by decide +kernel
theorem d_Model_plain_110 : decode b_Model_plain 110 = .ok (.if_icmp .ge 7, 3) := by decide +kernel
theorem d_Model_plain_113 : decode b_Model_plain 113 = .ok (.iconst 1, 1) := by decide +kernel
theorem d_Model_plain_114 : decode b_Model_plain 114 = .ok (.goto 4, 3) := by decide +kernel
theorem d_Model_plain_117 : decode b_Model_plain 117 = .ok (.iconst 0, 1) := by decide +kernel
theorem d_Model_plain_118 : decode b_Model_plain 118 = .ok (.ireturn, 1) := by decide +kernel
theorem d_Model_plain_119 : decode b_Model_plain 119 = .ok (.iload_n 1, 1) := by decide +kernel
theorem d_Model_plain_120 : decode b_Model_plain 120 = .ok (.iload_n 2, 1) := by decide +kernel
theorem d_Model_plain_121 : decode b_Model_plain 121 = .ok (.if_icmp .le 7, 3) := by decide +kernel
theorem d_Model_plain_124 : decode b_Model_plain 124 = .ok (.iconst 1, 1) := by decide +kernel
theorem d_Model_plain_125 : decode b_Model_plain 125 = .ok (.goto 4, 3) := by decide +kernel
theorem d_Model_plain_128 : decode b_Model_plain 128 = .ok (.iconst 0, 1) := by decide +kernel
theorem d_Model_plain_129 : decode b_Model_plain 129 = .ok (.ireturn, 1) := by decide +kernel
theorem d_Model_plain_130 : decode b_Model_plain 130 = .ok (.iload_n 1, 1) := by decide +kernel
theorem d_Model_plain_131 : decode b_Model_plain 131 = .ok (.iload_n 2, 1) := by decide +kernel
theorem d_Model_plain_132 : decode b_Model_plain 132 = .ok (.if_icmp .gt 7, 3) := by decide +kernel
theorem d_Model_plain_135 : decode b_Model_plain 135 = .ok (.iconst 1, 1) := by decide +kernel
theorem d_Model_plain_136 : decode b_Model_plain 136 = .ok (.goto 4, 3) := by decide +kernel
theorem d_Model_plain_139 : decode b_Model_plain 139 = .ok (.iconst 0, 1) := by decide +kernel
theorem d_Model_plain_140 : decode b_Model_plain 140 = .ok (.ireturn, 1) := by decide +kernel
theorem d_Model_plain_141 : decode b_Model_plain 141 = .ok (.iload_n 1, 1) := by decide +kernel
theorem d_Model_plain_142 : decode b_Model_plain 142 = .ok (.iload_n 2, 1) := by decide +kernel
theorem d_Model_plain_143 : decode b_Model_plain 143 = .ok (.if_icmp .lt 7, 3) := by decide +kernel
theorem d_Model_plain_146 : decode b_Model_plain 146 = .ok (.iconst 1, 1) := by decide +kernel
theorem d_Model_plain_147 : decode b_Model_plain 147 = .ok (.goto 4, 3) := by decide +kernel
theorem d_Model_plain_150 : decode b_Model_plain 150 = .ok (.iconst 0, 1) := by decide +kernel
theorem d_Model_plain_151 : decode b_Model_plain 151 = .ok (.ireturn, 1) := by decide +kernel
theorem d_Model_plain_152 : decode b_Model_plain 152 = .ok (.lload_n 3, 1) := by decide +kernel
theorem d_Model_plain_153 : decode b_Model_plain 153 = .ok (.lload 5, 2) := by decide +kernel
theorem d_Model_plain_155 : decode b_Model_plain 155 = .ok (.ladd, 1) := by decide +kernel
theorem d_Model_plain_156 : decode b_Model_plain 156 = .ok (.l2i, 1) := by decide +kernel
theorem d_Model_plain_157 : decode b_Model_plain 157 = .ok (.ireturn, 1) := by decide +kernel
theorem d_Model_plain_158 : decode b_Model_plain 158 = .ok (.lload_n 3, 1) := by decide +kernel
theorem d_Model_plain_159 : decode b_Model_plain 159 = .ok (.lload 5, 2) := by decide +kernel
theorem d_Model_plain_161 : decode b_Model_plain 161 = .ok (.lsub, 1) := by decide +kernel
theorem d_Model_plain_162 : decode b_Model_plain 162 = .ok (.l2i, 1) := by decide +kernel
theorem d_Model_plain_163 : decode b_Model_plain 163 = .ok (.ireturn, 1) := by decide +kernel
theorem d_Model_plain_164 : decode b_Model_plain 164 = .ok (.lload_n 3, 1) := by decide +kernel
theorem d_Model_plain_165 : decode b_Model_plain 165 = .ok (.lload 5, 2) := by decide +kernel
theorem d_Model_plain_167 : decode b_Model_plain 167 = .ok (.lmul, 1) := by decide +kernel
theorem d_Model_plain_168 : decode b_Model_plain 168 = .ok (.l2i, 1) := by decide +kernel
theorem d_Model_plain_169 : decode b_Model_plain 169 = .ok (.ireturn, 1) := by decide +kernel
theorem d_Model_plain_170 : decode b_Model_plain 170 = .ok (.lload_n 3, 1) := by decide +kernel
theorem d_Model_plain_171 : decode b_Model_plain 171 = .ok (.lload 5, 2) := by decide +kernel
theorem d_Model_plain_173 : decode b_Model_plain 173 = .ok (.lcmp, 1) := by decide +kernel
theorem d_Model_plain_174 : decode b_Model_plain 174 = .ok (.ifCond .ge 7, 3) := by decide +kernel
theorem d_Model_plain_177 : decode b_Model_plain 177 = .ok (.iconst 1, 1) := by decide +kernel
theorem d_Model_plain_178 : decode b_Model_plain 178 = .ok (.goto 4, 3) := by decide +kernel
theorem d_Model_plain_181 : decode b_Model_plain 181 = .ok (.iconst 0, 1) := by decide +kernel
theorem d_Model_plain_182 : decode b_Model_plain 182 = .ok (.ireturn, 1) := by decide +kernel
theorem d_Model_plain_183 : decode b_Model_plain 183 = .ok (.lload_n 3, 1) := by decide +kernel
theorem d_Model_plain_184 : decode b_Model_plain 184 = .ok (.lload 5, 2) := by decide +kernel
theorem d_Model_plain_186 : decode b_Model_plain 186 = .ok (.lcmp, 1) := by decide +kernel
theorem d_Model_plain_187 : decode b_Model_plain 187 = .ok (.ifCond .le 7, 3) := by decide +kernel
theorem d_Model_plain_190 : decode b_Model_plain 190 = .ok (.iconst 1, 1) := by decide +kernel
theorem d_Model_plain_191 : decode b_Model_plain 191 = .ok (.goto 4, 3) := by decide +kernel
theorem d_Model_plain_194 : decode b_Model_plain 194 = .ok (.iconst 0, 1) := by decide +kernel
