theorem d_Model_others_0 : decode b_Model_others 0 = .ok (.iload_n 2, 1) := by decide +kernel
theorem d_Model_others_1 : decode b_Model_others 1 = .ok (.tableswitch 478 26 38 #[67, 78, 124, 175, 186, 196, 261, 287, 311, 317, 353, 401, 412], 67) := by decide +kernel
theorem d_Model_others_68 : decode b_Model_others 68 = .ok (.aload_n 0, 1) := by decide +kernel
theorem d_Model_others_69 : decode b_Model_others 69 = .ok (.iconst 2, 1) := by decide +kernel
theorem d_Model_others_70 : decode b_Model_others 70 = .ok (.aload_n 0, 1) := by decide +kernel
theorem d_Model_others_71 : decode b_Model_others 71 = .ok (.iload_n 3, 1) := by decide +kernel
theorem d_Model_others_72 : decode b_Model_others 72 = .ok (.invokevirtual 280, 3) := by decide +kernel
theorem d_Model_others_75 : decode b_Model_others 75 = .ok (.invokevirtual 228, 3) := by decide +kernel
theorem d_Model_others_78 : decode b_Model_others 78 = .ok (.ireturn, 1) := by decide +kernel
theorem d_Model_others_79 : decode b_Model_others 79 = .ok (.aload_n 0, 1) := by decide +kernel
theorem d_Model_others_80 : decode b_Model_others 80 = .ok (.getfield 182, 3) := by decide +kernel
theorem d_Model_others_83 : decode b_Model_others 83 = .ok (.ifCond .eq 23, 3) := by decide +kernel
theorem d_Model_others_86 : decode b_Model_others 86 = .ok (.aload_n 0, 1) := by decide +kernel
theorem d_Model_others_87 : decode b_Model_others 87 = .ok (.getfield 69, 3) := by decide +kernel
theorem d_Model_others_90 : decode b_Model_others 90 = .ok (.aload_n 0, 1) := by decide +kernel
theorem d_Model_others_91 : decode b_Model_others 91 = .ok (.getfield 182, 3) := by decide +kernel
theorem d_Model_others_94 : decode b_Model_others 94 = .ok (.iconst 1, 1) := by decide +kernel
theorem d_Model_others_95 : decode b_Model_others 95 = .ok (.isub, 1) := by decide +kernel
theorem d_Model_others_96 : decode b_Model_others 96 = .ok (.iaload, 1) := by decide +kernel
theorem d_Model_others_97 : decode b_Model_others 97 = .ok (.aload_n 0, 1) := by decide +kernel
theorem d_Model_others_98 : decode b_Model_others 98 = .ok (.getfield 142, 3) := by decide +kernel
theorem d_Model_others_101 : decode b_Model_others 101 = .ok (.iconst 1, 1) := by decide +kernel
theorem d_Model_others_102 : decode b_Model_others 102 = .ok (.isub, 1) := by decide +kernel
theorem d_Model_others_103 : decode b_Model_others 103 = .ok (.if_icmp .eq 5, 3) := by decide +kernel
theorem d_Model_others_106 : decode b_Model_others 106 = .ok (.iconst 4, 1) := by decide +kernel
theorem d_Model_others_107 : decode b_Model_others 107 = .ok (.ireturn, 1) := by decide +kernel
theorem d_Model_others_108 : decode b_Model_others 108 = .ok (.aload_n 0, 1) := by decide +kernel
theorem d_Model_others_109 : decode b_Model_others 109 = .ok (.dup, 1) := by decide +kernel
theorem d_Model_others_110 : decode b_Model_others 110 = .ok (.getfield 182, 3) := by decide +kernel
theorem d_Model_others_113 : decode b_Model_others 113 = .ok (.iconst 1, 1) := by decide +kernel
theorem d_Model_others_114 : decode b_Model_others 114 = .ok (.isub, 1) := by decide +kernel
theorem d_Model_others_115 : decode b_Model_others 115 = .ok (.putfield 182, 3) := by decide +kernel
theorem d_Model_others_118 : decode b_Model_others 118 = .ok (.aload_n 0, 1) := by decide +kernel
theorem d_Model_others_119 : decode b_Model_others 119 = .ok (.iconst 1, 1) := by decide +kernel
theorem d_Model_others_120 : decode b_Model_others 120 = .ok (.iconst 5, 1) := by decide +kernel
theorem d_Model_others_121 : decode b_Model_others 121 = .ok (.invokevirtual 228, 3) := by decide +kernel
theorem d_Model_others_124 : decode b_Model_others 124 = .ok (.ireturn, 1) := by decide +kernel
theorem d_Model_others_125 : decode b_Model_others 125 = .ok (.aload_n 0, 1) := by decide +kernel
theorem d_Model_others_126 : decode b_Model_others 126 = .ok (.iconst 1, 1) := by decide +kernel
theorem d_Model_others_127 : decode b_Model_others 127 = .ok (.invokevirtual 283, 3) := by decide +kernel
theorem d_Model_others_130 : decode b_Model_others 130 = .ok (.ifCond .ne 13, 3) := by decide +kernel
theorem d_Model_others_133 : decode b_Model_others 133 = .ok (.aload_n 0, 1) := by decide +kernel
theorem d_Model_others_134 : decode b_Model_others 134 = .ok (.iconst 1, 1) := by decide +kernel
theorem d_Model_others_135 : decode b_Model_others 135 = .ok (.bipush 7, 2) := by decide +kernel
theorem d_Model_others_137 : decode b_Model_others 137 = .ok (.invokevirtual 246, 3) := by decide +kernel
theorem d_Model_others_140 : decode b_Model_others 140 = .ok (.ifCond .eq 34, 3) := by decide +kernel
theorem d_Model_others_143 : decode b_Model_others 143 = .ok (.aload_n 0, 1) := by decide +kernel
theorem d_Model_others_144 : decode b_Model_others 144 = .ok (.iconst 1, 1) := by decide +kernel
theorem d_Model_others_145 : decode b_Model_others 145 = .ok (.aload_n 0, 1) := by decide +kernel
theorem d_Model_others_146 : decode b_Model_others 146 = .ok (.getfield 63, 3) := by decide +kernel
theorem d_Model_others_149 : decode b_Model_others 149 = .ok (.aload_n 0, 1) := by decide +kernel
theorem d_Model_others_150 : decode b_Model_others 150 = .ok (.getfield 135, 3) := by decide +kernel
theorem d_Model_others_153 : decode b_Model_others 153 = .ok (.iconst 1, 1) := by decide +kernel
theorem d_Model_others_154 : decode b_Model_others 154 = .ok (.isub, 1) := by decide +kernel
theorem d_Model_others_155 : decode b_Model_others 155 = .ok (.iaload, 1) := by decide +kernel
theorem d_Model_others_156 : decode b_Model_others 156 = .ok (.aload_n 0, 1) := by decide +kernel
theorem d_Model_others_157 : decode b_Model_others 157 = .ok (.getfield 66, 3) := by decide +kernel
theorem d_Model_others_160 : decode b_Model_others 160 = .ok (.aload_n 0, 1) := by decide +kernel
theorem d_Model_others_161 : decode b_Model_others 161 = .ok (.getfield 135, 3) := by decide +kernel
theorem d_Model_others_164 : decode b_Model_others 164 = .ok (.iconst 1, 1) := by decide +kernel
theorem d_Model_others_165 : decode b_Model_others 165 = .ok (.isub, 1) := by decide +kernel
theorem d_Model_others_166 : decode b_Model_others 166 = .ok (.iaload, 1) := by decide +kernel
theorem d_Model_others_167 : decode b_Model_others 167 = .ok (.iconst 1, 1) := by decide +kernel
theorem d_Model_others_168 : decode b_Model_others 168 = .ok (.invokevirtual 286, 3) := by decide +kernel
theorem d_Model_others_171 : decode b_Model_others 171 = .ok (.goto 4, 3) := by decide +kernel
theorem d_Model_others_174 : decode b_Model_others 174 = .ok (.iconst 4, 1) := by decide +kernel
theorem d_Model_others_175 : decode b_Model_others 175 = .ok (.ireturn, 1) := by decide +kernel
theorem d_Model_others_176 : decode b_Model_others 176 = .ok (.aload_n 0, 1) := by decide +kernel
theorem d_Model_others_177 : decode b_Model_others 177 = .ok (.iconst 2, 1) := by decide +kernel
theorem d_Model_others_178 : decode b_Model_others 178 = .ok (.aload_n 0, 1) := by decide +kernel
