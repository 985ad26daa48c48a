theorem d_Model_find_0 : decode b_Model_find 0 = .ok (.iload_n 1, 1) := by decide +kernel
theorem d_Model_find_1 : decode b_Model_find 1 = .ok (.iconst (-1), 1) := by decide +kernel
theorem d_Model_find_2 : decode b_Model_find 2 = .ok (.if_icmp .lt 10, 3) := by decide +kernel
theorem d_Model_find_5 : decode b_Model_find 5 = .ok (.iload_n 1, 1) := by decide +kernel
theorem d_Model_find_6 : decode b_Model_find 6 = .ok (.sipush 2048, 3) := by decide +kernel
theorem d_Model_find_9 : decode b_Model_find 9 = .ok (.if_icmp .lt 5, 3) := by decide +kernel
theorem d_Model_find_12 : decode b_Model_find 12 = .ok (.iconst 0, 1) := by decide +kernel
theorem d_Model_find_13 : decode b_Model_find 13 = .ok (.ireturn, 1) := by decide +kernel
theorem d_Model_find_14 : decode b_Model_find 14 = .ok (.aload_n 0, 1) := by decide +kernel
theorem d_Model_find_15 : decode b_Model_find 15 = .ok (.iload_n 1, 1) := by decide +kernel
theorem d_Model_find_16 : decode b_Model_find 16 = .ok (.ifCond .ge 10, 3) := by decide +kernel
theorem d_Model_find_19 : decode b_Model_find 19 = .ok (.aload_n 0, 1) := by decide +kernel
theorem d_Model_find_20 : decode b_Model_find 20 = .ok (.getfield 145, 3) := by decide +kernel
theorem d_Model_find_23 : decode b_Model_find 23 = .ok (.goto 9, 3) := by decide +kernel
theorem d_Model_find_26 : decode b_Model_find 26 = .ok (.aload_n 0, 1) := by decide +kernel
theorem d_Model_find_27 : decode b_Model_find 27 = .ok (.getfield 20, 3) := by decide +kernel
theorem d_Model_find_30 : decode b_Model_find 30 = .ok (.iload_n 1, 1) := by decide +kernel
theorem d_Model_find_31 : decode b_Model_find 31 = .ok (.iaload, 1) := by decide +kernel
theorem d_Model_find_32 : decode b_Model_find 32 = .ok (.putfield 407, 3) := by decide +kernel
theorem d_Model_find_35 : decode b_Model_find 35 = .ok (.aload_n 0, 1) := by decide +kernel
theorem d_Model_find_36 : decode b_Model_find 36 = .ok (.iload_n 1, 1) := by decide +kernel
theorem d_Model_find_37 : decode b_Model_find 37 = .ok (.ifCond .ge 10, 3) := by decide +kernel
theorem d_Model_find_40 : decode b_Model_find 40 = .ok (.aload_n 0, 1) := by decide +kernel
theorem d_Model_find_41 : decode b_Model_find 41 = .ok (.getfield 148, 3) := by decide +kernel
theorem d_Model_find_44 : decode b_Model_find 44 = .ok (.goto 9, 3) := by decide +kernel
theorem d_Model_find_47 : decode b_Model_find 47 = .ok (.aload_n 0, 1) := by decide +kernel
theorem d_Model_find_48 : decode b_Model_find 48 = .ok (.getfield 23, 3) := by decide +kernel
theorem d_Model_find_51 : decode b_Model_find 51 = .ok (.iload_n 1, 1) := by decide +kernel
theorem d_Model_find_52 : decode b_Model_find 52 = .ok (.iaload, 1) := by decide +kernel
theorem d_Model_find_53 : decode b_Model_find 53 = .ok (.putfield 410, 3) := by decide +kernel
theorem d_Model_find_56 : decode b_Model_find 56 = .ok (.iconst 0, 1) := by decide +kernel
theorem d_Model_find_57 : decode b_Model_find 57 = .ok (.istore 4, 2) := by decide +kernel
theorem d_Model_find_59 : decode b_Model_find 59 = .ok (.iload 4, 2) := by decide +kernel
theorem d_Model_find_61 : decode b_Model_find 61 = .ok (.bipush 64, 2) := by decide +kernel
theorem d_Model_find_63 : decode b_Model_find 63 = .ok (.if_icmp .ge 87, 3) := by decide +kernel
theorem d_Model_find_66 : decode b_Model_find 66 = .ok (.lload_n 2, 1) := by decide +kernel
theorem d_Model_find_67 : decode b_Model_find 67 = .ok (.iload 4, 2) := by decide +kernel
theorem d_Model_find_69 : decode b_Model_find 69 = .ok (.lshr, 1) := by decide +kernel
theorem d_Model_find_70 : decode b_Model_find 70 = .ok (.ldc2_w 174, 3) := by decide +kernel
theorem d_Model_find_73 : decode b_Model_find 73 = .ok (.land, 1) := by decide +kernel
theorem d_Model_find_74 : decode b_Model_find 74 = .ok (.lconst 0, 1) := by decide +kernel
theorem d_Model_find_75 : decode b_Model_find 75 = .ok (.lcmp, 1) := by decide +kernel
theorem d_Model_find_76 : decode b_Model_find 76 = .ok (.ifCond .eq 74, 3) := by decide +kernel
theorem d_Model_find_79 : decode b_Model_find 79 = .ok (.lload_n 2, 1) := by decide +kernel
theorem d_Model_find_80 : decode b_Model_find 80 = .ok (.iload 4, 2) := by decide +kernel
theorem d_Model_find_82 : decode b_Model_find 82 = .ok (.lshr, 1) := by decide +kernel
theorem d_Model_find_83 : decode b_Model_find 83 = .ok (.ldc2_w 174, 3) := by decide +kernel
theorem d_Model_find_86 : decode b_Model_find 86 = .ok (.land, 1) := by decide +kernel
theorem d_Model_find_87 : decode b_Model_find 87 = .ok (.l2i, 1) := by decide +kernel
theorem d_Model_find_88 : decode b_Model_find 88 = .ok (.istore 5, 2) := by decide +kernel
theorem d_Model_find_90 : decode b_Model_find 90 = .ok (.aload_n 0, 1) := by decide +kernel
theorem d_Model_find_91 : decode b_Model_find 91 = .ok (.getfield 407, 3) := by decide +kernel
theorem d_Model_find_94 : decode b_Model_find 94 = .ok (.iconst 2, 1) := by decide +kernel
theorem d_Model_find_95 : decode b_Model_find 95 = .ok (.if_icmp .ne 16, 3) := by decide +kernel
theorem d_Model_find_98 : decode b_Model_find 98 = .ok (.iload 5, 2) := by decide +kernel
theorem d_Model_find_100 : decode b_Model_find 100 = .ok (.aload_n 0, 1) := by decide +kernel
theorem d_Model_find_101 : decode b_Model_find 101 = .ok (.aload_n 0, 1) := by decide +kernel
theorem d_Model_find_102 : decode b_Model_find 102 = .ok (.getfield 410, 3) := by decide +kernel
theorem d_Model_find_105 : decode b_Model_find 105 = .ok (.invokevirtual 106, 3) := by decide +kernel
theorem d_Model_find_108 : decode b_Model_find 108 = .ok (.if_icmp .le 5, 3) := by decide +kernel
theorem d_Model_find_111 : decode b_Model_find 111 = .ok (.iconst 0, 1) := by decide +kernel
theorem d_Model_find_112 : decode b_Model_find 112 = .ok (.ireturn, 1) := by decide +kernel
theorem d_Model_find_113 : decode b_Model_find 113 = .ok (.aload_n 0, 1) := by decide +kernel
theorem d_Model_find_114 : decode b_Model_find 114 = .ok (.getfield 410, 3) := by decide +kernel
theorem d_Model_find_117 : decode b_Model_find 117 = .ok (.iload 5, 2) := by decide +kernel
theorem d_Model_find_119 : decode b_Model_find 119 = .ok (.iadd, 1) := by decide +kernel
theorem d_Model_find_120 : decode b_Model_find 120 = .ok (.istore 6, 2) := by decide +kernel
theorem d_Model_find_122 : decode b_Model_find 122 = .ok (.aload_n 0, 1) := by decide +kernel
theorem d_Model_find_123 : decode b_Model_find 123 = .ok (.aload_n 0, 1) := by decide +kernel
theorem d_Model_find_124 : decode b_Model_find 124 = .ok (.getfield 10, 3) := by decide +kernel
theorem d_Model_find_127 : decode b_Model_find 127 = .ok (.iload 6, 2) := by decide +kernel
theorem d_Model_find_129 : decode b_Model_find 129 = .ok (.iaload, 1) := by decide +kernel
theorem d_Model_find_130 : decode b_Model_find 130 = .ok (.putfield 407, 3) := by decide +kernel
theorem d_Model_find_133 : decode b_Model_find 133 = .ok (.aload_n 0, 1) := by decide +kernel
theorem d_Model_find_134 : decode b_Model_find 134 = .ok (.aload_n 0, 1) := by decide +kernel
theorem d_Model_find_135 : decode b_Model_find 135 = .ok (.getfield 14, 3) := by decide +kernel
theorem d_Model_find_138 : decode b_Model_find 138 = .ok (.iload 6, 2) := by decide +kernel
theorem d_Model_find_140 : decode b_Model_find 140 = .ok (.iaload, 1) := by decide +kernel
theorem d_Model_find_141 : decode b_Model_find 141 = .ok (.putfield 410, 3) := by decide +kernel
theorem d_Model_find_144 : decode b_Model_find 144 = .ok (.iinc 4 8, 3) := by decide +kernel
theorem d_Model_find_147 : decode b_Model_find 147 = .ok (.goto (-88), 3) := by decide +kernel
theorem d_Model_find_150 : decode b_Model_find 150 = .ok (.iconst 1, 1) := by decide +kernel
theorem d_Model_find_151 : decode b_Model_find 151 = .ok (.ireturn, 1) := by decide +kernel
theorem d_Model_look_0 : decode b_Model_look 0 = .ok (.aload_n 0, 1) := by decide +kernel
theorem d_Model_look_1 : decode b_Model_look 1 = .ok (.iload_n 1, 1) := by decide +kernel
theorem d_Model_look_2 : decode b_Model_look 2 = .ok (.lload_n 2, 1) := by decide +kernel
theorem d_Model_look_3 : decode b_Model_look 3 = .ok (.invokevirtual 413, 3) := by decide +kernel
theorem d_Model_look_6 : decode b_Model_look 6 = .ok (.ifCond .ne 5, 3) := by decide +kernel
theorem d_Model_look_9 : decode b_Model_look 9 = .ok (.iconst (-1), 1) := by decide +kernel
theorem d_Model_look_10 : decode b_Model_look 10 = .ok (.ireturn, 1) := by decide +kernel
theorem d_Model_look_11 : decode b_Model_look 11 = .ok (.aload_n 0, 1) := by decide +kernel
theorem d_Model_look_12 : decode b_Model_look 12 = .ok (.getfield 407, 3) := by decide +kernel
theorem d_Model_look_15 : decode b_Model_look 15 = .ok (.iconst 2, 1) := by decide +kernel
theorem d_Model_look_16 : decode b_Model_look 16 = .ok (.if_icmp .ne 7, 3) := by decide +kernel
theorem d_Model_look_19 : decode b_Model_look 19 = .ok (.iconst 1, 1) := by decide +kernel
theorem d_Model_look_20 : decode b_Model_look 20 = .ok (.goto 4, 3) := by decide +kernel
theorem d_Model_look_23 : decode b_Model_look 23 = .ok (.iconst 0, 1) := by decide +kernel
theorem d_Model_look_24 : decode b_Model_look 24 = .ok (.istore 5, 2) := by decide +kernel
theorem d_Model_look_26 : decode b_Model_look 26 = .ok (.iload 5, 2) := by decide +kernel
theorem d_Model_look_28 : decode b_Model_look 28 = .ok (.ifCond .eq 14, 3) := by decide +kernel
theorem d_Model_look_31 : decode b_Model_look 31 = .ok (.aload_n 0, 1) := by decide +kernel
theorem d_Model_look_32 : decode b_Model_look 32 = .ok (.aload_n 0, 1) := by decide +kernel
theorem d_Model_look_33 : decode b_Model_look 33 = .ok (.getfield 410, 3) := by decide +kernel
theorem d_Model_look_36 : decode b_Model_look 36 = .ok (.invokevirtual 102, 3) := by decide +kernel
theorem d_Model_look_39 : decode b_Model_look 39 = .ok (.goto 11, 3) := by decide +kernel
theorem d_Model_look_42 : decode b_Model_look 42 = .ok (.aload_n 0, 1) := by decide +kernel
theorem d_Model_look_43 : decode b_Model_look 43 = .ok (.getfield 407, 3) := by decide +kernel
theorem d_Model_look_46 : decode b_Model_look 46 = .ok (.sipush 255, 3) := by decide +kernel
theorem d_Model_look_49 : decode b_Model_look 49 = .ok (.iand, 1) := by decide +kernel
theorem d_Model_look_50 : decode b_Model_look 50 = .ok (.istore 6, 2) := by decide +kernel
theorem d_Model_look_52 : decode b_Model_look 52 = .ok (.iload 4, 2) := by decide +kernel
theorem d_Model_look_54 : decode b_Model_look 54 = .ok (.tableswitch 123 0 2 #[26, 29, 105], 26) := by decide +kernel
theorem d_Model_look_80 : decode b_Model_look 80 = .ok (.iload 6, 2) := by decide +kernel
theorem d_Model_look_82 : decode b_Model_look 82 = .ok (.ireturn, 1) := by decide +kernel
theorem d_Model_look_83 : decode b_Model_look 83 = .ok (.iload 5, 2) := by decide +kernel
theorem d_Model_look_85 : decode b_Model_look 85 = .ok (.ifCond .ne 26, 3) := by decide +kernel
theorem d_Model_look_88 : decode b_Model_look 88 = .ok (.iload 6, 2) := by decide +kernel
theorem d_Model_look_90 : decode b_Model_look 90 = .ok (.iconst 1, 1) := by decide +kernel
theorem d_Model_look_91 : decode b_Model_look 91 = .ok (.if_icmp .ne 13, 3) := by decide +kernel
theorem d_Model_look_94 : decode b_Model_look 94 = .ok (.aload_n 0, 1) := by decide +kernel
theorem d_Model_look_95 : decode b_Model_look 95 = .ok (.getfield 407, 3) := by decide +kernel
theorem d_Model_look_98 : decode b_Model_look 98 = .ok (.bipush 8, 2) := by decide +kernel
theorem d_Model_look_100 : decode b_Model_look 100 = .ok (.iushr, 1) := by decide +kernel
theorem d_Model_look_101 : decode b_Model_look 101 = .ok (.goto 57, 3) := by decide +kernel
theorem d_Model_look_104 : decode b_Model_look 104 = .ok (.aload_n 0, 1) := by decide +kernel
theorem d_Model_look_105 : decode b_Model_look 105 = .ok (.getfield 410, 3) := by decide +kernel
theorem d_Model_look_108 : decode b_Model_look 108 = .ok (.goto 50, 3) := by decide +kernel
theorem d_Model_look_111 : decode b_Model_look 111 = .ok (.iload 6, 2) := by decide +kernel
theorem d_Model_look_113 : decode b_Model_look 113 = .ok (.bipush 7, 2) := by decide +kernel
theorem d_Model_look_115 : decode b_Model_look 115 = .ok (.if_icmp .ne 18, 3) := by decide +kernel
theorem d_Model_look_118 : decode b_Model_look 118 = .ok (.aload_n 0, 1) := by decide +kernel
theorem d_Model_look_119 : decode b_Model_look 119 = .ok (.getfield 10, 3) := by decide +kernel
theorem d_Model_look_122 : decode b_Model_look 122 = .ok (.aload_n 0, 1) := by decide +kernel
theorem d_Model_look_123 : decode b_Model_look 123 = .ok (.getfield 410, 3) := by decide +kernel
theorem d_Model_look_126 : decode b_Model_look 126 = .ok (.iaload, 1) := by decide +kernel
theorem d_Model_look_127 : decode b_Model_look 127 = .ok (.bipush 8, 2) := by decide +kernel
theorem d_Model_look_129 : decode b_Model_look 129 = .ok (.iushr, 1) := by decide +kernel
theorem d_Model_look_130 : decode b_Model_look 130 = .ok (.goto 28, 3) := by decide +kernel
theorem d_Model_look_133 : decode b_Model_look 133 = .ok (.iload 6, 2) := by decide +kernel
theorem d_Model_look_135 : decode b_Model_look 135 = .ok (.iconst 2, 1) := by decide +kernel
theorem d_Model_look_136 : decode b_Model_look 136 = .ok (.if_icmp .eq 9, 3) := by decide +kernel
theorem d_Model_look_139 : decode b_Model_look 139 = .ok (.iload 6, 2) := by decide +kernel
theorem d_Model_look_141 : decode b_Model_look 141 = .ok (.iconst 5, 1) := by decide +kernel
theorem d_Model_look_142 : decode b_Model_look 142 = .ok (.if_icmp .ne 7, 3) := by decide +kernel
theorem d_Model_look_145 : decode b_Model_look 145 = .ok (.iconst 0, 1) := by decide +kernel
theorem d_Model_look_146 : decode b_Model_look 146 = .ok (.goto 12, 3) := by decide +kernel
theorem d_Model_look_149 : decode b_Model_look 149 = .ok (.aload_n 0, 1) := by decide +kernel
theorem d_Model_look_150 : decode b_Model_look 150 = .ok (.getfield 14, 3) := by decide +kernel
theorem d_Model_look_153 : decode b_Model_look 153 = .ok (.aload_n 0, 1) := by decide +kernel
theorem d_Model_look_154 : decode b_Model_look 154 = .ok (.getfield 410, 3) := by decide +kernel
theorem d_Model_look_157 : decode b_Model_look 157 = .ok (.iaload, 1) := by decide +kernel
theorem d_Model_look_158 : decode b_Model_look 158 = .ok (.ireturn, 1) := by decide +kernel
theorem d_Model_look_159 : decode b_Model_look 159 = .ok (.iload 5, 2) := by decide +kernel
theorem d_Model_look_161 : decode b_Model_look 161 = .ok (.ifCond .eq 14, 3) := by decide +kernel
theorem d_Model_look_164 : decode b_Model_look 164 = .ok (.aload_n 0, 1) := by decide +kernel
theorem d_Model_look_165 : decode b_Model_look 165 = .ok (.aload_n 0, 1) := by decide +kernel
theorem d_Model_look_166 : decode b_Model_look 166 = .ok (.getfield 410, 3) := by decide +kernel
theorem d_Model_look_169 : decode b_Model_look 169 = .ok (.invokevirtual 106, 3) := by decide +kernel
theorem d_Model_look_172 : decode b_Model_look 172 = .ok (.goto 4, 3) := by decide +kernel
theorem d_Model_look_175 : decode b_Model_look 175 = .ok (.iconst 0, 1) := by decide +kernel
theorem d_Model_look_176 : decode b_Model_look 176 = .ok (.ireturn, 1) := by decide +kernel
theorem d_Model_look_177 : decode b_Model_look 177 = .ok (.iconst (-1), 1) := by decide +kernel
theorem d_Model_look_178 : decode b_Model_look 178 = .ok (.ireturn, 1) := by decide +kernel
theorem d_Model_byteOf_0 : decode b_Model_byteOf 0 = .ok (.aload_n 0, 1) := by decide +kernel
theorem d_Model_byteOf_1 : decode b_Model_byteOf 1 = .ok (.iload_n 1, 1) := by decide +kernel
theorem d_Model_byteOf_2 : decode b_Model_byteOf 2 = .ok (.lload_n 2, 1) := by decide +kernel
theorem d_Model_byteOf_3 : decode b_Model_byteOf 3 = .ok (.invokevirtual 413, 3) := by decide +kernel
theorem d_Model_byteOf_6 : decode b_Model_byteOf 6 = .ok (.ifCond .eq 28, 3) := by decide +kernel
theorem d_Model_byteOf_9 : decode b_Model_byteOf 9 = .ok (.aload_n 0, 1) := by decide +kernel
theorem d_Model_byteOf_10 : decode b_Model_byteOf 10 = .ok (.getfield 407, 3) := by decide +kernel
theorem d_Model_byteOf_13 : decode b_Model_byteOf 13 = .ok (.iconst 2, 1) := by decide +kernel
theorem d_Model_byteOf_14 : decode b_Model_byteOf 14 = .ok (.if_icmp .ne 20, 3) := by decide +kernel
theorem d_Model_byteOf_17 : decode b_Model_byteOf 17 = .ok (.aload_n 0, 1) := by decide +kernel
theorem d_Model_byteOf_18 : decode b_Model_byteOf 18 = .ok (.aload_n 0, 1) := by decide +kernel
theorem d_Model_byteOf_19 : decode b_Model_byteOf 19 = .ok (.getfield 410, 3) := by decide +kernel
theorem d_Model_byteOf_22 : decode b_Model_byteOf 22 = .ok (.invokevirtual 102, 3) := by decide +kernel
theorem d_Model_byteOf_25 : decode b_Model_byteOf 25 = .ok (.bipush 6, 2) := by decide +kernel
theorem d_Model_byteOf_27 : decode b_Model_byteOf 27 = .ok (.if_icmp .ne 7, 3) := by decide +kernel
theorem d_Model_byteOf_30 : decode b_Model_byteOf 30 = .ok (.iconst 1, 1) := by decide +kernel
theorem d_Model_byteOf_31 : decode b_Model_byteOf 31 = .ok (.goto 4, 3) := by decide +kernel
theorem d_Model_byteOf_34 : decode b_Model_byteOf 34 = .ok (.iconst 0, 1) := by decide +kernel
theorem d_Model_byteOf_35 : decode b_Model_byteOf 35 = .ok (.istore 5, 2) := by decide +kernel
theorem d_Model_byteOf_37 : decode b_Model_byteOf 37 = .ok (.iload 5, 2) := by decide +kernel
theorem d_Model_byteOf_39 : decode b_Model_byteOf 39 = .ok (.ifCond .eq 35, 3) := by decide +kernel
theorem d_Model_byteOf_42 : decode b_Model_byteOf 42 = .ok (.iload 4, 2) := by decide +kernel
theorem d_Model_byteOf_44 : decode b_Model_byteOf 44 = .ok (.ifCond .lt 30, 3) := by decide +kernel
theorem d_Model_byteOf_47 : decode b_Model_byteOf 47 = .ok (.iload 4, 2) := by decide +kernel
theorem d_Model_byteOf_49 : decode b_Model_byteOf 49 = .ok (.aload_n 0, 1) := by decide +kernel
theorem d_Model_byteOf_50 : decode b_Model_byteOf 50 = .ok (.getfield 14, 3) := by decide +kernel
theorem d_Model_byteOf_53 : decode b_Model_byteOf 53 = .ok (.aload_n 0, 1) := by decide +kernel
theorem d_Model_byteOf_54 : decode b_Model_byteOf 54 = .ok (.getfield 410, 3) := by decide +kernel
theorem d_Model_byteOf_57 : decode b_Model_byteOf 57 = .ok (.iaload, 1) := by decide +kernel
theorem d_Model_byteOf_58 : decode b_Model_byteOf 58 = .ok (.if_icmp .ge 16, 3) := by decide +kernel
theorem d_Model_byteOf_61 : decode b_Model_byteOf 61 = .ok (.aload_n 0, 1) := by decide +kernel
theorem d_Model_byteOf_62 : decode b_Model_byteOf 62 = .ok (.aload_n 0, 1) := by decide +kernel
theorem d_Model_byteOf_63 : decode b_Model_byteOf 63 = .ok (.getfield 410, 3) := by decide +kernel
theorem d_Model_byteOf_66 : decode b_Model_byteOf 66 = .ok (.iload 4, 2) := by decide +kernel
theorem d_Model_byteOf_68 : decode b_Model_byteOf 68 = .ok (.invokevirtual 350, 3) := by decide +kernel
theorem d_Model_byteOf_71 : decode b_Model_byteOf 71 = .ok (.goto 4, 3) := by decide +kernel
theorem d_Model_byteOf_74 : decode b_Model_byteOf 74 = .ok (.iconst (-1), 1) := by decide +kernel
theorem d_Model_byteOf_75 : decode b_Model_byteOf 75 = .ok (.ireturn, 1) := by decide +kernel
theorem d_Model_same_0 : decode b_Model_same 0 = .ok (.aload_n 0, 1) := by decide +kernel
theorem d_Model_same_1 : decode b_Model_same 1 = .ok (.iload_n 1, 1) := by decide +kernel
theorem d_Model_same_2 : decode b_Model_same 2 = .ok (.lload_n 2, 1) := by decide +kernel
theorem d_Model_same_3 : decode b_Model_same 3 = .ok (.invokevirtual 413, 3) := by decide +kernel
theorem d_Model_same_6 : decode b_Model_same 6 = .ok (.ifCond .ne 5, 3) := by decide +kernel
theorem d_Model_same_9 : decode b_Model_same 9 = .ok (.iconst 0, 1) := by decide +kernel
theorem d_Model_same_10 : decode b_Model_same 10 = .ok (.ireturn, 1) := by decide +kernel
theorem d_Model_same_11 : decode b_Model_same 11 = .ok (.aload_n 0, 1) := by decide +kernel
theorem d_Model_same_12 : decode b_Model_same 12 = .ok (.getfield 407, 3) := by decide +kernel
theorem d_Model_same_15 : decode b_Model_same 15 = .ok (.istore 7, 2) := by decide +kernel
theorem d_Model_same_17 : decode b_Model_same 17 = .ok (.aload_n 0, 1) := by decide +kernel
theorem d_Model_same_18 : decode b_Model_same 18 = .ok (.getfield 410, 3) := by decide +kernel
theorem d_Model_same_21 : decode b_Model_same 21 = .ok (.istore 8, 2) := by decide +kernel
theorem d_Model_same_23 : decode b_Model_same 23 = .ok (.aload_n 0, 1) := by decide +kernel
theorem d_Model_same_24 : decode b_Model_same 24 = .ok (.iload 4, 2) := by decide +kernel
theorem d_Model_same_26 : decode b_Model_same 26 = .ok (.lload 5, 2) := by decide +kernel
theorem d_Model_same_28 : decode b_Model_same 28 = .ok (.invokevirtual 413, 3) := by decide +kernel
theorem d_Model_same_31 : decode b_Model_same 31 = .ok (.ifCond .eq 25, 3) := by decide +kernel
theorem d_Model_same_34 : decode b_Model_same 34 = .ok (.iload 7, 2) := by decide +kernel
theorem d_Model_same_36 : decode b_Model_same 36 = .ok (.iload 8, 2) := by decide +kernel
theorem d_Model_same_38 : decode b_Model_same 38 = .ok (.aload_n 0, 1) := by decide +kernel
theorem d_Model_same_39 : decode b_Model_same 39 = .ok (.getfield 407, 3) := by decide +kernel
theorem d_Model_same_42 : decode b_Model_same 42 = .ok (.aload_n 0, 1) := by decide +kernel
theorem d_Model_same_43 : decode b_Model_same 43 = .ok (.getfield 410, 3) := by decide +kernel
theorem d_Model_same_46 : decode b_Model_same 46 = .ok (.invokestatic 328, 3) := by decide +kernel
theorem d_Model_same_49 : decode b_Model_same 49 = .ok (.ifCond .eq 7, 3) := by decide +kernel
theorem d_Model_same_52 : decode b_Model_same 52 = .ok (.iconst 1, 1) := by decide +kernel
theorem d_Model_same_53 : decode b_Model_same 53 = .ok (.goto 4, 3) := by decide +kernel
theorem d_Model_same_56 : decode b_Model_same 56 = .ok (.iconst 0, 1) := by decide +kernel
theorem d_Model_same_57 : decode b_Model_same 57 = .ok (.ireturn, 1) := by decide +kernel
theorem d_Model_out_0 : decode b_Model_out 0 = .ok (.iload_n 1, 1) := by decide +kernel
theorem d_Model_out_1 : decode b_Model_out 1 = .ok (.ifCond .lt 24, 3) := by decide +kernel
theorem d_Model_out_4 : decode b_Model_out 4 = .ok (.iload_n 1, 1) := by decide +kernel
theorem d_Model_out_5 : decode b_Model_out 5 = .ok (.aload_n 0, 1) := by decide +kernel
theorem d_Model_out_6 : decode b_Model_out 6 = .ok (.getfield 200, 3) := by decide +kernel
theorem d_Model_out_9 : decode b_Model_out 9 = .ok (.if_icmp .ge 16, 3) := by decide +kernel
theorem d_Model_out_12 : decode b_Model_out 12 = .ok (.aload_n 0, 1) := by decide +kernel
theorem d_Model_out_13 : decode b_Model_out 13 = .ok (.getfield 81, 3) := by decide +kernel
theorem d_Model_out_16 : decode b_Model_out 16 = .ok (.iload_n 1, 1) := by decide +kernel
theorem d_Model_out_17 : decode b_Model_out 17 = .ok (.baload, 1) := by decide +kernel
theorem d_Model_out_18 : decode b_Model_out 18 = .ok (.sipush 255, 3) := by decide +kernel
theorem d_Model_out_21 : decode b_Model_out 21 = .ok (.iand, 1) := by decide +kernel
theorem d_Model_out_22 : decode b_Model_out 22 = .ok (.goto 4, 3) := by decide +kernel
theorem d_Model_out_25 : decode b_Model_out 25 = .ok (.iconst (-1), 1) := by decide +kernel
theorem d_Model_out_26 : decode b_Model_out 26 = .ok (.ireturn, 1) := by decide +kernel
theorem d_Model_limits_0 : decode b_Model_limits 0 = .ok (.iload_n 1, 1) := by decide +kernel
theorem d_Model_limits_1 : decode b_Model_limits 1 = .ok (.ifCond .lt 17, 3) := by decide +kernel
theorem d_Model_limits_4 : decode b_Model_limits 4 = .ok (.iload_n 1, 1) := by decide +kernel
theorem d_Model_limits_5 : decode b_Model_limits 5 = .ok (.ldc 9, 2) := by decide +kernel
theorem d_Model_limits_7 : decode b_Model_limits 7 = .ok (.if_icmp .gt 11, 3) := by decide +kernel
theorem d_Model_limits_10 : decode b_Model_limits 10 = .ok (.iload_n 2, 1) := by decide +kernel
theorem d_Model_limits_11 : decode b_Model_limits 11 = .ok (.ifCond .lt 7, 3) := by decide +kernel
theorem d_Model_limits_14 : decode b_Model_limits 14 = .ok (.iload_n 3, 1) := by decide +kernel
theorem d_Model_limits_15 : decode b_Model_limits 15 = .ok (.ifCond .ge 5, 3) := by decide +kernel
theorem d_Model_limits_18 : decode b_Model_limits 18 = .ok (.iconst 0, 1) := by decide +kernel
theorem d_Model_limits_19 : decode b_Model_limits 19 = .ok (.ireturn, 1) := by decide +kernel
theorem d_Model_limits_20 : decode b_Model_limits 20 = .ok (.aload_n 0, 1) := by decide +kernel
theorem d_Model_limits_21 : decode b_Model_limits 21 = .ok (.iload_n 1, 1) := by decide +kernel
theorem d_Model_limits_22 : decode b_Model_limits 22 = .ok (.putfield 84, 3) := by decide +kernel
theorem d_Model_limits_25 : decode b_Model_limits 25 = .ok (.aload_n 0, 1) := by decide +kernel
theorem d_Model_limits_26 : decode b_Model_limits 26 = .ok (.iload_n 2, 1) := by decide +kernel
theorem d_Model_limits_27 : decode b_Model_limits 27 = .ok (.putfield 89, 3) := by decide +kernel
theorem d_Model_limits_30 : decode b_Model_limits 30 = .ok (.aload_n 0, 1) := by decide +kernel
theorem d_Model_limits_31 : decode b_Model_limits 31 = .ok (.iload_n 3, 1) := by decide +kernel
theorem d_Model_limits_32 : decode b_Model_limits 32 = .ok (.putfield 92, 3) := by decide +kernel
theorem d_Model_limits_35 : decode b_Model_limits 35 = .ok (.iconst 1, 1) := by decide +kernel
theorem d_Model_limits_36 : decode b_Model_limits 36 = .ok (.ireturn, 1) := by decide +kernel
theorem d_Model_collect_0 : decode b_Model_collect 0 = .ok (.iload_n 1, 1) := by decide +kernel
theorem d_Model_collect_1 : decode b_Model_collect 1 = .ok (.iconst 1, 1) := by decide +kernel
theorem d_Model_collect_2 : decode b_Model_collect 2 = .ok (.if_icmp .lt 13, 3) := by decide +kernel
theorem d_Model_collect_5 : decode b_Model_collect 5 = .ok (.iload_n 1, 1) := by decide +kernel
theorem d_Model_collect_6 : decode b_Model_collect 6 = .ok (.ldc 88, 2) := by decide +kernel
theorem d_Model_collect_8 : decode b_Model_collect 8 = .ok (.if_icmp .gt 7, 3) := by decide +kernel
theorem d_Model_collect_11 : decode b_Model_collect 11 = .ok (.iconst 1, 1) := by decide +kernel
theorem d_Model_collect_12 : decode b_Model_collect 12 = .ok (.goto 4, 3) := by decide +kernel
theorem d_Model_collect_15 : decode b_Model_collect 15 = .ok (.iconst 0, 1) := by decide +kernel
theorem d_Model_collect_16 : decode b_Model_collect 16 = .ok (.ireturn, 1) := by decide +kernel
theorem d_Model_unmark_0 : decode b_Model_unmark 0 = .ok (.iconst 0, 1) := by decide +kernel
theorem d_Model_unmark_1 : decode b_Model_unmark 1 = .ok (.istore_n 1, 1) := by decide +kernel
theorem d_Model_unmark_2 : decode b_Model_unmark 2 = .ok (.iload_n 1, 1) := by decide +kernel
theorem d_Model_unmark_3 : decode b_Model_unmark 3 = .ok (.aload_n 0, 1) := by decide +kernel
theorem d_Model_unmark_4 : decode b_Model_unmark 4 = .ok (.getfield 125, 3) := by decide +kernel
theorem d_Model_unmark_7 : decode b_Model_unmark 7 = .ok (.if_icmp .ge 21, 3) := by decide +kernel
theorem d_Model_unmark_10 : decode b_Model_unmark 10 = .ok (.aload_n 0, 1) := by decide +kernel
theorem d_Model_unmark_11 : decode b_Model_unmark 11 = .ok (.getfield 17, 3) := by decide +kernel
theorem d_Model_unmark_14 : decode b_Model_unmark 14 = .ok (.iload_n 1, 1) := by decide +kernel
theorem d_Model_unmark_15 : decode b_Model_unmark 15 = .ok (.iconst (-1), 1) := by decide +kernel
theorem d_Model_unmark_16 : decode b_Model_unmark 16 = .ok (.iastore, 1) := by decide +kernel
theorem d_Model_unmark_17 : decode b_Model_unmark 17 = .ok (.iload_n 1, 1) := by decide +kernel
theorem d_Model_unmark_18 : decode b_Model_unmark 18 = .ok (.aload_n 0, 1) := by decide +kernel
theorem d_Model_unmark_19 : decode b_Model_unmark 19 = .ok (.iload_n 1, 1) := by decide +kernel
theorem d_Model_unmark_20 : decode b_Model_unmark 20 = .ok (.invokevirtual 115, 3) := by decide +kernel
theorem d_Model_unmark_23 : decode b_Model_unmark 23 = .ok (.iadd, 1) := by decide +kernel
theorem d_Model_unmark_24 : decode b_Model_unmark 24 = .ok (.istore_n 1, 1) := by decide +kernel
theorem d_Model_unmark_25 : decode b_Model_unmark 25 = .ok (.goto (-23), 3) := by decide +kernel
theorem d_Model_unmark_28 : decode b_Model_unmark 28 = .ok (.return_, 1) := by decide +kernel
theorem d_Model_reached_0 : decode b_Model_reached 0 = .ok (.aload_n 0, 1) := by decide +kernel
theorem d_Model_reached_1 : decode b_Model_reached 1 = .ok (.invokevirtual 155, 3) := by decide +kernel
theorem d_Model_reached_4 : decode b_Model_reached 4 = .ok (.aload_n 0, 1) := by decide +kernel
theorem d_Model_reached_5 : decode b_Model_reached 5 = .ok (.aload_n 0, 1) := by decide +kernel
theorem d_Model_reached_6 : decode b_Model_reached 6 = .ok (.getfield 145, 3) := by decide +kernel
theorem d_Model_reached_9 : decode b_Model_reached 9 = .ok (.aload_n 0, 1) := by decide +kernel
theorem d_Model_reached_10 : decode b_Model_reached 10 = .ok (.getfield 148, 3) := by decide +kernel
theorem d_Model_reached_13 : decode b_Model_reached 13 = .ok (.invokevirtual 118, 3) := by decide +kernel
theorem d_Model_reached_16 : decode b_Model_reached 16 = .ok (.aload_n 0, 1) := by decide +kernel
theorem d_Model_reached_17 : decode b_Model_reached 17 = .ok (.invokevirtual 122, 3) := by decide +kernel
theorem d_Model_reached_20 : decode b_Model_reached 20 = .ok (.aload_n 0, 1) := by decide +kernel
theorem d_Model_reached_21 : decode b_Model_reached 21 = .ok (.invokevirtual 417, 3) := by decide +kernel
theorem d_Model_reached_24 : decode b_Model_reached 24 = .ok (.aload_n 0, 1) := by decide +kernel
theorem d_Model_reached_25 : decode b_Model_reached 25 = .ok (.getfield 112, 3) := by decide +kernel
theorem d_Model_reached_28 : decode b_Model_reached 28 = .ok (.ireturn, 1) := by decide +kernel
theorem d_Model_forget_0 : decode b_Model_forget 0 = .ok (.aload_n 0, 1) := by decide +kernel
theorem d_Model_forget_1 : decode b_Model_forget 1 = .ok (.iconst 0, 1) := by decide +kernel
theorem d_Model_forget_2 : decode b_Model_forget 2 = .ok (.putfield 128, 3) := by decide +kernel
theorem d_Model_forget_5 : decode b_Model_forget 5 = .ok (.aload_n 0, 1) := by decide +kernel
theorem d_Model_forget_6 : decode b_Model_forget 6 = .ok (.iconst 0, 1) := by decide +kernel
theorem d_Model_forget_7 : decode b_Model_forget 7 = .ok (.putfield 142, 3) := by decide +kernel
theorem d_Model_forget_10 : decode b_Model_forget 10 = .ok (.aload_n 0, 1) := by decide +kernel
theorem d_Model_forget_11 : decode b_Model_forget 11 = .ok (.iconst 0, 1) := by decide +kernel
theorem d_Model_forget_12 : decode b_Model_forget 12 = .ok (.putfield 135, 3) := by decide +kernel
theorem d_Model_forget_15 : decode b_Model_forget 15 = .ok (.aload_n 0, 1) := by decide +kernel
theorem d_Model_forget_16 : decode b_Model_forget 16 = .ok (.iconst 0, 1) := by decide +kernel
theorem d_Model_forget_17 : decode b_Model_forget 17 = .ok (.putfield 182, 3) := by decide +kernel
theorem d_Model_forget_20 : decode b_Model_forget 20 = .ok (.return_, 1) := by decide +kernel
theorem d_Model_save_0 : decode b_Model_save 0 = .ok (.aload_n 0, 1) := by decide +kernel
theorem d_Model_save_1 : decode b_Model_save 1 = .ok (.invokevirtual 420, 3) := by decide +kernel
theorem d_Model_save_4 : decode b_Model_save 4 = .ok (.aload_n 0, 1) := by decide +kernel
theorem d_Model_save_5 : decode b_Model_save 5 = .ok (.invokevirtual 155, 3) := by decide +kernel
theorem d_Model_save_8 : decode b_Model_save 8 = .ok (.aload_n 0, 1) := by decide +kernel
theorem d_Model_save_9 : decode b_Model_save 9 = .ok (.invokevirtual 151, 3) := by decide +kernel
theorem d_Model_save_12 : decode b_Model_save 12 = .ok (.istore_n 1, 1) := by decide +kernel
theorem d_Model_save_13 : decode b_Model_save 13 = .ok (.iconst 0, 1) := by decide +kernel
theorem d_Model_save_14 : decode b_Model_save 14 = .ok (.istore_n 2, 1) := by decide +kernel
theorem d_Model_save_15 : decode b_Model_save 15 = .ok (.iload_n 2, 1) := by decide +kernel
theorem d_Model_save_16 : decode b_Model_save 16 = .ok (.aload_n 0, 1) := by decide +kernel
theorem d_Model_save_17 : decode b_Model_save 17 = .ok (.getfield 125, 3) := by decide +kernel
theorem d_Model_save_20 : decode b_Model_save 20 = .ok (.if_icmp .ge 142, 3) := by decide +kernel
theorem d_Model_save_23 : decode b_Model_save 23 = .ok (.aload_n 0, 1) := by decide +kernel
theorem d_Model_save_24 : decode b_Model_save 24 = .ok (.getfield 17, 3) := by decide +kernel
theorem d_Model_save_27 : decode b_Model_save 27 = .ok (.iload_n 2, 1) := by decide +kernel
theorem d_Model_save_28 : decode b_Model_save 28 = .ok (.iaload, 1) := by decide +kernel
theorem d_Model_save_29 : decode b_Model_save 29 = .ok (.istore_n 3, 1) := by decide +kernel
theorem d_Model_save_30 : decode b_Model_save 30 = .ok (.aload_n 0, 1) := by decide +kernel
theorem d_Model_save_31 : decode b_Model_save 31 = .ok (.iload_n 2, 1) := by decide +kernel
theorem d_Model_save_32 : decode b_Model_save 32 = .ok (.invokevirtual 106, 3) := by decide +kernel
theorem d_Model_save_35 : decode b_Model_save 35 = .ok (.istore 4, 2) := by decide +kernel
theorem d_Model_save_37 : decode b_Model_save 37 = .ok (.iconst 0, 1) := by decide +kernel
theorem d_Model_save_38 : decode b_Model_save 38 = .ok (.istore 5, 2) := by decide +kernel
theorem d_Model_save_40 : decode b_Model_save 40 = .ok (.iload 5, 2) := by decide +kernel
theorem d_Model_save_42 : decode b_Model_save 42 = .ok (.aload_n 0, 1) := by decide +kernel
theorem d_Model_save_43 : decode b_Model_save 43 = .ok (.iload_n 2, 1) := by decide +kernel
theorem d_Model_save_44 : decode b_Model_save 44 = .ok (.invokevirtual 115, 3) := by decide +kernel
theorem d_Model_save_47 : decode b_Model_save 47 = .ok (.if_icmp .ge 104, 3) := by decide +kernel
theorem d_Model_save_50 : decode b_Model_save 50 = .ok (.iload_n 3, 1) := by decide +kernel
theorem d_Model_save_51 : decode b_Model_save 51 = .ok (.iconst (-1), 1) := by decide +kernel
theorem d_Model_save_52 : decode b_Model_save 52 = .ok (.if_icmp .eq 99, 3) := by decide +kernel
theorem d_Model_save_55 : decode b_Model_save 55 = .ok (.iload 5, 2) := by decide +kernel
theorem d_Model_save_57 : decode b_Model_save 57 = .ok (.ifCond .le 27, 3) := by decide +kernel
theorem d_Model_save_60 : decode b_Model_save 60 = .ok (.iload 5, 2) := by decide +kernel
theorem d_Model_save_62 : decode b_Model_save 62 = .ok (.iload 4, 2) := by decide +kernel
theorem d_Model_save_64 : decode b_Model_save 64 = .ok (.if_icmp .gt 20, 3) := by decide +kernel
theorem d_Model_save_67 : decode b_Model_save 67 = .ok (.aload_n 0, 1) := by decide +kernel
theorem d_Model_save_68 : decode b_Model_save 68 = .ok (.getfield 10, 3) := by decide +kernel
theorem d_Model_save_71 : decode b_Model_save 71 = .ok (.iload_n 2, 1) := by decide +kernel
theorem d_Model_save_72 : decode b_Model_save 72 = .ok (.iload 5, 2) := by decide +kernel
theorem d_Model_save_74 : decode b_Model_save 74 = .ok (.iadd, 1) := by decide +kernel
theorem d_Model_save_75 : decode b_Model_save 75 = .ok (.iaload, 1) := by decide +kernel
theorem d_Model_save_76 : decode b_Model_save 76 = .ok (.iconst 2, 1) := by decide +kernel
theorem d_Model_save_77 : decode b_Model_save 77 = .ok (.if_icmp .ne 7, 3) := by decide +kernel
theorem d_Model_save_80 : decode b_Model_save 80 = .ok (.iconst 1, 1) := by decide +kernel
theorem d_Model_save_81 : decode b_Model_save 81 = .ok (.goto 4, 3) := by decide +kernel
theorem d_Model_save_84 : decode b_Model_save 84 = .ok (.iconst 0, 1) := by decide +kernel
theorem d_Model_save_85 : decode b_Model_save 85 = .ok (.istore 6, 2) := by decide +kernel
theorem d_Model_save_87 : decode b_Model_save 87 = .ok (.aload_n 0, 1) := by decide +kernel
theorem d_Model_save_88 : decode b_Model_save 88 = .ok (.getfield 26, 3) := by decide +kernel
theorem d_Model_save_91 : decode b_Model_save 91 = .ok (.iload_n 3, 1) := by decide +kernel
theorem d_Model_save_92 : decode b_Model_save 92 = .ok (.iload 5, 2) := by decide +kernel
theorem d_Model_save_94 : decode b_Model_save 94 = .ok (.iadd, 1) := by decide +kernel
theorem d_Model_save_95 : decode b_Model_save 95 = .ok (.aload_n 0, 1) := by decide +kernel
theorem d_Model_save_96 : decode b_Model_save 96 = .ok (.getfield 10, 3) := by decide +kernel
theorem d_Model_save_99 : decode b_Model_save 99 = .ok (.iload_n 2, 1) := by decide +kernel
theorem d_Model_save_100 : decode b_Model_save 100 = .ok (.iload 5, 2) := by decide +kernel
theorem d_Model_save_102 : decode b_Model_save 102 = .ok (.iadd, 1) := by decide +kernel
theorem d_Model_save_103 : decode b_Model_save 103 = .ok (.iaload, 1) := by decide +kernel
theorem d_Model_save_104 : decode b_Model_save 104 = .ok (.iastore, 1) := by decide +kernel
theorem d_Model_save_105 : decode b_Model_save 105 = .ok (.aload_n 0, 1) := by decide +kernel
theorem d_Model_save_106 : decode b_Model_save 106 = .ok (.getfield 29, 3) := by decide +kernel
theorem d_Model_save_109 : decode b_Model_save 109 = .ok (.iload_n 3, 1) := by decide +kernel
theorem d_Model_save_110 : decode b_Model_save 110 = .ok (.iload 5, 2) := by decide +kernel
theorem d_Model_save_112 : decode b_Model_save 112 = .ok (.iadd, 1) := by decide +kernel
theorem d_Model_save_113 : decode b_Model_save 113 = .ok (.iload 6, 2) := by decide +kernel
theorem d_Model_save_115 : decode b_Model_save 115 = .ok (.ifCond .eq 20, 3) := by decide +kernel
theorem d_Model_save_118 : decode b_Model_save 118 = .ok (.aload_n 0, 1) := by decide +kernel
theorem d_Model_save_119 : decode b_Model_save 119 = .ok (.getfield 17, 3) := by decide +kernel
theorem d_Model_save_122 : decode b_Model_save 122 = .ok (.aload_n 0, 1) := by decide +kernel
theorem d_Model_save_123 : decode b_Model_save 123 = .ok (.getfield 14, 3) := by decide +kernel
theorem d_Model_save_126 : decode b_Model_save 126 = .ok (.iload_n 2, 1) := by decide +kernel
theorem d_Model_save_127 : decode b_Model_save 127 = .ok (.iload 5, 2) := by decide +kernel
theorem d_Model_save_129 : decode b_Model_save 129 = .ok (.iadd, 1) := by decide +kernel
theorem d_Model_save_130 : decode b_Model_save 130 = .ok (.iaload, 1) := by decide +kernel
theorem d_Model_save_131 : decode b_Model_save 131 = .ok (.iaload, 1) := by decide +kernel
theorem d_Model_save_132 : decode b_Model_save 132 = .ok (.goto 12, 3) := by decide +kernel
theorem d_Model_save_135 : decode b_Model_save 135 = .ok (.aload_n 0, 1) := by decide +kernel
theorem d_Model_save_136 : decode b_Model_save 136 = .ok (.getfield 14, 3) := by decide +kernel
theorem d_Model_save_139 : decode b_Model_save 139 = .ok (.iload_n 2, 1) := by decide +kernel
theorem d_Model_save_140 : decode b_Model_save 140 = .ok (.iload 5, 2) := by decide +kernel
theorem d_Model_save_142 : decode b_Model_save 142 = .ok (.iadd, 1) := by decide +kernel
theorem d_Model_save_143 : decode b_Model_save 143 = .ok (.iaload, 1) := by decide +kernel
theorem d_Model_save_144 : decode b_Model_save 144 = .ok (.iastore, 1) := by decide +kernel
theorem d_Model_save_145 : decode b_Model_save 145 = .ok (.iinc 5 1, 3) := by decide +kernel
theorem d_Model_save_148 : decode b_Model_save 148 = .ok (.goto (-108), 3) := by decide +kernel
theorem d_Model_save_151 : decode b_Model_save 151 = .ok (.iload_n 2, 1) := by decide +kernel
theorem d_Model_save_152 : decode b_Model_save 152 = .ok (.aload_n 0, 1) := by decide +kernel
theorem d_Model_save_153 : decode b_Model_save 153 = .ok (.iload_n 2, 1) := by decide +kernel
theorem d_Model_save_154 : decode b_Model_save 154 = .ok (.invokevirtual 115, 3) := by decide +kernel
theorem d_Model_save_157 : decode b_Model_save 157 = .ok (.iadd, 1) := by decide +kernel
theorem d_Model_save_158 : decode b_Model_save 158 = .ok (.istore_n 2, 1) := by decide +kernel
theorem d_Model_save_159 : decode b_Model_save 159 = .ok (.goto (-144), 3) := by decide +kernel
theorem d_Model_save_162 : decode b_Model_save 162 = .ok (.iconst 0, 1) := by decide +kernel
theorem d_Model_save_163 : decode b_Model_save 163 = .ok (.istore_n 2, 1) := by decide +kernel
theorem d_Model_save_164 : decode b_Model_save 164 = .ok (.iload_n 2, 1) := by decide +kernel
theorem d_Model_save_165 : decode b_Model_save 165 = .ok (.sipush 2048, 3) := by decide +kernel
theorem d_Model_save_168 : decode b_Model_save 168 = .ok (.if_icmp .ge 57, 3) := by decide +kernel
theorem d_Model_save_171 : decode b_Model_save 171 = .ok (.aload_n 0, 1) := by decide +kernel
theorem d_Model_save_172 : decode b_Model_save 172 = .ok (.getfield 32, 3) := by decide +kernel
theorem d_Model_save_175 : decode b_Model_save 175 = .ok (.iload_n 2, 1) := by decide +kernel
theorem d_Model_save_176 : decode b_Model_save 176 = .ok (.aload_n 0, 1) := by decide +kernel
theorem d_Model_save_177 : decode b_Model_save 177 = .ok (.getfield 20, 3) := by decide +kernel
theorem d_Model_save_180 : decode b_Model_save 180 = .ok (.iload_n 2, 1) := by decide +kernel
theorem d_Model_save_181 : decode b_Model_save 181 = .ok (.iaload, 1) := by decide +kernel
theorem d_Model_save_182 : decode b_Model_save 182 = .ok (.iastore, 1) := by decide +kernel
theorem d_Model_save_183 : decode b_Model_save 183 = .ok (.aload_n 0, 1) := by decide +kernel
theorem d_Model_save_184 : decode b_Model_save 184 = .ok (.getfield 35, 3) := by decide +kernel
theorem d_Model_save_187 : decode b_Model_save 187 = .ok (.iload_n 2, 1) := by decide +kernel
theorem d_Model_save_188 : decode b_Model_save 188 = .ok (.aload_n 0, 1) := by decide +kernel
theorem d_Model_save_189 : decode b_Model_save 189 = .ok (.getfield 20, 3) := by decide +kernel
theorem d_Model_save_192 : decode b_Model_save 192 = .ok (.iload_n 2, 1) := by decide +kernel
theorem d_Model_save_193 : decode b_Model_save 193 = .ok (.iaload, 1) := by decide +kernel
theorem d_Model_save_194 : decode b_Model_save 194 = .ok (.iconst 2, 1) := by decide +kernel
theorem d_Model_save_195 : decode b_Model_save 195 = .ok (.if_icmp .ne 17, 3) := by decide +kernel
theorem d_Model_save_198 : decode b_Model_save 198 = .ok (.aload_n 0, 1) := by decide +kernel
theorem d_Model_save_199 : decode b_Model_save 199 = .ok (.getfield 17, 3) := by decide +kernel
theorem d_Model_save_202 : decode b_Model_save 202 = .ok (.aload_n 0, 1) := by decide +kernel
theorem d_Model_save_203 : decode b_Model_save 203 = .ok (.getfield 23, 3) := by decide +kernel
theorem d_Model_save_206 : decode b_Model_save 206 = .ok (.iload_n 2, 1) := by decide +kernel
theorem d_Model_save_207 : decode b_Model_save 207 = .ok (.iaload, 1) := by decide +kernel
theorem d_Model_save_208 : decode b_Model_save 208 = .ok (.iaload, 1) := by decide +kernel
theorem d_Model_save_209 : decode b_Model_save 209 = .ok (.goto 9, 3) := by decide +kernel
theorem d_Model_save_212 : decode b_Model_save 212 = .ok (.aload_n 0, 1) := by decide +kernel
theorem d_Model_save_213 : decode b_Model_save 213 = .ok (.getfield 23, 3) := by decide +kernel
theorem d_Model_save_216 : decode b_Model_save 216 = .ok (.iload_n 2, 1) := by decide +kernel
theorem d_Model_save_217 : decode b_Model_save 217 = .ok (.iaload, 1) := by decide +kernel
theorem d_Model_save_218 : decode b_Model_save 218 = .ok (.iastore, 1) := by decide +kernel
theorem d_Model_save_219 : decode b_Model_save 219 = .ok (.iinc 2 1, 3) := by decide +kernel
theorem d_Model_save_222 : decode b_Model_save 222 = .ok (.goto (-58), 3) := by decide +kernel
theorem d_Model_save_225 : decode b_Model_save 225 = .ok (.aload_n 0, 1) := by decide +kernel
theorem d_Model_save_226 : decode b_Model_save 226 = .ok (.iload_n 1, 1) := by decide +kernel
theorem d_Model_save_227 : decode b_Model_save 227 = .ok (.putfield 423, 3) := by decide +kernel
theorem d_Model_save_230 : decode b_Model_save 230 = .ok (.aload_n 0, 1) := by decide +kernel
theorem d_Model_save_231 : decode b_Model_save 231 = .ok (.invokevirtual 417, 3) := by decide +kernel
theorem d_Model_save_234 : decode b_Model_save 234 = .ok (.iload_n 1, 1) := by decide +kernel
theorem d_Model_save_235 : decode b_Model_save 235 = .ok (.ireturn, 1) := by decide +kernel
theorem d_Model_restore_0 : decode b_Model_restore 0 = .ok (.aload_n 0, 1) := by decide +kernel
theorem d_Model_restore_1 : decode b_Model_restore 1 = .ok (.invokevirtual 420, 3) := by decide +kernel
theorem d_Model_restore_4 : decode b_Model_restore 4 = .ok (.aload_n 0, 1) := by decide +kernel
theorem d_Model_restore_5 : decode b_Model_restore 5 = .ok (.iconst 0, 1) := by decide +kernel
theorem d_Model_restore_6 : decode b_Model_restore 6 = .ok (.putfield 145, 3) := by decide +kernel
theorem d_Model_restore_9 : decode b_Model_restore 9 = .ok (.aload_n 0, 1) := by decide +kernel
theorem d_Model_restore_10 : decode b_Model_restore 10 = .ok (.iconst 0, 1) := by decide +kernel
theorem d_Model_restore_11 : decode b_Model_restore 11 = .ok (.putfield 148, 3) := by decide +kernel
theorem d_Model_restore_14 : decode b_Model_restore 14 = .ok (.iconst 0, 1) := by decide +kernel
theorem d_Model_restore_15 : decode b_Model_restore 15 = .ok (.istore_n 1, 1) := by decide +kernel
theorem d_Model_restore_16 : decode b_Model_restore 16 = .ok (.iload_n 1, 1) := by decide +kernel
theorem d_Model_restore_17 : decode b_Model_restore 17 = .ok (.aload_n 0, 1) := by decide +kernel
theorem d_Model_restore_18 : decode b_Model_restore 18 = .ok (.getfield 423, 3) := by decide +kernel
theorem d_Model_restore_21 : decode b_Model_restore 21 = .ok (.if_icmp .ge 33, 3) := by decide +kernel
theorem d_Model_restore_24 : decode b_Model_restore 24 = .ok (.aload_n 0, 1) := by decide +kernel
theorem d_Model_restore_25 : decode b_Model_restore 25 = .ok (.getfield 10, 3) := by decide +kernel
theorem d_Model_restore_28 : decode b_Model_restore 28 = .ok (.iload_n 1, 1) := by decide +kernel
theorem d_Model_restore_29 : decode b_Model_restore 29 = .ok (.aload_n 0, 1) := by decide +kernel
theorem d_Model_restore_30 : decode b_Model_restore 30 = .ok (.getfield 26, 3) := by decide +kernel
theorem d_Model_restore_33 : decode b_Model_restore 33 = .ok (.iload_n 1, 1) := by decide +kernel
theorem d_Model_restore_34 : decode b_Model_restore 34 = .ok (.iaload, 1) := by decide +kernel
theorem d_Model_restore_35 : decode b_Model_restore 35 = .ok (.iastore, 1) := by decide +kernel
theorem d_Model_restore_36 : decode b_Model_restore 36 = .ok (.aload_n 0, 1) := by decide +kernel
theorem d_Model_restore_37 : decode b_Model_restore 37 = .ok (.getfield 14, 3) := by decide +kernel
theorem d_Model_restore_40 : decode b_Model_restore 40 = .ok (.iload_n 1, 1) := by decide +kernel
theorem d_Model_restore_41 : decode b_Model_restore 41 = .ok (.aload_n 0, 1) := by decide +kernel
theorem d_Model_restore_42 : decode b_Model_restore 42 = .ok (.getfield 29, 3) := by decide +kernel
theorem d_Model_restore_45 : decode b_Model_restore 45 = .ok (.iload_n 1, 1) := by decide +kernel
theorem d_Model_restore_46 : decode b_Model_restore 46 = .ok (.iaload, 1) := by decide +kernel
theorem d_Model_restore_47 : decode b_Model_restore 47 = .ok (.iastore, 1) := by decide +kernel
theorem d_Model_restore_48 : decode b_Model_restore 48 = .ok (.iinc 1 1, 3) := by decide +kernel
theorem d_Model_restore_51 : decode b_Model_restore 51 = .ok (.goto (-35), 3) := by decide +kernel
theorem d_Model_restore_54 : decode b_Model_restore 54 = .ok (.iconst 0, 1) := by decide +kernel
theorem d_Model_restore_55 : decode b_Model_restore 55 = .ok (.istore_n 1, 1) := by decide +kernel
theorem d_Model_restore_56 : decode b_Model_restore 56 = .ok (.iload_n 1, 1) := by decide +kernel
theorem d_Model_restore_57 : decode b_Model_restore 57 = .ok (.sipush 2048, 3) := by decide +kernel
theorem d_Model_restore_60 : decode b_Model_restore 60 = .ok (.if_icmp .ge 33, 3) := by decide +kernel
theorem d_Model_restore_63 : decode b_Model_restore 63 = .ok (.aload_n 0, 1) := by decide +kernel
theorem d_Model_restore_64 : decode b_Model_restore 64 = .ok (.getfield 20, 3) := by decide +kernel
theorem d_Model_restore_67 : decode b_Model_restore 67 = .ok (.iload_n 1, 1) := by decide +kernel
theorem d_Model_restore_68 : decode b_Model_restore 68 = .ok (.aload_n 0, 1) := by decide +kernel
theorem d_Model_restore_69 : decode b_Model_restore 69 = .ok (.getfield 32, 3) := by decide +kernel
theorem d_Model_restore_72 : decode b_Model_restore 72 = .ok (.iload_n 1, 1) := by decide +kernel
theorem d_Model_restore_73 : decode b_Model_restore 73 = .ok (.iaload, 1) := by decide +kernel
theorem d_Model_restore_74 : decode b_Model_restore 74 = .ok (.iastore, 1) := by decide +kernel
theorem d_Model_restore_75 : decode b_Model_restore 75 = .ok (.aload_n 0, 1) := by decide +kernel
theorem d_Model_restore_76 : decode b_Model_restore 76 = .ok (.getfield 23, 3) := by decide +kernel
theorem d_Model_restore_79 : decode b_Model_restore 79 = .ok (.iload_n 1, 1) := by decide +kernel
theorem d_Model_restore_80 : decode b_Model_restore 80 = .ok (.aload_n 0, 1) := by decide +kernel
theorem d_Model_restore_81 : decode b_Model_restore 81 = .ok (.getfield 35, 3) := by decide +kernel
theorem d_Model_restore_84 : decode b_Model_restore 84 = .ok (.iload_n 1, 1) := by decide +kernel
theorem d_Model_restore_85 : decode b_Model_restore 85 = .ok (.iaload, 1) := by decide +kernel
theorem d_Model_restore_86 : decode b_Model_restore 86 = .ok (.iastore, 1) := by decide +kernel
theorem d_Model_restore_87 : decode b_Model_restore 87 = .ok (.iinc 1 1, 3) := by decide +kernel
theorem d_Model_restore_90 : decode b_Model_restore 90 = .ok (.goto (-34), 3) := by decide +kernel
theorem d_Model_restore_93 : decode b_Model_restore 93 = .ok (.aload_n 0, 1) := by decide +kernel
theorem d_Model_restore_94 : decode b_Model_restore 94 = .ok (.aload_n 0, 1) := by decide +kernel
theorem d_Model_restore_95 : decode b_Model_restore 95 = .ok (.getfield 423, 3) := by decide +kernel
theorem d_Model_restore_98 : decode b_Model_restore 98 = .ok (.putfield 125, 3) := by decide +kernel
theorem d_Model_restore_101 : decode b_Model_restore 101 = .ok (.aload_n 0, 1) := by decide +kernel
theorem d_Model_restore_102 : decode b_Model_restore 102 = .ok (.getfield 125, 3) := by decide +kernel
theorem d_Model_restore_105 : decode b_Model_restore 105 = .ok (.ireturn, 1) := by decide +kernel
theorem d_Model_count_0 : decode b_Model_count 0 = .ok (.iload_n 1, 1) := by decide +kernel
theorem d_Model_count_1 : decode b_Model_count 1 = .ok (.tableswitch 123 0 11 #[63, 68, 73, 78, 83, 88, 93, 98, 103, 108, 113, 118], 63) := by decide +kernel
theorem d_Model_count_64 : decode b_Model_count 64 = .ok (.aload_n 0, 1) := by decide +kernel
theorem d_Model_count_65 : decode b_Model_count 65 = .ok (.getfield 171, 3) := by decide +kernel
theorem d_Model_count_68 : decode b_Model_count 68 = .ok (.ireturn, 1) := by decide +kernel
theorem d_Model_count_69 : decode b_Model_count 69 = .ok (.aload_n 0, 1) := by decide +kernel
theorem d_Model_count_70 : decode b_Model_count 70 = .ok (.getfield 179, 3) := by decide +kernel
theorem d_Model_count_73 : decode b_Model_count 73 = .ok (.ireturn, 1) := by decide +kernel
theorem d_Model_count_74 : decode b_Model_count 74 = .ok (.aload_n 0, 1) := by decide +kernel
theorem d_Model_count_75 : decode b_Model_count 75 = .ok (.getfield 188, 3) := by decide +kernel
theorem d_Model_count_78 : decode b_Model_count 78 = .ok (.ireturn, 1) := by decide +kernel
theorem d_Model_count_79 : decode b_Model_count 79 = .ok (.aload_n 0, 1) := by decide +kernel
theorem d_Model_count_80 : decode b_Model_count 80 = .ok (.getfield 191, 3) := by decide +kernel
theorem d_Model_count_83 : decode b_Model_count 83 = .ok (.ireturn, 1) := by decide +kernel
theorem d_Model_count_84 : decode b_Model_count 84 = .ok (.aload_n 0, 1) := by decide +kernel
theorem d_Model_count_85 : decode b_Model_count 85 = .ok (.getfield 164, 3) := by decide +kernel
theorem d_Model_count_88 : decode b_Model_count 88 = .ok (.ireturn, 1) := by decide +kernel
theorem d_Model_count_89 : decode b_Model_count 89 = .ok (.aload_n 0, 1) := by decide +kernel
theorem d_Model_count_90 : decode b_Model_count 90 = .ok (.getfield 194, 3) := by decide +kernel
theorem d_Model_count_93 : decode b_Model_count 93 = .ok (.ireturn, 1) := by decide +kernel
theorem d_Model_count_94 : decode b_Model_count 94 = .ok (.aload_n 0, 1) := by decide +kernel
theorem d_Model_count_95 : decode b_Model_count 95 = .ok (.getfield 142, 3) := by decide +kernel
theorem d_Model_count_98 : decode b_Model_count 98 = .ok (.ireturn, 1) := by decide +kernel
theorem d_Model_count_99 : decode b_Model_count 99 = .ok (.aload_n 0, 1) := by decide +kernel
theorem d_Model_count_100 : decode b_Model_count 100 = .ok (.getfield 135, 3) := by decide +kernel
theorem d_Model_count_103 : decode b_Model_count 103 = .ok (.ireturn, 1) := by decide +kernel
theorem d_Model_count_104 : decode b_Model_count 104 = .ok (.aload_n 0, 1) := by decide +kernel
theorem d_Model_count_105 : decode b_Model_count 105 = .ok (.getfield 182, 3) := by decide +kernel
theorem d_Model_count_108 : decode b_Model_count 108 = .ok (.ireturn, 1) := by decide +kernel
theorem d_Model_count_109 : decode b_Model_count 109 = .ok (.aload_n 0, 1) := by decide +kernel
theorem d_Model_count_110 : decode b_Model_count 110 = .ok (.getfield 200, 3) := by decide +kernel
theorem d_Model_count_113 : decode b_Model_count 113 = .ok (.ireturn, 1) := by decide +kernel
theorem d_Model_count_114 : decode b_Model_count 114 = .ok (.aload_n 0, 1) := by decide +kernel
theorem d_Model_count_115 : decode b_Model_count 115 = .ok (.getfield 185, 3) := by decide +kernel
theorem d_Model_count_118 : decode b_Model_count 118 = .ok (.ireturn, 1) := by decide +kernel
theorem d_Model_count_119 : decode b_Model_count 119 = .ok (.aload_n 0, 1) := by decide +kernel
theorem d_Model_count_120 : decode b_Model_count 120 = .ok (.getfield 197, 3) := by decide +kernel
theorem d_Model_count_123 : decode b_Model_count 123 = .ok (.ireturn, 1) := by decide +kernel
theorem d_Model_count_124 : decode b_Model_count 124 = .ok (.iconst (-1), 1) := by decide +kernel
theorem d_Model_count_125 : decode b_Model_count 125 = .ok (.ireturn, 1) := by decide +kernel
theorem k1034 : Cond.fieldLink R_Model 407 "CellEngineModel" "foundTag" "I" ∈ lw_g := kg (List.mem_append_right _ (List.mem_of_getElem? (i := 1071) (by decide +kernel))) rfl
theorem k1035 : Cond.fieldLink R_Model 410 "CellEngineModel" "found" "I" ∈ lw_g := kg (List.mem_append_right _ (List.mem_of_getElem? (i := 1072) (by decide +kernel))) rfl
theorem k1036 : Cond.code y_Model_find b_Model_find 7 (some .boolean) ∈ lw_g := kg (List.mem_append_right _ (List.mem_of_getElem? (i := 1497) (by decide +kernel))) rfl
theorem k1037 : Cond.methodLink R_Model 413 y_Model_find ∈ lw_g := kg (List.mem_append_right _ (List.mem_of_getElem? (i := 1494) (by decide +kernel))) rfl
theorem k1038 : Cond.instanceMethod y_Model_find ∈ lw_g := kg (List.mem_append_right _ (List.mem_of_getElem? (i := 1496) (by decide +kernel))) rfl
theorem k1039 : Cond.selects R_Model y_Model_find y_Model_find ∈ lw_g := kg (List.mem_append_left _ (List.mem_of_getElem? (i := 104) (by decide +kernel))) rfl
theorem k1040 : Cond.code y_Model_unmark b_Model_unmark 2 none ∈ lw_g := kg (List.mem_append_right _ (List.mem_of_getElem? (i := 1525) (by decide +kernel))) rfl
theorem k1041 : Cond.methodLink R_Model 417 y_Model_unmark ∈ lw_g := kg (List.mem_append_right _ (List.mem_of_getElem? (i := 1522) (by decide +kernel))) rfl
theorem k1042 : Cond.instanceMethod y_Model_unmark ∈ lw_g := kg (List.mem_append_right _ (List.mem_of_getElem? (i := 1524) (by decide +kernel))) rfl
theorem k1043 : Cond.selects R_Model y_Model_unmark y_Model_unmark ∈ lw_g := kg (List.mem_append_left _ (List.mem_of_getElem? (i := 105) (by decide +kernel))) rfl
theorem k1044 : Cond.fieldLink R_Model 423 "CellEngineModel" "savedUsed" "I" ∈ lw_g := kg (List.mem_append_right _ (List.mem_of_getElem? (i := 1030) (by decide +kernel))) rfl
theorem k1045 : Cond.fieldLink R_Model 32 "CellEngineModel" "savedGlobalTags" "[I" ∈ lw_g := kg (List.mem_append_right _ (List.mem_of_getElem? (i := 1031) (by decide +kernel))) rfl
theorem k1046 : Cond.fieldLink R_Model 35 "CellEngineModel" "savedGlobals" "[I" ∈ lw_g := kg (List.mem_append_right _ (List.mem_of_getElem? (i := 1032) (by decide +kernel))) rfl
theorem k1047 : Cond.fieldLink R_Model 26 "CellEngineModel" "savedTags" "[I" ∈ lw_g := kg (List.mem_append_right _ (List.mem_of_getElem? (i := 1028) (by decide +kernel))) rfl
theorem k1048 : Cond.fieldLink R_Model 29 "CellEngineModel" "saved" "[I" ∈ lw_g := kg (List.mem_append_right _ (List.mem_of_getElem? (i := 1029) (by decide +kernel))) rfl
theorem k1049 : Cond.code y_Model_forget b_Model_forget 1 none ∈ lw_g := kg (List.mem_append_right _ (List.mem_of_getElem? (i := 1533) (by decide +kernel))) rfl
theorem k1050 : Cond.methodLink R_Model 420 y_Model_forget ∈ lw_g := kg (List.mem_append_right _ (List.mem_of_getElem? (i := 1530) (by decide +kernel))) rfl
theorem k1051 : Cond.instanceMethod y_Model_forget ∈ lw_g := kg (List.mem_append_right _ (List.mem_of_getElem? (i := 1532) (by decide +kernel))) rfl
theorem k1052 : Cond.selects R_Model y_Model_forget y_Model_forget ∈ lw_g := kg (List.mem_append_left _ (List.mem_of_getElem? (i := 106) (by decide +kernel))) rfl
set_option maxHeartbeats 4000000 in
set_option maxRecDepth 100000 in
theorem l_Model_find_1 {p : Program} {l : Launch} {e : Env} {s : State} {m : MethodId} {args : Array Value} {below : List Frame} {meth : Method} {c : Code} {Q : State → Prop} {A : Nat → Prop} (dC : Nat → ClassId) (dI : Nat → Nat → Nat) (N : Nat) (cB : ClassId) (cI : ClassId) (o_Model : Nat) (r : Nat → Nat) (I : Nat → Int32) (F : Nat → Nat → Int32) (p0 : Int32) (p1 : Int64) {ζ : Type} {z : ζ} (hx : p.tables.exec = Jvm.exec) (hb : c.code = b_Model_find) (hml : c.maxLocals = 7) (hown : s.vm.findClass R_Model = some m.cls) (hg : ∀ w ∈ lw_g, w.before args s = true) (hN : dz_N s) (hK : va_K (dC, dI) classes [(cB, .byte), (cI, .int)] s) (hA : ∀ q : Nat, s.heap.size ≤ q → A q) {k1_32 : Int32 → Option (ζ)} (hk1_32 : ∀   (y1_0 : Int32)  (H : Heap) (locs : List Loc) (ls : Array Slot), k1_32 y1_0 = some z → va_P (dC, dI) classes (wD cB cI o_Model r I F) H → va_D A (wD cB cI o_Model r I F) → va_S A s.heap H locs → lv_has ls 7 [(0, .ref o_Model), (1, .int p0), (2, .long p1)] → W p l e ({ frames := 2, cells := 0, slots := 0, locals := 43 } : Room) s m args below meth c H locs 0 0 Q (F0 m 32 ls [.int y1_0, .ref o_Model])) : ∀    (H : Heap) (locs : List Loc) (ls : Array Slot), lm_Model_find_1 N I F p0 k1_32  = some z → va_P (dC, dI) classes (wD cB cI o_Model r I F) H → va_D A (wD cB cI o_Model r I F) → va_S A s.heap H locs → lv_has ls 7 [(0, .ref o_Model), (1, .int p0), (2, .long p1)] → W p l e ({ frames := 2, cells := 0, slots := 0, locals := 43 } : Room) s m args below meth c H locs 0 0 Q (F0 m 15 ls [.ref o_Model]) := by
  intro H locs ls h hP hD hS hl
  unfold lm_Model_find_1 at h
  refine lv_iload_n hx hb d_Model_find_15 rfl (lv_at hl 1 rfl) ?_
  refine lv_if_ge (tgt := 26) hx hb d_Model_find_16 (by decide) (fun c3 => ?_) (fun c3 => ?_)
  · rw [if_pos c3] at h
    refine lv_aload_n hx hb d_Model_find_26 rfl (lv_at hl 0 rfl) ?_
    refine va_get (D := (dC, dI)) (ci := 10) (v := .ref (r 5)) (C := R_Model) (T := F_Model) (N := 54) hx hb hg i_Model hown hK hP 0 rfl rfl 5 (by decide) (hg _ k758) (fun _ h9 => h9) rfl d_Model_find_27 ?_
    refine lv_iload_n hx hb d_Model_find_30 rfl (lv_at hl 1 rfl) ?_
    obtain ⟨i4, h⟩ := dz_oi h
    refine va_iald (D := (dC, dI)) (f := F 5) hx hb hK hP 4 1 rfl rfl i4 d_Model_find_31 ?_
    exact hk1_32 ((F 5) p0.toNatClampNeg) _ _ _ h hP hD hS (lv_sub hl [0, 1, 2] rfl)
  · rw [if_neg c3] at h
    refine lv_aload_n hx hb d_Model_find_19 rfl (lv_at hl 0 rfl) ?_
    refine va_get (D := (dC, dI)) (ci := 10) (v := .int (I 7)) (C := R_Model) (T := F_Model) (N := 54) hx hb hg i_Model hown hK hP 0 rfl rfl 7 (by decide) (hg _ k728) (fun _ h9 => h9) rfl d_Model_find_20 ?_
    refine lv_goto (tgt := 32) hx hb d_Model_find_23 (by decide) ?_
    exact hk1_32 (I 7) _ _ _ h hP hD hS (lv_sub hl [0, 1, 2] rfl)
set_option maxHeartbeats 4000000 in
set_option maxRecDepth 100000 in
theorem l_Model_find_2 {p : Program} {l : Launch} {e : Env} {s : State} {m : MethodId} {args : Array Value} {below : List Frame} {meth : Method} {c : Code} {Q : State → Prop} {A : Nat → Prop} (dC : Nat → ClassId) (dI : Nat → Nat → Nat) (N : Nat) (cB : ClassId) (cI : ClassId) (o_Model : Nat) (r : Nat → Nat) (F : Nat → Nat → Int32) (p0 : Int32) (p1 : Int64) (J5 : Nat → Int32) {ζ : Type} {z : ζ} (hx : p.tables.exec = Jvm.exec) (hb : c.code = b_Model_find) (hml : c.maxLocals = 7) (hown : s.vm.findClass R_Model = some m.cls) (hg : ∀ w ∈ lw_g, w.before args s = true) (hN : dz_N s) (hK : va_K (dC, dI) classes [(cB, .byte), (cI, .int)] s) (hA : ∀ q : Nat, s.heap.size ≤ q → A q) {k2_53 : Int32 → Option (ζ)} (hk2_53 : ∀   (y2_0 : Int32)  (H : Heap) (locs : List Loc) (ls : Array Slot), k2_53 y2_0 = some z → va_P (dC, dI) classes (wD cB cI o_Model r J5 F) H → va_D A (wD cB cI o_Model r J5 F) → va_S A s.heap H locs → lv_has ls 7 [(0, .ref o_Model), (1, .int p0), (2, .long p1)] → W p l e ({ frames := 2, cells := 0, slots := 0, locals := 43 } : Room) s m args below meth c H locs 0 0 Q (F0 m 53 ls [.int y2_0, .ref o_Model])) : ∀    (H : Heap) (locs : List Loc) (ls : Array Slot), lm_Model_find_2 N F p0 J5 k2_53  = some z → va_P (dC, dI) classes (wD cB cI o_Model r J5 F) H → va_D A (wD cB cI o_Model r J5 F) → va_S A s.heap H locs → lv_has ls 7 [(0, .ref o_Model), (1, .int p0), (2, .long p1)] → W p l e ({ frames := 2, cells := 0, slots := 0, locals := 43 } : Room) s m args below meth c H locs 0 0 Q (F0 m 36 ls [.ref o_Model]) := by
  intro H locs ls h hP hD hS hl
  unfold lm_Model_find_2 at h
  refine lv_iload_n hx hb d_Model_find_36 rfl (lv_at hl 1 rfl) ?_
  refine lv_if_ge (tgt := 47) hx hb d_Model_find_37 (by decide) (fun c6 => ?_) (fun c6 => ?_)
  · rw [if_pos c6] at h
    refine lv_aload_n hx hb d_Model_find_47 rfl (lv_at hl 0 rfl) ?_
    refine va_get (D := (dC, dI)) (ci := 10) (v := .ref (r 6)) (C := R_Model) (T := F_Model) (N := 54) hx hb hg i_Model hown hK hP 0 rfl rfl 6 (by decide) (hg _ k759) (fun _ h9 => h9) rfl d_Model_find_48 ?_
    refine lv_iload_n hx hb d_Model_find_51 rfl (lv_at hl 1 rfl) ?_
    obtain ⟨i7, h⟩ := dz_oi h
    refine va_iald (D := (dC, dI)) (f := F 6) hx hb hK hP 5 1 rfl rfl i7 d_Model_find_52 ?_
    exact hk2_53 ((F 6) p0.toNatClampNeg) _ _ _ h hP hD hS (lv_sub hl [0, 1, 2] rfl)
  · rw [if_neg c6] at h
    refine lv_aload_n hx hb d_Model_find_40 rfl (lv_at hl 0 rfl) ?_
    refine va_get (D := (dC, dI)) (ci := 10) (v := .int (J5 8)) (C := R_Model) (T := F_Model) (N := 54) hx hb hg i_Model hown hK hP 0 rfl rfl 8 (by decide) (hg _ k729) (fun _ h9 => h9) rfl d_Model_find_41 ?_
    refine lv_goto (tgt := 53) hx hb d_Model_find_44 (by decide) ?_
    exact hk2_53 (J5 8) _ _ _ h hP hD hS (lv_sub hl [0, 1, 2] rfl)
set_option maxHeartbeats 4000000 in
set_option maxRecDepth 100000 in
theorem l_Model_find_3 {p : Program} {l : Launch} {e : Env} {s : State} {m : MethodId} {args : Array Value} {below : List Frame} {meth : Method} {c : Code} {Q : State → Prop} {A : Nat → Prop} (dC : Nat → ClassId) (dI : Nat → Nat → Nat) (N : Nat) (cB : ClassId) (cI : ClassId) (o_Model : Nat) (r : Nat → Nat) (F : Nat → Nat → Int32) (p0 : Int32) (p1 : Int64) {ζ : Type} {z : ζ} (hx : p.tables.exec = Jvm.exec) (hb : c.code = b_Model_find) (hml : c.maxLocals = 7) (hown : s.vm.findClass R_Model = some m.cls) (hg : ∀ w ∈ lw_g, w.before args s = true) (hN : dz_N s) (hK : va_K (dC, dI) classes [(cB, .byte), (cI, .int)] s) (hA : ∀ q : Nat, s.heap.size ≤ q → A q) {k3_150 : Int32 → (Nat → Int32) → Option (ζ)} {k3_111 : Int32 → (Nat → Int32) → Option (ζ)} (hk3_150 : ∀ (v3_4 : Int32) (w3_I : (Nat → Int32))    (H : Heap) (locs : List Loc) (ls : Array Slot), k3_150 v3_4 w3_I = some z → va_P (dC, dI) classes (wD cB cI o_Model r w3_I F) H → va_D A (wD cB cI o_Model r w3_I F) → va_S A s.heap H locs → lv_has ls 7 [(4, .int v3_4), (0, .ref o_Model), (1, .int p0), (2, .long p1)] → W p l e ({ frames := 2, cells := 0, slots := 0, locals := 43 } : Room) s m args below meth c H locs 0 0 Q (F0 m 150 ls [])) (hk3_111 : ∀ (v3_4 : Int32) (w3_I : (Nat → Int32))    (H : Heap) (locs : List Loc) (ls : Array Slot), k3_111 v3_4 w3_I = some z → va_P (dC, dI) classes (wD cB cI o_Model r w3_I F) H → va_D A (wD cB cI o_Model r w3_I F) → va_S A s.heap H locs → lv_has ls 7 [(4, .int v3_4), (0, .ref o_Model), (1, .int p0), (2, .long p1)] → W p l e ({ frames := 2, cells := 0, slots := 0, locals := 43 } : Room) s m args below meth c H locs 0 0 Q (F0 m 111 ls [])) : ∀ (n3 : Nat) (v3_4 : Int32) (w3_I : (Nat → Int32))   (H : Heap) (locs : List Loc) (ls : Array Slot), lm_Model_find_3 N F p1 k3_150 k3_111 n3 v3_4 w3_I = some z → va_P (dC, dI) classes (wD cB cI o_Model r w3_I F) H → va_D A (wD cB cI o_Model r w3_I F) → va_S A s.heap H locs → lv_has ls 7 [(4, .int v3_4), (0, .ref o_Model), (1, .int p0), (2, .long p1)] → W p l e ({ frames := 2, cells := 0, slots := 0, locals := 43 } : Room) s m args below meth c H locs 0 0 Q (F0 m 59 ls []) := by
  intro n3
  induction n3 with
  | zero =>
    intro v3_4 w3_I H locs ls h hP hD hS hl
    rw [lm_Model_find_3] at h
    cases h
  | succ n3 ih3 =>
    intro v3_4 w3_I H locs ls h hP hD hS hl
    rw [lm_Model_find_3] at h
    refine lv_iload hx hb d_Model_find_59 (lv_at hl 0 rfl) ?_
    refine lv_bipush (v := 64) hx hb d_Model_find_61 (by decide) ?_
    refine lv_icmp_ge (tgt := 150) hx hb d_Model_find_63 (by decide) (fun c9 => ?_) (fun c9 => ?_)
    · rw [if_pos c9] at h
      exact hk3_150 v3_4 w3_I _ _ _ h hP hD hS (lv_sub hl [0, 1, 2, 3] rfl)
    · rw [if_neg c9] at h
      refine lv_lload_n hx hb d_Model_find_66 rfl (lv_at hl 3 rfl) ?_
      refine lv_iload hx hb d_Model_find_67 (lv_at hl 0 rfl) ?_
      refine lv_lshr (v := p1 >>> (v3_4.toInt64 &&& 63)) hx hb d_Model_find_69 rfl ?_
      refine lv_ldc2 (v := 255) hx hb hown (hg _ k712) d_Model_find_70 ?_
      refine lv_land hx hb d_Model_find_73 ?_
      refine lv_lconst (v := 0) hx hb d_Model_find_74 (by decide) ?_
      refine W.lcmp hx hb d_Model_find_75 ?_
      refine lv_if_eq (tgt := 150) hx hb d_Model_find_76 (by decide) (fun c10 => ?_) (fun c10 => ?_)
      · rw [if_pos c10] at h
        exact hk3_150 v3_4 w3_I _ _ _ h hP hD hS (lv_sub hl [0, 1, 2, 3] rfl)
      · rw [if_neg c10] at h
        refine lv_lload_n hx hb d_Model_find_79 rfl (lv_at hl 3 rfl) ?_
        refine lv_iload hx hb d_Model_find_80 (lv_at hl 0 rfl) ?_
        refine lv_lshr (v := p1 >>> (v3_4.toInt64 &&& 63)) hx hb d_Model_find_82 rfl ?_
        refine lv_ldc2 (v := 255) hx hb hown (hg _ k712) d_Model_find_83 ?_
        refine lv_land hx hb d_Model_find_86 ?_
        refine lv_l2i (v := ((p1 >>> (v3_4.toInt64 &&& 63)) &&& 255).toInt32) hx hb d_Model_find_87 rfl ?_
        refine lv_istore (lv' := [(5, .int (((p1 >>> (v3_4.toInt64 &&& 63)) &&& 255).toInt32)), (4, .int v3_4), (0, .ref o_Model), (1, .int p0), (2, .long p1)]) hx hb d_Model_find_88 hl (by decide) rfl (fun ls hl => ?_)
        refine lv_aload_n hx hb d_Model_find_90 rfl (lv_at hl 2 rfl) ?_
        refine va_get (D := (dC, dI)) (ci := 10) (v := .int (w3_I 52)) (C := R_Model) (T := F_Model) (N := 54) hx hb hg i_Model hown hK hP 0 rfl rfl 52 (by decide) (hg _ k1034) (fun _ h9 => h9) rfl d_Model_find_91 ?_
        refine lv_iconst (v := 2) hx hb d_Model_find_94 (by decide) ?_
        refine lv_icmp_ne (tgt := 111) hx hb d_Model_find_95 (by decide) (fun c11 => ?_) (fun c11 => ?_)
        · rw [if_neg c11] at h
          exact hk3_111 v3_4 w3_I _ _ _ h hP hD hS (lv_sub hl [1, 2, 3, 4] rfl)
        · rw [if_pos c11] at h
          refine lv_iload hx hb d_Model_find_98 (lv_at hl 0 rfl) ?_
          refine lv_aload_n hx hb d_Model_find_100 rfl (lv_at hl 2 rfl) ?_
          refine lv_aload_n hx hb d_Model_find_101 rfl (lv_at hl 2 rfl) ?_
          refine va_get (D := (dC, dI)) (ci := 10) (v := .int (w3_I 53)) (C := R_Model) (T := F_Model) (N := 54) hx hb hg i_Model hown hK hP 0 rfl rfl 53 (by decide) (hg _ k1035) (fun _ h9 => h9) rfl d_Model_find_102 ?_
          obtain ⟨z12_1, hc12, h⟩ := dz_ob h
          try dsimp only at h
          have hPc := hP
          have hKc := hK
          refine vp_callSi (va_Run.run (va_runV (As := [.int (w3_I 53)]) (rest := [.int (((p1 >>> (v3_4.toInt64 &&& 63)) &&& 255).toInt32)]) ⟨hx, hb, hml, hown, hg⟩ (c_Model_partsAt l dC dI N cB cI o_Model r w3_I F (w3_I 53) z12_1 hc12) (cwV 1 hg (gd_V k744 k745 k746 k707 k743) rfl rfl rfl (by decide +kernel) ⟨Nat.le_of_ble_eq_true rfl, Nat.le_of_ble_eq_true rfl⟩) ⟨dz_blindR, va_recv hKc hPc (ci := 10) (q0 := 0) rfl rfl, fun U hU hW => ⟨rfl, dz_Nw hW hN, by rw [hU]; exact hPc, va_K.moved hW.alike hKc⟩⟩ rfl rfl hl.1 rfl (lv_room (Nat.le_of_ble_eq_true rfl)) d_Model_find_105 ⟨Nat.le_of_ble_eq_true rfl, Nat.le_of_ble_eq_true rfl⟩)) (fun r12 hw => ?_)
          have hw : z12_1 = r12 := hw.symm
          subst hw
          refine lv_icmp_le (tgt := 113) hx hb d_Model_find_108 (by decide) (fun c13 => ?_) (fun c13 => ?_)
          · rw [if_pos c13] at h
            refine lv_aload_n hx hb d_Model_find_113 rfl (lv_at hl 2 rfl) ?_
            refine va_get (D := (dC, dI)) (ci := 10) (v := .int (w3_I 53)) (C := R_Model) (T := F_Model) (N := 54) hx hb hg i_Model hown hK hP 0 rfl rfl 53 (by decide) (hg _ k1035) (fun _ h9 => h9) rfl d_Model_find_114 ?_
            refine lv_iload hx hb d_Model_find_117 (lv_at hl 0 rfl) ?_
            refine lv_iadd hx hb d_Model_find_119 ?_
            refine lv_istore (lv' := [(6, .int ((w3_I 53) + (((p1 >>> (v3_4.toInt64 &&& 63)) &&& 255).toInt32))), (5, .int (((p1 >>> (v3_4.toInt64 &&& 63)) &&& 255).toInt32)), (4, .int v3_4), (0, .ref o_Model), (1, .int p0), (2, .long p1)]) hx hb d_Model_find_120 hl (by decide) rfl (fun ls hl => ?_)
            refine lv_aload_n hx hb d_Model_find_122 rfl (lv_at hl 3 rfl) ?_
            refine lv_aload_n hx hb d_Model_find_123 rfl (lv_at hl 3 rfl) ?_
            refine va_get (D := (dC, dI)) (ci := 10) (v := .ref (r 0)) (C := R_Model) (T := F_Model) (N := 54) hx hb hg i_Model hown hK hP 0 rfl rfl 0 (by decide) (hg _ k737) (fun _ h9 => h9) rfl d_Model_find_124 ?_
            refine lv_iload hx hb d_Model_find_127 (lv_at hl 0 rfl) ?_
            obtain ⟨i14, h⟩ := dz_oi h
            refine va_iald (D := (dC, dI)) (f := F 0) hx hb hK hP 1 1 rfl rfl i14 d_Model_find_129 ?_
            obtain ⟨x15, ex15, h⟩ := dz_lt h
            refine dz_topi ex15 ?_
            refine va_put (D := (dC, dI)) (ci := 10) (v := .int x15) (ty := .int) (C := R_Model) (T := F_Model) (N := 54) hx hb hg i_Model t_Model t_Model_ok n_Model hown hK hP hD hS 0 rfl rfl 52 (by decide) (hg _ k1034) (fun _ h9 => h9) rfl (by decide +kernel) rfl rfl (Nat.le_of_ble_eq_true rfl) d_Model_find_130 (fun H locs hP hD hS => ?_)
            obtain ⟨J16, eJ16, h⟩ := dz_lt h
            have hP : va_P (dC, dI) classes (wD cB cI o_Model r J16 F) H := by rw [eJ16]; exact hP
            have hD : va_D A (wD cB cI o_Model r J16 F) := by rw [eJ16]; exact hD
            refine lv_aload_n hx hb d_Model_find_133 rfl (lv_at hl 3 rfl) ?_
            refine lv_aload_n hx hb d_Model_find_134 rfl (lv_at hl 3 rfl) ?_
            refine va_get (D := (dC, dI)) (ci := 10) (v := .ref (r 1)) (C := R_Model) (T := F_Model) (N := 54) hx hb hg i_Model hown hK hP 0 rfl rfl 1 (by decide) (hg _ k742) (fun _ h9 => h9) rfl d_Model_find_135 ?_
            refine lv_iload hx hb d_Model_find_138 (lv_at hl 0 rfl) ?_
            obtain ⟨i17, h⟩ := dz_oi h
            refine va_iald (D := (dC, dI)) (f := F 1) hx hb hK hP 2 1 rfl rfl i17 d_Model_find_140 ?_
            obtain ⟨x18, ex18, h⟩ := dz_lt h
            refine dz_topi ex18 ?_
            refine va_put (D := (dC, dI)) (ci := 10) (v := .int x18) (ty := .int) (C := R_Model) (T := F_Model) (N := 54) hx hb hg i_Model t_Model t_Model_ok n_Model hown hK hP hD hS 0 rfl rfl 53 (by decide) (hg _ k1035) (fun _ h9 => h9) rfl (by decide +kernel) rfl rfl (Nat.le_of_ble_eq_true rfl) d_Model_find_141 (fun H locs hP hD hS => ?_)
            obtain ⟨J19, eJ19, h⟩ := dz_lt h
            have hP : va_P (dC, dI) classes (wD cB cI o_Model r J19 F) H := by rw [eJ19]; exact hP
            have hD : va_D A (wD cB cI o_Model r J19 F) := by rw [eJ19]; exact hD
            refine lv_iinc (v := v3_4 + 8) (lv' := [(4, .int (v3_4 + 8)), (6, .int ((w3_I 53) + (((p1 >>> (v3_4.toInt64 &&& 63)) &&& 255).toInt32))), (5, .int (((p1 >>> (v3_4.toInt64 &&& 63)) &&& 255).toInt32)), (0, .ref o_Model), (1, .int p0), (2, .long p1)]) hx hb d_Model_find_144 hl (k := 2) rfl rfl (by decide) rfl (fun ls hl => ?_)
            refine lv_goto (tgt := 59) hx hb d_Model_find_147 (by decide) ?_
            exact ih3 (v3_4 + 8) J19 _ _ _ h hP hD hS (lv_sub hl [0, 3, 4, 5] rfl)
          · rw [if_neg c13] at h
            exact hk3_111 v3_4 w3_I _ _ _ h hP hD hS (lv_sub hl [1, 2, 3, 4] rfl)
set_option maxHeartbeats 4000000 in
set_option maxRecDepth 100000 in
theorem c_Model_find (l : Launch) (dC : Nat → ClassId) (dI : Nat → Nat → Nat) (N : Nat) (cB : ClassId) (cI : ClassId) (o_Model : Nat) (r : Nat → Nat) (I : Nat → Int32) (F : Nat → Nat → Int32) (p0 : Int32) (p1 : Int64) (sz : Nat) (z : Int32 × (Nat → Int32)) (h : m_Model_find N I F p0 p1 = some z) : Met l y_Model_find (.code y_Model_find b_Model_find 7 (some .boolean) :: lw_g) ({ frames := 2, cells := 0, slots := 0, locals := 43 }) (va_Pc [.ref o_Model, .int p0, .long p1] (fun U => dz_N U ∧ U.heap.size = sz ∧ va_P (dC, dI) classes (wD cB cI o_Model r I F) U.heap ∧ va_K (dC, dI) classes [(cB, .byte), (cI, .int)] U ∧ va_D (fun _ => True) (wD cB cI o_Model r I F))) (va_Qi (fun (r : Int32) (_ : Unit) => r = z.1 ∧ narrow .boolean (.int z.1) = .int z.1 ∧ fits .boolean (.int z.1) = true) (fun (u : Unit) t => va_P (dC, dI) classes (wD cB cI o_Model r z.2 F) t.heap ∧ va_K (dC, dI) classes [(cB, .byte), (cI, .int)] t ∧ va_D (va_A (wD cB cI o_Model r I F) sz) (wD cB cI o_Model r z.2 F)) (va_A (wD cB cI o_Model r I F) sz)) 0 0 (va_A (wD cB cI o_Model r I F) sz) := by
  refine Met.ofW (cc := b_Model_find) (maxL := 7) (ret := (some .boolean)) (by decide +kernel) rfl ?_
  intro p e s m args below meth c s₁ B hml hv
  obtain ⟨rfl, hN, hsz, hP, hK, hD0⟩ := hv
  have hx := B.exec
  have hb := B.bytes
  have hr := B.returns
  have hg : ∀ w ∈ lw_g, w.before _ s = true := fun w hw => atoms_spec (ws := .code y_Model_find b_Model_find 7 (some .boolean) :: lw_g) B.pre w (List.mem_cons_of_mem _ hw)
  have hown : s.vm.findClass R_Model = some m.cls := findClass_of_methodNamed B.named
  have hlocks := B.notSynchronized
  clear B
  subst hsz
  have hD := hD0.self (sz := s.heap.size)
  generalize hAe : va_A (wD cB cI o_Model r I F) s.heap.size = A at hD ⊢
  have hA : ∀ q : Nat, s.heap.size ≤ q → A q := fun q h => by rw [← hAe]; exact Or.inr h
  have hS : va_S A s.heap s.heap [] := va_S.rf
  have hP : va_P (dC, dI) classes (wD cB cI o_Model r I F) s.heap := hP
  have hl := lv_entry ([.ref o_Model, .int p0, .long p1]) (n := 7) (Nat.le_of_ble_eq_true rfl)
  rw [lg_entry_eq]
  generalize (lg_sl ([.ref o_Model, .int p0, .long p1]) ++ List.replicate (7 - (lg_sl ([.ref o_Model, .int p0, .long p1])).length) Slot.unset).toArray = ls at hl ⊢
  have hl : lv_has ls 7 [(0, .ref o_Model), (1, .int p0), (2, .long p1)] := hl
  unfold m_Model_find at h
  refine lv_iload_n hx hb d_Model_find_0 rfl (lv_at hl 1 rfl) ?_
  refine lv_iconst (v := (-1)) hx hb d_Model_find_1 (by decide) ?_
  refine lv_icmp_lt (tgt := 12) hx hb d_Model_find_2 (by decide) (fun c1 => ?_) (fun c1 => ?_)
  · rw [if_pos c1] at h
    refine lv_iconst (v := 0) hx hb d_Model_find_12 (by decide) ?_
    obtain rfl := Option.some.inj h
    have hP9 := hP
    have hD9 := hD
    have hK9 := hK
    exact W.zret (v := 0) (ty := .boolean) hx hb hr (show narrow .boolean (.int 0) = .int 0 from rfl) (fun t ht hW => ⟨⟨0, (), rfl, ⟨rfl, (show narrow .boolean (.int 0) = .int 0 from rfl), (show fits .boolean (.int 0) = true from rfl)⟩, by rw [ht]; exact hP9, va_K.moved hW.alike hK9, hD9⟩, hS.F ht⟩) hS.2.2 d_Model_find_13
  · rw [if_neg c1] at h
    refine lv_iload_n hx hb d_Model_find_5 rfl (lv_at hl 1 rfl) ?_
    refine lv_sipush (v := 2048) hx hb d_Model_find_6 (by decide) ?_
    refine lv_icmp_lt (tgt := 14) hx hb d_Model_find_9 (by decide) (fun c2 => ?_) (fun c2 => ?_)
    · rw [if_pos c2] at h
      refine lv_aload_n hx hb d_Model_find_14 rfl (lv_at hl 0 rfl) ?_
      refine l_Model_find_1 dC dI N cB cI o_Model r I F p0 p1 hx hb hml hown hg hN hK hA (fun y1_0 H locs ls h hP hD hS hl => ?_)  _ _ _ h hP hD hS (lv_sub hl [0, 1, 2] rfl)
      refine va_put (D := (dC, dI)) (ci := 10) (v := .int y1_0) (ty := .int) (C := R_Model) (T := F_Model) (N := 54) hx hb hg i_Model t_Model t_Model_ok n_Model hown hK hP hD hS 0 rfl rfl 52 (by decide) (hg _ k1034) (fun _ h9 => h9) rfl (by decide +kernel) rfl rfl (Nat.le_of_ble_eq_true rfl) d_Model_find_32 (fun H locs hP hD hS => ?_)
      obtain ⟨J5, eJ5, h⟩ := dz_lt h
      have hP : va_P (dC, dI) classes (wD cB cI o_Model r J5 F) H := by rw [eJ5]; exact hP
      have hD : va_D A (wD cB cI o_Model r J5 F) := by rw [eJ5]; exact hD
      refine lv_aload_n hx hb d_Model_find_35 rfl (lv_at hl 0 rfl) ?_
      refine l_Model_find_2 dC dI N cB cI o_Model r F p0 p1 J5 hx hb hml hown hg hN hK hA (fun y2_0 H locs ls h hP hD hS hl => ?_)  _ _ _ h hP hD hS (lv_sub hl [0, 1, 2] rfl)
      refine va_put (D := (dC, dI)) (ci := 10) (v := .int y2_0) (ty := .int) (C := R_Model) (T := F_Model) (N := 54) hx hb hg i_Model t_Model t_Model_ok n_Model hown hK hP hD hS 0 rfl rfl 53 (by decide) (hg _ k1035) (fun _ h9 => h9) rfl (by decide +kernel) rfl rfl (Nat.le_of_ble_eq_true rfl) d_Model_find_53 (fun H locs hP hD hS => ?_)
      obtain ⟨J8, eJ8, h⟩ := dz_lt h
      have hP : va_P (dC, dI) classes (wD cB cI o_Model r J8 F) H := by rw [eJ8]; exact hP
      have hD : va_D A (wD cB cI o_Model r J8 F) := by rw [eJ8]; exact hD
      refine lv_iconst (v := 0) hx hb d_Model_find_56 (by decide) ?_
      refine lv_istore (lv' := [(4, .int 0), (0, .ref o_Model), (1, .int p0), (2, .long p1)]) hx hb d_Model_find_57 hl (by decide) rfl (fun ls hl => ?_)
      refine l_Model_find_3 dC dI N cB cI o_Model r F p0 p1 hx hb hml hown hg hN hK hA (fun v3_4 w3_I H locs ls h hP hD hS hl => ?_) (fun v3_4 w3_I H locs ls h hP hD hS hl => ?_) N (0 : Int32) J8 _ _ _ h hP hD hS (lv_sub hl [0, 1, 2, 3] rfl)
      · skip
        refine lv_iconst (v := 1) hx hb d_Model_find_150 (by decide) ?_
        obtain rfl := Option.some.inj h
        have hP9 := hP
        have hD9 := hD
        have hK9 := hK
        exact W.zret (v := 1) (ty := .boolean) hx hb hr (show narrow .boolean (.int 1) = .int 1 from rfl) (fun t ht hW => ⟨⟨1, (), rfl, ⟨rfl, (show narrow .boolean (.int 1) = .int 1 from rfl), (show fits .boolean (.int 1) = true from rfl)⟩, by rw [ht]; exact hP9, va_K.moved hW.alike hK9, hD9⟩, hS.F ht⟩) hS.2.2 d_Model_find_151
      · skip
        refine lv_iconst (v := 0) hx hb d_Model_find_111 (by decide) ?_
        obtain rfl := Option.some.inj h
        have hP9 := hP
        have hD9 := hD
        have hK9 := hK
        exact W.zret (v := 0) (ty := .boolean) hx hb hr (show narrow .boolean (.int 0) = .int 0 from rfl) (fun t ht hW => ⟨⟨0, (), rfl, ⟨rfl, (show narrow .boolean (.int 0) = .int 0 from rfl), (show fits .boolean (.int 0) = true from rfl)⟩, by rw [ht]; exact hP9, va_K.moved hW.alike hK9, hD9⟩, hS.F ht⟩) hS.2.2 d_Model_find_112
    · rw [if_neg c2] at h
      refine lv_iconst (v := 0) hx hb d_Model_find_12 (by decide) ?_
      obtain rfl := Option.some.inj h
      have hP9 := hP
      have hD9 := hD
      have hK9 := hK
      exact W.zret (v := 0) (ty := .boolean) hx hb hr (show narrow .boolean (.int 0) = .int 0 from rfl) (fun t ht hW => ⟨⟨0, (), rfl, ⟨rfl, (show narrow .boolean (.int 0) = .int 0 from rfl), (show fits .boolean (.int 0) = true from rfl)⟩, by rw [ht]; exact hP9, va_K.moved hW.alike hK9, hD9⟩, hS.F ht⟩) hS.2.2 d_Model_find_13

set_option maxHeartbeats 4000000 in
set_option maxRecDepth 100000 in
theorem l_Model_look_1 {p : Program} {l : Launch} {e : Env} {s : State} {m : MethodId} {args : Array Value} {below : List Frame} {meth : Method} {c : Code} {Q : State → Prop} {A : Nat → Prop} (dC : Nat → ClassId) (dI : Nat → Nat → Nat) (N : Nat) (cB : ClassId) (cI : ClassId) (o_Model : Nat) (r : Nat → Nat) (F : Nat → Nat → Int32) (p0 : Int32) (p1 : Int64) (p2 : Int32) (z1_2 : Nat → Int32) {ζ : Type} {z : ζ} (hx : p.tables.exec = Jvm.exec) (hb : c.code = b_Model_look) (hml : c.maxLocals = 7) (hown : s.vm.findClass R_Model = some m.cls) (hg : ∀ w ∈ lw_g, w.before args s = true) (hN : dz_N s) (hK : va_K (dC, dI) classes [(cB, .byte), (cI, .int)] s) (hA : ∀ q : Nat, s.heap.size ≤ q → A q) {k1_24 : Int32 → Option (ζ)} (hk1_24 : ∀   (y1_0 : Int32)  (H : Heap) (locs : List Loc) (ls : Array Slot), k1_24 y1_0 = some z → va_P (dC, dI) classes (wD cB cI o_Model r z1_2 F) H → va_D A (wD cB cI o_Model r z1_2 F) → va_S A s.heap H locs → lv_has ls 7 [(0, .ref o_Model), (1, .int p0), (2, .long p1), (4, .int p2)] → W p l e ({ frames := 3, cells := 0, slots := 0, locals := 69 } : Room) s m args below meth c H locs 0 0 Q (F0 m 24 ls [.int y1_0])) : ∀    (H : Heap) (locs : List Loc) (ls : Array Slot), lm_Model_look_1 N z1_2 k1_24  = some z → va_P (dC, dI) classes (wD cB cI o_Model r z1_2 F) H → va_D A (wD cB cI o_Model r z1_2 F) → va_S A s.heap H locs → lv_has ls 7 [(0, .ref o_Model), (1, .int p0), (2, .long p1), (4, .int p2)] → W p l e ({ frames := 3, cells := 0, slots := 0, locals := 69 } : Room) s m args below meth c H locs 0 0 Q (F0 m 11 ls []) := by
  intro H locs ls h hP hD hS hl
  unfold lm_Model_look_1 at h
  refine lv_aload_n hx hb d_Model_look_11 rfl (lv_at hl 0 rfl) ?_
  refine va_get (D := (dC, dI)) (ci := 10) (v := .int (z1_2 52)) (C := R_Model) (T := F_Model) (N := 54) hx hb hg i_Model hown hK hP 0 rfl rfl 52 (by decide) (hg _ k1034) (fun _ h9 => h9) rfl d_Model_look_12 ?_
  refine lv_iconst (v := 2) hx hb d_Model_look_15 (by decide) ?_
  refine lv_icmp_ne (tgt := 23) hx hb d_Model_look_16 (by decide) (fun c3 => ?_) (fun c3 => ?_)
  · rw [if_neg c3] at h
    refine lv_iconst (v := 0) hx hb d_Model_look_23 (by decide) ?_
    exact hk1_24 (0 : Int32) _ _ _ h hP hD hS (lv_sub hl [0, 1, 2, 3] rfl)
  · rw [if_pos c3] at h
    refine lv_iconst (v := 1) hx hb d_Model_look_19 (by decide) ?_
    refine lv_goto (tgt := 24) hx hb d_Model_look_20 (by decide) ?_
    exact hk1_24 (1 : Int32) _ _ _ h hP hD hS (lv_sub hl [0, 1, 2, 3] rfl)
set_option maxHeartbeats 4000000 in
set_option maxRecDepth 100000 in
theorem l_Model_look_2 {p : Program} {l : Launch} {e : Env} {s : State} {m : MethodId} {args : Array Value} {below : List Frame} {meth : Method} {c : Code} {Q : State → Prop} {A : Nat → Prop} (dC : Nat → ClassId) (dI : Nat → Nat → Nat) (N : Nat) (cB : ClassId) (cI : ClassId) (o_Model : Nat) (r : Nat → Nat) (F : Nat → Nat → Int32) (p0 : Int32) (p1 : Int64) (p2 : Int32) (z1_2 : Nat → Int32) (y1_0 : Int32) {ζ : Type} {z : ζ} (hx : p.tables.exec = Jvm.exec) (hb : c.code = b_Model_look) (hml : c.maxLocals = 7) (hown : s.vm.findClass R_Model = some m.cls) (hg : ∀ w ∈ lw_g, w.before args s = true) (hN : dz_N s) (hK : va_K (dC, dI) classes [(cB, .byte), (cI, .int)] s) (hA : ∀ q : Nat, s.heap.size ≤ q → A q) {k2_50 : Int32 → Option (ζ)} (hk2_50 : ∀   (y2_0 : Int32)  (H : Heap) (locs : List Loc) (ls : Array Slot), k2_50 y2_0 = some z → va_P (dC, dI) classes (wD cB cI o_Model r z1_2 F) H → va_D A (wD cB cI o_Model r z1_2 F) → va_S A s.heap H locs → lv_has ls 7 [(5, .int y1_0), (0, .ref o_Model), (1, .int p0), (2, .long p1), (4, .int p2)] → W p l e ({ frames := 3, cells := 0, slots := 0, locals := 69 } : Room) s m args below meth c H locs 0 0 Q (F0 m 50 ls [.int y2_0])) : ∀    (H : Heap) (locs : List Loc) (ls : Array Slot), lm_Model_look_2 N F z1_2 y1_0 k2_50  = some z → va_P (dC, dI) classes (wD cB cI o_Model r z1_2 F) H → va_D A (wD cB cI o_Model r z1_2 F) → va_S A s.heap H locs → lv_has ls 7 [(5, .int y1_0), (0, .ref o_Model), (1, .int p0), (2, .long p1), (4, .int p2)] → W p l e ({ frames := 3, cells := 0, slots := 0, locals := 69 } : Room) s m args below meth c H locs 0 0 Q (F0 m 26 ls []) := by
  intro H locs ls h hP hD hS hl
  unfold lm_Model_look_2 at h
  refine lv_iload hx hb d_Model_look_26 (lv_at hl 0 rfl) ?_
  refine lv_if_eq (tgt := 42) hx hb d_Model_look_28 (by decide) (fun c4 => ?_) (fun c4 => ?_)
  · rw [if_pos c4] at h
    refine lv_aload_n hx hb d_Model_look_42 rfl (lv_at hl 1 rfl) ?_
    refine va_get (D := (dC, dI)) (ci := 10) (v := .int (z1_2 52)) (C := R_Model) (T := F_Model) (N := 54) hx hb hg i_Model hown hK hP 0 rfl rfl 52 (by decide) (hg _ k1034) (fun _ h9 => h9) rfl d_Model_look_43 ?_
    refine lv_sipush (v := 255) hx hb d_Model_look_46 (by decide) ?_
    refine lv_iand hx hb d_Model_look_49 ?_
    exact hk2_50 ((z1_2 52) &&& 255) _ _ _ h hP hD hS (lv_sub hl [0, 1, 2, 3, 4] rfl)
  · rw [if_neg c4] at h
    refine lv_aload_n hx hb d_Model_look_31 rfl (lv_at hl 1 rfl) ?_
    refine lv_aload_n hx hb d_Model_look_32 rfl (lv_at hl 1 rfl) ?_
    refine va_get (D := (dC, dI)) (ci := 10) (v := .int (z1_2 53)) (C := R_Model) (T := F_Model) (N := 54) hx hb hg i_Model hown hK hP 0 rfl rfl 53 (by decide) (hg _ k1035) (fun _ h9 => h9) rfl d_Model_look_33 ?_
    obtain ⟨z5_1, hc5, h⟩ := dz_ob h
    try dsimp only at h
    have hPc := hP
    have hKc := hK
    refine vp_callSi (va_Run.run (va_runV (As := [.int (z1_2 53)]) (rest := []) ⟨hx, hb, hml, hown, hg⟩ (c_Model_kindAt l dC dI N cB cI o_Model r z1_2 F (z1_2 53) z5_1 hc5) (cwV 1 hg (gd_V k739 k740 k741 k707 k738) rfl rfl rfl (by decide +kernel) ⟨Nat.le_of_ble_eq_true rfl, Nat.le_of_ble_eq_true rfl⟩) ⟨dz_blindR, va_recv hKc hPc (ci := 10) (q0 := 0) rfl rfl, fun U hU hW => ⟨rfl, dz_Nw hW hN, by rw [hU]; exact hPc, va_K.moved hW.alike hKc⟩⟩ rfl rfl hl.1 rfl (lv_room (Nat.le_of_ble_eq_true rfl)) d_Model_look_36 ⟨Nat.le_of_ble_eq_true rfl, Nat.le_of_ble_eq_true rfl⟩)) (fun r5 hw => ?_)
    have hw : z5_1 = r5 := hw.symm
    subst hw
    refine lv_goto (tgt := 50) hx hb d_Model_look_39 (by decide) ?_
    exact hk2_50 z5_1 _ _ _ h hP hD hS (lv_sub hl [0, 1, 2, 3, 4] rfl)
set_option maxHeartbeats 4000000 in
set_option maxRecDepth 100000 in
theorem c_Model_look (l : Launch) (dC : Nat → ClassId) (dI : Nat → Nat → Nat) (N : Nat) (cB : ClassId) (cI : ClassId) (o_Model : Nat) (r : Nat → Nat) (I : Nat → Int32) (F : Nat → Nat → Int32) (p0 : Int32) (p1 : Int64) (p2 : Int32) (sz : Nat) (z : Int32 × (Nat → Int32)) (h : m_Model_look N I F p0 p1 p2 = some z) : Met l y_Model_look (.code y_Model_look b_Model_look 7 (some .int) :: lw_g) ({ frames := 3, cells := 0, slots := 0, locals := 69 }) (va_Pc [.ref o_Model, .int p0, .long p1, .int p2] (fun U => dz_N U ∧ U.heap.size = sz ∧ va_P (dC, dI) classes (wD cB cI o_Model r I F) U.heap ∧ va_K (dC, dI) classes [(cB, .byte), (cI, .int)] U ∧ va_D (fun _ => True) (wD cB cI o_Model r I F))) (va_Qi (fun (r : Int32) (_ : Unit) => r = z.1) (fun (u : Unit) t => va_P (dC, dI) classes (wD cB cI o_Model r z.2 F) t.heap ∧ va_K (dC, dI) classes [(cB, .byte), (cI, .int)] t ∧ va_D (va_A (wD cB cI o_Model r I F) sz) (wD cB cI o_Model r z.2 F)) (va_A (wD cB cI o_Model r I F) sz)) 0 0 (va_A (wD cB cI o_Model r I F) sz) := by
  refine Met.ofW (cc := b_Model_look) (maxL := 7) (ret := (some .int)) (by decide +kernel) rfl ?_
  intro p e s m args below meth c s₁ B hml hv
  obtain ⟨rfl, hN, hsz, hP, hK, hD0⟩ := hv
  have hx := B.exec
  have hb := B.bytes
  have hr := B.returns
  have hg : ∀ w ∈ lw_g, w.before _ s = true := fun w hw => atoms_spec (ws := .code y_Model_look b_Model_look 7 (some .int) :: lw_g) B.pre w (List.mem_cons_of_mem _ hw)
  have hown : s.vm.findClass R_Model = some m.cls := findClass_of_methodNamed B.named
  have hlocks := B.notSynchronized
  clear B
  subst hsz
  have hD := hD0.self (sz := s.heap.size)
  generalize hAe : va_A (wD cB cI o_Model r I F) s.heap.size = A at hD ⊢
  have hA : ∀ q : Nat, s.heap.size ≤ q → A q := fun q h => by rw [← hAe]; exact Or.inr h
  have hS : va_S A s.heap s.heap [] := va_S.rf
  have hP : va_P (dC, dI) classes (wD cB cI o_Model r I F) s.heap := hP
  have hl := lv_entry ([.ref o_Model, .int p0, .long p1, .int p2]) (n := 7) (Nat.le_of_ble_eq_true rfl)
  rw [lg_entry_eq]
  generalize (lg_sl ([.ref o_Model, .int p0, .long p1, .int p2]) ++ List.replicate (7 - (lg_sl ([.ref o_Model, .int p0, .long p1, .int p2])).length) Slot.unset).toArray = ls at hl ⊢
  have hl : lv_has ls 7 [(0, .ref o_Model), (1, .int p0), (2, .long p1), (4, .int p2)] := hl
  unfold m_Model_look at h
  refine lv_aload_n hx hb d_Model_look_0 rfl (lv_at hl 0 rfl) ?_
  refine lv_iload_n hx hb d_Model_look_1 rfl (lv_at hl 1 rfl) ?_
  refine lv_lload_n hx hb d_Model_look_2 rfl (lv_at hl 2 rfl) ?_
  obtain ⟨⟨z1_1, z1_2⟩, hc1, h⟩ := dz_ob h
  try dsimp only at h
  have hPc := hP
  have hKc := hK
  have hDc := hD
  have hFc := dz_freeall hD hS hA
  refine va_calli (va_runV (As := [.int p0, .long p1]) (rest := []) ⟨hx, hb, hml, hown, hg⟩ (c_Model_find l dC dI N cB cI o_Model r I F p0 p1 s.heap.size (z1_1, z1_2) hc1) (cwV 2 hg (gd_V k1037 k1038 k1039 k707 k1036) rfl rfl rfl (by decide +kernel) ⟨Nat.le_of_ble_eq_true rfl, Nat.le_of_ble_eq_true rfl⟩) ⟨dz_blind, va_recv hKc hPc (ci := 10) (q0 := 0) rfl rfl, fun U hU hW => ⟨rfl, dz_Nw hW hN, by rw [hU], by rw [hU]; exact hPc, va_K.moved hW.alike hKc, hDc.weaken (fun _ _ _ _ => trivial)⟩⟩ rfl rfl hl.1 rfl (lv_room (Nat.le_of_ble_eq_true rfl)) d_Model_look_3 ⟨Nat.le_of_ble_eq_true rfl, Nat.le_of_ble_eq_true rfl⟩) hS (fun q _ h => hFc q h) hFc (fun r1 u1 t1 H1 locs ht hvm hw hB hz1 hk1 hS => ?_)
  obtain ⟨hP1, hK1, hD1⟩ := hB
  rw [ht] at hP1
  have hP := hP1
  have hD := hD1.weaken (fun _ q _ h => hFc q.1 h)
  obtain ⟨hw, hbz1⟩ := hw
  have hw : z1_1 = r1 := hw.symm
  subst hw
  generalize H1 = H at hP hS ⊢
  have hP : va_P (dC, dI) classes (wD cB cI o_Model r z1_2 F) H := hP
  have hD : va_D A (wD cB cI o_Model r z1_2 F) := hD
  refine lv_if_ne (tgt := 11) hx hb d_Model_look_6 (by decide) (fun c2 => ?_) (fun c2 => ?_)
  · rw [if_neg c2] at h
    refine l_Model_look_1 dC dI N cB cI o_Model r F p0 p1 p2 z1_2 hx hb hml hown hg hN hK hA (fun y1_0 H locs ls h hP hD hS hl => ?_)  _ _ _ h hP hD hS (lv_sub hl [0, 1, 2, 3] rfl)
    refine lv_istore (lv' := [(5, .int y1_0), (0, .ref o_Model), (1, .int p0), (2, .long p1), (4, .int p2)]) hx hb d_Model_look_24 hl (by decide) rfl (fun ls hl => ?_)
    refine l_Model_look_2 dC dI N cB cI o_Model r F p0 p1 p2 z1_2 y1_0 hx hb hml hown hg hN hK hA (fun y2_0 H locs ls h hP hD hS hl => ?_)  _ _ _ h hP hD hS (lv_sub hl [0, 1, 2, 3, 4] rfl)
    refine lv_istore (lv' := [(6, .int y2_0), (5, .int y1_0), (0, .ref o_Model), (1, .int p0), (2, .long p1), (4, .int p2)]) hx hb d_Model_look_50 hl (by decide) rfl (fun ls hl => ?_)
    refine lv_iload hx hb d_Model_look_52 (lv_at hl 5 rfl) ?_
    by_cases s6_0 : p2 = 0
    · rw [if_pos s6_0] at h
      refine lv_tableIn (off := 26) (tgt := 80) hx hb d_Model_look_54 (by rw [s6_0]; decide) (by rw [s6_0]; decide) (by rw [s6_0]; decide) (by decide) ?_
      refine lv_iload hx hb d_Model_look_80 (lv_at hl 0 rfl) ?_
      obtain rfl := Option.some.inj h
      have hP9 := hP
      have hD9 := hD
      have hK9 := hK
      exact W.iret (v := y2_0) hx hb hr (fun t ht hW => ⟨⟨y2_0, (), rfl, rfl, by rw [ht]; exact hP9, va_K.moved hW.alike hK9, hD9⟩, hS.F ht⟩) hS.2.2 d_Model_look_82
    rw [if_neg s6_0] at h
    by_cases s6_1 : p2 = 1
    · rw [if_pos s6_1] at h
      refine lv_tableIn (off := 29) (tgt := 83) hx hb d_Model_look_54 (by rw [s6_1]; decide) (by rw [s6_1]; decide) (by rw [s6_1]; decide) (by decide) ?_
      refine lv_iload hx hb d_Model_look_83 (lv_at hl 1 rfl) ?_
      refine lv_if_ne (tgt := 111) hx hb d_Model_look_85 (by decide) (fun c7 => ?_) (fun c7 => ?_)
      · rw [if_neg c7] at h
        refine lv_iload hx hb d_Model_look_111 (lv_at hl 0 rfl) ?_
        refine lv_bipush (v := 7) hx hb d_Model_look_113 (by decide) ?_
        refine lv_icmp_ne (tgt := 133) hx hb d_Model_look_115 (by decide) (fun c8 => ?_) (fun c8 => ?_)
        · rw [if_neg c8] at h
          refine lv_iload hx hb d_Model_look_133 (lv_at hl 0 rfl) ?_
          refine lv_iconst (v := 2) hx hb d_Model_look_135 (by decide) ?_
          refine lv_icmp_eq (tgt := 145) hx hb d_Model_look_136 (by decide) (fun c9 => ?_) (fun c9 => ?_)
          · rw [if_pos c9] at h
            refine lv_iconst (v := 0) hx hb d_Model_look_145 (by decide) ?_
            refine lv_goto (tgt := 158) hx hb d_Model_look_146 (by decide) ?_
            obtain rfl := Option.some.inj h
            have hP9 := hP
            have hD9 := hD
            have hK9 := hK
            exact W.iret (v := 0) hx hb hr (fun t ht hW => ⟨⟨0, (), rfl, rfl, by rw [ht]; exact hP9, va_K.moved hW.alike hK9, hD9⟩, hS.F ht⟩) hS.2.2 d_Model_look_158
          · rw [if_neg c9] at h
            refine lv_iload hx hb d_Model_look_139 (lv_at hl 0 rfl) ?_
            refine lv_iconst (v := 5) hx hb d_Model_look_141 (by decide) ?_
            refine lv_icmp_ne (tgt := 149) hx hb d_Model_look_142 (by decide) (fun c10 => ?_) (fun c10 => ?_)
            · rw [if_neg c10] at h
              refine lv_aload_n hx hb d_Model_look_149 rfl (lv_at hl 2 rfl) ?_
              refine va_get (D := (dC, dI)) (ci := 10) (v := .ref (r 1)) (C := R_Model) (T := F_Model) (N := 54) hx hb hg i_Model hown hK hP 0 rfl rfl 1 (by decide) (hg _ k742) (fun _ h9 => h9) rfl d_Model_look_150 ?_
              refine lv_aload_n hx hb d_Model_look_153 rfl (lv_at hl 2 rfl) ?_
              refine va_get (D := (dC, dI)) (ci := 10) (v := .int (z1_2 53)) (C := R_Model) (T := F_Model) (N := 54) hx hb hg i_Model hown hK hP 0 rfl rfl 53 (by decide) (hg _ k1035) (fun _ h9 => h9) rfl d_Model_look_154 ?_
              obtain ⟨i11, h⟩ := dz_oi h
              refine va_iald (D := (dC, dI)) (f := F 1) hx hb hK hP 2 1 rfl rfl i11 d_Model_look_157 ?_
              obtain rfl := Option.some.inj h
              have hP9 := hP
              have hD9 := hD
              have hK9 := hK
              exact W.iret (v := (F 1) (z1_2 53).toNatClampNeg) hx hb hr (fun t ht hW => ⟨⟨(F 1) (z1_2 53).toNatClampNeg, (), rfl, rfl, by rw [ht]; exact hP9, va_K.moved hW.alike hK9, hD9⟩, hS.F ht⟩) hS.2.2 d_Model_look_158
            · rw [if_pos c10] at h
              refine lv_iconst (v := 0) hx hb d_Model_look_145 (by decide) ?_
              refine lv_goto (tgt := 158) hx hb d_Model_look_146 (by decide) ?_
              obtain rfl := Option.some.inj h
              have hP9 := hP
              have hD9 := hD
              have hK9 := hK
              exact W.iret (v := 0) hx hb hr (fun t ht hW => ⟨⟨0, (), rfl, rfl, by rw [ht]; exact hP9, va_K.moved hW.alike hK9, hD9⟩, hS.F ht⟩) hS.2.2 d_Model_look_158
        · rw [if_pos c8] at h
          refine lv_aload_n hx hb d_Model_look_118 rfl (lv_at hl 2 rfl) ?_
          refine va_get (D := (dC, dI)) (ci := 10) (v := .ref (r 0)) (C := R_Model) (T := F_Model) (N := 54) hx hb hg i_Model hown hK hP 0 rfl rfl 0 (by decide) (hg _ k737) (fun _ h9 => h9) rfl d_Model_look_119 ?_
          refine lv_aload_n hx hb d_Model_look_122 rfl (lv_at hl 2 rfl) ?_
          refine va_get (D := (dC, dI)) (ci := 10) (v := .int (z1_2 53)) (C := R_Model) (T := F_Model) (N := 54) hx hb hg i_Model hown hK hP 0 rfl rfl 53 (by decide) (hg _ k1035) (fun _ h9 => h9) rfl d_Model_look_123 ?_
          obtain ⟨i12, h⟩ := dz_oi h
          refine va_iald (D := (dC, dI)) (f := F 0) hx hb hK hP 1 1 rfl rfl i12 d_Model_look_126 ?_
          refine lv_bipush (v := 8) hx hb d_Model_look_127 (by decide) ?_
          refine lv_iushr (v := (((F 0) (z1_2 53).toNatClampNeg).toUInt32 >>> ((8 : Int32).toUInt32 &&& Int32.toUInt32 31)).toInt32) hx hb d_Model_look_129 rfl ?_
          obtain ⟨x13, ex13, h⟩ := dz_lt h
          refine dz_topi ex13 ?_
          refine lv_goto (tgt := 158) hx hb d_Model_look_130 (by decide) ?_
          obtain rfl := Option.some.inj h
          have hP9 := hP
          have hD9 := hD
          have hK9 := hK
          exact W.iret (v := x13) hx hb hr (fun t ht hW => ⟨⟨x13, (), rfl, rfl, by rw [ht]; exact hP9, va_K.moved hW.alike hK9, hD9⟩, hS.F ht⟩) hS.2.2 d_Model_look_158
      · rw [if_pos c7] at h
        refine lv_iload hx hb d_Model_look_88 (lv_at hl 0 rfl) ?_
        refine lv_iconst (v := 1) hx hb d_Model_look_90 (by decide) ?_
        refine lv_icmp_ne (tgt := 104) hx hb d_Model_look_91 (by decide) (fun c14 => ?_) (fun c14 => ?_)
        · rw [if_neg c14] at h
          refine lv_aload_n hx hb d_Model_look_104 rfl (lv_at hl 2 rfl) ?_
          refine va_get (D := (dC, dI)) (ci := 10) (v := .int (z1_2 53)) (C := R_Model) (T := F_Model) (N := 54) hx hb hg i_Model hown hK hP 0 rfl rfl 53 (by decide) (hg _ k1035) (fun _ h9 => h9) rfl d_Model_look_105 ?_
          refine lv_goto (tgt := 158) hx hb d_Model_look_108 (by decide) ?_
          obtain rfl := Option.some.inj h
          have hP9 := hP
          have hD9 := hD
          have hK9 := hK
          exact W.iret (v := z1_2 53) hx hb hr (fun t ht hW => ⟨⟨z1_2 53, (), rfl, rfl, by rw [ht]; exact hP9, va_K.moved hW.alike hK9, hD9⟩, hS.F ht⟩) hS.2.2 d_Model_look_158
        · rw [if_pos c14] at h
          refine lv_aload_n hx hb d_Model_look_94 rfl (lv_at hl 2 rfl) ?_
          refine va_get (D := (dC, dI)) (ci := 10) (v := .int (z1_2 52)) (C := R_Model) (T := F_Model) (N := 54) hx hb hg i_Model hown hK hP 0 rfl rfl 52 (by decide) (hg _ k1034) (fun _ h9 => h9) rfl d_Model_look_95 ?_
          refine lv_bipush (v := 8) hx hb d_Model_look_98 (by decide) ?_
          refine lv_iushr (v := ((z1_2 52).toUInt32 >>> ((8 : Int32).toUInt32 &&& Int32.toUInt32 31)).toInt32) hx hb d_Model_look_100 rfl ?_
          obtain ⟨x15, ex15, h⟩ := dz_lt h
          refine dz_topi ex15 ?_
          refine lv_goto (tgt := 158) hx hb d_Model_look_101 (by decide) ?_
          obtain rfl := Option.some.inj h
          have hP9 := hP
          have hD9 := hD
          have hK9 := hK
          exact W.iret (v := x15) hx hb hr (fun t ht hW => ⟨⟨x15, (), rfl, rfl, by rw [ht]; exact hP9, va_K.moved hW.alike hK9, hD9⟩, hS.F ht⟩) hS.2.2 d_Model_look_158
    rw [if_neg s6_1] at h
    by_cases s6_2 : p2 = 2
    · rw [if_pos s6_2] at h
      refine lv_tableIn (off := 105) (tgt := 159) hx hb d_Model_look_54 (by rw [s6_2]; decide) (by rw [s6_2]; decide) (by rw [s6_2]; decide) (by decide) ?_
      refine lv_iload hx hb d_Model_look_159 (lv_at hl 1 rfl) ?_
      refine lv_if_eq (tgt := 175) hx hb d_Model_look_161 (by decide) (fun c16 => ?_) (fun c16 => ?_)
      · rw [if_pos c16] at h
        refine lv_iconst (v := 0) hx hb d_Model_look_175 (by decide) ?_
        obtain rfl := Option.some.inj h
        have hP9 := hP
        have hD9 := hD
        have hK9 := hK
        exact W.iret (v := 0) hx hb hr (fun t ht hW => ⟨⟨0, (), rfl, rfl, by rw [ht]; exact hP9, va_K.moved hW.alike hK9, hD9⟩, hS.F ht⟩) hS.2.2 d_Model_look_176
      · rw [if_neg c16] at h
        refine lv_aload_n hx hb d_Model_look_164 rfl (lv_at hl 2 rfl) ?_
        refine lv_aload_n hx hb d_Model_look_165 rfl (lv_at hl 2 rfl) ?_
        refine va_get (D := (dC, dI)) (ci := 10) (v := .int (z1_2 53)) (C := R_Model) (T := F_Model) (N := 54) hx hb hg i_Model hown hK hP 0 rfl rfl 53 (by decide) (hg _ k1035) (fun _ h9 => h9) rfl d_Model_look_166 ?_
        obtain ⟨z17_1, hc17, h⟩ := dz_ob h
        try dsimp only at h
        have hPc := hP
        have hKc := hK
        refine vp_callSi (va_Run.run (va_runV (As := [.int (z1_2 53)]) (rest := []) ⟨hx, hb, hml, hown, hg⟩ (c_Model_partsAt l dC dI N cB cI o_Model r z1_2 F (z1_2 53) z17_1 hc17) (cwV 1 hg (gd_V k744 k745 k746 k707 k743) rfl rfl rfl (by decide +kernel) ⟨Nat.le_of_ble_eq_true rfl, Nat.le_of_ble_eq_true rfl⟩) ⟨dz_blindR, va_recv hKc hPc (ci := 10) (q0 := 0) rfl rfl, fun U hU hW => ⟨rfl, dz_Nw hW hN, by rw [hU]; exact hPc, va_K.moved hW.alike hKc⟩⟩ rfl rfl hl.1 rfl (lv_room (Nat.le_of_ble_eq_true rfl)) d_Model_look_169 ⟨Nat.le_of_ble_eq_true rfl, Nat.le_of_ble_eq_true rfl⟩)) (fun r17 hw => ?_)
        have hw : z17_1 = r17 := hw.symm
        subst hw
        refine lv_goto (tgt := 176) hx hb d_Model_look_172 (by decide) ?_
        obtain rfl := Option.some.inj h
        have hP9 := hP
        have hD9 := hD
        have hK9 := hK
        exact W.iret (v := z17_1) hx hb hr (fun t ht hW => ⟨⟨z17_1, (), rfl, rfl, by rw [ht]; exact hP9, va_K.moved hW.alike hK9, hD9⟩, hS.F ht⟩) hS.2.2 d_Model_look_176
    rw [if_neg s6_2] at h
    refine lv_tableOut (tgt := 177) hx hb d_Model_look_54 (by have q0 := lv_neT s6_0 (a := 0) (by decide); have q1 := lv_neT s6_1 (a := 1) (by decide); have q2 := lv_neT s6_2 (a := 2) (by decide); omega) (by decide) ?_
    refine lv_iconst (v := (-1)) hx hb d_Model_look_177 (by decide) ?_
    obtain rfl := Option.some.inj h
    have hP9 := hP
    have hD9 := hD
    have hK9 := hK
    exact W.iret (v := (-1)) hx hb hr (fun t ht hW => ⟨⟨(-1), (), rfl, rfl, by rw [ht]; exact hP9, va_K.moved hW.alike hK9, hD9⟩, hS.F ht⟩) hS.2.2 d_Model_look_178
  · rw [if_pos c2] at h
    refine lv_iconst (v := (-1)) hx hb d_Model_look_9 (by decide) ?_
    obtain rfl := Option.some.inj h
    have hP9 := hP
    have hD9 := hD
    have hK9 := hK
    exact W.iret (v := (-1)) hx hb hr (fun t ht hW => ⟨⟨(-1), (), rfl, rfl, by rw [ht]; exact hP9, va_K.moved hW.alike hK9, hD9⟩, hS.F ht⟩) hS.2.2 d_Model_look_10

set_option maxHeartbeats 4000000 in
set_option maxRecDepth 100000 in
theorem l_Model_byteOf_1 {p : Program} {l : Launch} {e : Env} {s : State} {m : MethodId} {args : Array Value} {below : List Frame} {meth : Method} {c : Code} {Q : State → Prop} {A : Nat → Prop} (dC : Nat → ClassId) (dI : Nat → Nat → Nat) (N : Nat) (cB : ClassId) (cI : ClassId) (o_Model : Nat) (r : Nat → Nat) (F : Nat → Nat → Int32) (p0 : Int32) (p1 : Int64) (p2 : Int32) {ζ : Type} {z : ζ} (hx : p.tables.exec = Jvm.exec) (hb : c.code = b_Model_byteOf) (hml : c.maxLocals = 6) (hown : s.vm.findClass R_Model = some m.cls) (hg : ∀ w ∈ lw_g, w.before args s = true) (hN : dz_N s) (hK : va_K (dC, dI) classes [(cB, .byte), (cI, .int)] s) (hA : ∀ q : Nat, s.heap.size ≤ q → A q) {k1_35 : (Nat → Int32) → Int32 → Option (ζ)} (hk1_35 : ∀ (w1_I : (Nat → Int32))  (y1_0 : Int32)  (H : Heap) (locs : List Loc) (ls : Array Slot), k1_35 w1_I y1_0 = some z → va_P (dC, dI) classes (wD cB cI o_Model r w1_I F) H → va_D A (wD cB cI o_Model r w1_I F) → va_S A s.heap H locs → lv_has ls 6 [(0, .ref o_Model), (1, .int p0), (2, .long p1), (4, .int p2)] → W p l e ({ frames := 3, cells := 0, slots := 0, locals := 69 } : Room) s m args below meth c H locs 0 0 Q (F0 m 35 ls [.int y1_0])) : ∀ (w1_I : (Nat → Int32))   (H : Heap) (locs : List Loc) (ls : Array Slot), lm_Model_byteOf_1 N F p0 p1 k1_35 w1_I = some z → va_P (dC, dI) classes (wD cB cI o_Model r w1_I F) H → va_D A (wD cB cI o_Model r w1_I F) → va_S A s.heap H locs → lv_has ls 6 [(0, .ref o_Model), (1, .int p0), (2, .long p1), (4, .int p2)] → W p l e ({ frames := 3, cells := 0, slots := 0, locals := 69 } : Room) s m args below meth c H locs 0 0 Q (F0 m 0 ls []) := by
  intro w1_I H locs ls h hP hD hS hl
  unfold lm_Model_byteOf_1 at h
  refine lv_aload_n hx hb d_Model_byteOf_0 rfl (lv_at hl 0 rfl) ?_
  refine lv_iload_n hx hb d_Model_byteOf_1 rfl (lv_at hl 1 rfl) ?_
  refine lv_lload_n hx hb d_Model_byteOf_2 rfl (lv_at hl 2 rfl) ?_
  obtain ⟨⟨z1_1, z1_2⟩, hc1, h⟩ := dz_ob h
  try dsimp only at h
  have hPc := hP
  have hKc := hK
  have hDc := hD
  have hFc := dz_freeall hD hS hA
  refine va_calli (va_runV (As := [.int p0, .long p1]) (rest := []) ⟨hx, hb, hml, hown, hg⟩ (c_Model_find l dC dI N cB cI o_Model r w1_I F p0 p1 H.size (z1_1, z1_2) hc1) (cwV 2 hg (gd_V k1037 k1038 k1039 k707 k1036) rfl rfl rfl (by decide +kernel) ⟨Nat.le_of_ble_eq_true rfl, Nat.le_of_ble_eq_true rfl⟩) ⟨dz_blind, va_recv hKc hPc (ci := 10) (q0 := 0) rfl rfl, fun U hU hW => ⟨rfl, dz_Nw hW hN, by rw [hU], by rw [hU]; exact hPc, va_K.moved hW.alike hKc, hDc.weaken (fun _ _ _ _ => trivial)⟩⟩ rfl rfl hl.1 rfl (lv_room (Nat.le_of_ble_eq_true rfl)) d_Model_byteOf_3 ⟨Nat.le_of_ble_eq_true rfl, Nat.le_of_ble_eq_true rfl⟩) hS (fun q _ h => hFc q h) hFc (fun r1 u1 t1 H1 locs ht hvm hw hB hz1 hk1 hS => ?_)
  obtain ⟨hP1, hK1, hD1⟩ := hB
  rw [ht] at hP1
  have hP := hP1
  have hD := hD1.weaken (fun _ q _ h => hFc q.1 h)
  obtain ⟨hw, hbz1⟩ := hw
  have hw : z1_1 = r1 := hw.symm
  subst hw
  generalize H1 = H at hP hS ⊢
  have hP : va_P (dC, dI) classes (wD cB cI o_Model r z1_2 F) H := hP
  have hD : va_D A (wD cB cI o_Model r z1_2 F) := hD
  refine lv_if_eq (tgt := 34) hx hb d_Model_byteOf_6 (by decide) (fun c2 => ?_) (fun c2 => ?_)
  · rw [if_pos c2] at h
    refine lv_iconst (v := 0) hx hb d_Model_byteOf_34 (by decide) ?_
    exact hk1_35 z1_2 (0 : Int32) _ _ _ h hP hD hS (lv_sub hl [0, 1, 2, 3] rfl)
  · rw [if_neg c2] at h
    refine lv_aload_n hx hb d_Model_byteOf_9 rfl (lv_at hl 0 rfl) ?_
    refine va_get (D := (dC, dI)) (ci := 10) (v := .int (z1_2 52)) (C := R_Model) (T := F_Model) (N := 54) hx hb hg i_Model hown hK hP 0 rfl rfl 52 (by decide) (hg _ k1034) (fun _ h9 => h9) rfl d_Model_byteOf_10 ?_
    refine lv_iconst (v := 2) hx hb d_Model_byteOf_13 (by decide) ?_
    refine lv_icmp_ne (tgt := 34) hx hb d_Model_byteOf_14 (by decide) (fun c3 => ?_) (fun c3 => ?_)
    · rw [if_neg c3] at h
      refine lv_iconst (v := 0) hx hb d_Model_byteOf_34 (by decide) ?_
      exact hk1_35 z1_2 (0 : Int32) _ _ _ h hP hD hS (lv_sub hl [0, 1, 2, 3] rfl)
    · rw [if_pos c3] at h
      refine lv_aload_n hx hb d_Model_byteOf_17 rfl (lv_at hl 0 rfl) ?_
      refine lv_aload_n hx hb d_Model_byteOf_18 rfl (lv_at hl 0 rfl) ?_
      refine va_get (D := (dC, dI)) (ci := 10) (v := .int (z1_2 53)) (C := R_Model) (T := F_Model) (N := 54) hx hb hg i_Model hown hK hP 0 rfl rfl 53 (by decide) (hg _ k1035) (fun _ h9 => h9) rfl d_Model_byteOf_19 ?_
      obtain ⟨z4_1, hc4, h⟩ := dz_ob h
      try dsimp only at h
      have hPc := hP
      have hKc := hK
      refine vp_callSi (va_Run.run (va_runV (As := [.int (z1_2 53)]) (rest := []) ⟨hx, hb, hml, hown, hg⟩ (c_Model_kindAt l dC dI N cB cI o_Model r z1_2 F (z1_2 53) z4_1 hc4) (cwV 1 hg (gd_V k739 k740 k741 k707 k738) rfl rfl rfl (by decide +kernel) ⟨Nat.le_of_ble_eq_true rfl, Nat.le_of_ble_eq_true rfl⟩) ⟨dz_blindR, va_recv hKc hPc (ci := 10) (q0 := 0) rfl rfl, fun U hU hW => ⟨rfl, dz_Nw hW hN, by rw [hU]; exact hPc, va_K.moved hW.alike hKc⟩⟩ rfl rfl hl.1 rfl (lv_room (Nat.le_of_ble_eq_true rfl)) d_Model_byteOf_22 ⟨Nat.le_of_ble_eq_true rfl, Nat.le_of_ble_eq_true rfl⟩)) (fun r4 hw => ?_)
      have hw : z4_1 = r4 := hw.symm
      subst hw
      refine lv_bipush (v := 6) hx hb d_Model_byteOf_25 (by decide) ?_
      refine lv_icmp_ne (tgt := 34) hx hb d_Model_byteOf_27 (by decide) (fun c5 => ?_) (fun c5 => ?_)
      · rw [if_neg c5] at h
        refine lv_iconst (v := 0) hx hb d_Model_byteOf_34 (by decide) ?_
        exact hk1_35 z1_2 (0 : Int32) _ _ _ h hP hD hS (lv_sub hl [0, 1, 2, 3] rfl)
      · rw [if_pos c5] at h
        refine lv_iconst (v := 1) hx hb d_Model_byteOf_30 (by decide) ?_
        refine lv_goto (tgt := 35) hx hb d_Model_byteOf_31 (by decide) ?_
        exact hk1_35 z1_2 (1 : Int32) _ _ _ h hP hD hS (lv_sub hl [0, 1, 2, 3] rfl)
set_option maxHeartbeats 4000000 in
set_option maxRecDepth 100000 in
theorem c_Model_byteOf (l : Launch) (dC : Nat → ClassId) (dI : Nat → Nat → Nat) (N : Nat) (cB : ClassId) (cI : ClassId) (o_Model : Nat) (r : Nat → Nat) (I : Nat → Int32) (F : Nat → Nat → Int32) (p0 : Int32) (p1 : Int64) (p2 : Int32) (sz : Nat) (z : Int32 × (Nat → Int32)) (h : m_Model_byteOf N I F p0 p1 p2 = some z) : Met l y_Model_byteOf (.code y_Model_byteOf b_Model_byteOf 6 (some .int) :: lw_g) ({ frames := 3, cells := 0, slots := 0, locals := 69 }) (va_Pc [.ref o_Model, .int p0, .long p1, .int p2] (fun U => dz_N U ∧ U.heap.size = sz ∧ va_P (dC, dI) classes (wD cB cI o_Model r I F) U.heap ∧ va_K (dC, dI) classes [(cB, .byte), (cI, .int)] U ∧ va_D (fun _ => True) (wD cB cI o_Model r I F))) (va_Qi (fun (r : Int32) (_ : Unit) => r = z.1) (fun (u : Unit) t => va_P (dC, dI) classes (wD cB cI o_Model r z.2 F) t.heap ∧ va_K (dC, dI) classes [(cB, .byte), (cI, .int)] t ∧ va_D (va_A (wD cB cI o_Model r I F) sz) (wD cB cI o_Model r z.2 F)) (va_A (wD cB cI o_Model r I F) sz)) 0 0 (va_A (wD cB cI o_Model r I F) sz) := by
  refine Met.ofW (cc := b_Model_byteOf) (maxL := 6) (ret := (some .int)) (by decide +kernel) rfl ?_
  intro p e s m args below meth c s₁ B hml hv
  obtain ⟨rfl, hN, hsz, hP, hK, hD0⟩ := hv
  have hx := B.exec
  have hb := B.bytes
  have hr := B.returns
  have hg : ∀ w ∈ lw_g, w.before _ s = true := fun w hw => atoms_spec (ws := .code y_Model_byteOf b_Model_byteOf 6 (some .int) :: lw_g) B.pre w (List.mem_cons_of_mem _ hw)
  have hown : s.vm.findClass R_Model = some m.cls := findClass_of_methodNamed B.named
  have hlocks := B.notSynchronized
  clear B
  subst hsz
  have hD := hD0.self (sz := s.heap.size)
  generalize hAe : va_A (wD cB cI o_Model r I F) s.heap.size = A at hD ⊢
  have hA : ∀ q : Nat, s.heap.size ≤ q → A q := fun q h => by rw [← hAe]; exact Or.inr h
  have hS : va_S A s.heap s.heap [] := va_S.rf
  have hP : va_P (dC, dI) classes (wD cB cI o_Model r I F) s.heap := hP
  have hl := lv_entry ([.ref o_Model, .int p0, .long p1, .int p2]) (n := 6) (Nat.le_of_ble_eq_true rfl)
  rw [lg_entry_eq]
  generalize (lg_sl ([.ref o_Model, .int p0, .long p1, .int p2]) ++ List.replicate (6 - (lg_sl ([.ref o_Model, .int p0, .long p1, .int p2])).length) Slot.unset).toArray = ls at hl ⊢
  have hl : lv_has ls 6 [(0, .ref o_Model), (1, .int p0), (2, .long p1), (4, .int p2)] := hl
  unfold m_Model_byteOf at h
  refine l_Model_byteOf_1 dC dI N cB cI o_Model r F p0 p1 p2 hx hb hml hown hg hN hK hA (fun w1_I y1_0 H locs ls h hP hD hS hl => ?_) I _ _ _ h hP hD hS (lv_sub hl [0, 1, 2, 3] rfl)
  refine lv_istore (lv' := [(5, .int y1_0), (0, .ref o_Model), (1, .int p0), (2, .long p1), (4, .int p2)]) hx hb d_Model_byteOf_35 hl (by decide) rfl (fun ls hl => ?_)
  refine lv_iload hx hb d_Model_byteOf_37 (lv_at hl 0 rfl) ?_
  refine lv_if_eq (tgt := 74) hx hb d_Model_byteOf_39 (by decide) (fun c6 => ?_) (fun c6 => ?_)
  · rw [if_pos c6] at h
    refine lv_iconst (v := (-1)) hx hb d_Model_byteOf_74 (by decide) ?_
    obtain rfl := Option.some.inj h
    have hP9 := hP
    have hD9 := hD
    have hK9 := hK
    exact W.iret (v := (-1)) hx hb hr (fun t ht hW => ⟨⟨(-1), (), rfl, rfl, by rw [ht]; exact hP9, va_K.moved hW.alike hK9, hD9⟩, hS.F ht⟩) hS.2.2 d_Model_byteOf_75
  · rw [if_neg c6] at h
    refine lv_iload hx hb d_Model_byteOf_42 (lv_at hl 4 rfl) ?_
    refine lv_if_lt (tgt := 74) hx hb d_Model_byteOf_44 (by decide) (fun c7 => ?_) (fun c7 => ?_)
    · rw [if_pos c7] at h
      refine lv_iconst (v := (-1)) hx hb d_Model_byteOf_74 (by decide) ?_
      obtain rfl := Option.some.inj h
      have hP9 := hP
      have hD9 := hD
      have hK9 := hK
      exact W.iret (v := (-1)) hx hb hr (fun t ht hW => ⟨⟨(-1), (), rfl, rfl, by rw [ht]; exact hP9, va_K.moved hW.alike hK9, hD9⟩, hS.F ht⟩) hS.2.2 d_Model_byteOf_75
    · rw [if_neg c7] at h
      refine lv_iload hx hb d_Model_byteOf_47 (lv_at hl 4 rfl) ?_
      refine lv_aload_n hx hb d_Model_byteOf_49 rfl (lv_at hl 1 rfl) ?_
      refine va_get (D := (dC, dI)) (ci := 10) (v := .ref (r 1)) (C := R_Model) (T := F_Model) (N := 54) hx hb hg i_Model hown hK hP 0 rfl rfl 1 (by decide) (hg _ k742) (fun _ h9 => h9) rfl d_Model_byteOf_50 ?_
      refine lv_aload_n hx hb d_Model_byteOf_53 rfl (lv_at hl 1 rfl) ?_
      refine va_get (D := (dC, dI)) (ci := 10) (v := .int (w1_I 53)) (C := R_Model) (T := F_Model) (N := 54) hx hb hg i_Model hown hK hP 0 rfl rfl 53 (by decide) (hg _ k1035) (fun _ h9 => h9) rfl d_Model_byteOf_54 ?_
      obtain ⟨i8, h⟩ := dz_oi h
      refine va_iald (D := (dC, dI)) (f := F 1) hx hb hK hP 2 1 rfl rfl i8 d_Model_byteOf_57 ?_
      refine lv_icmp_ge (tgt := 74) hx hb d_Model_byteOf_58 (by decide) (fun c9 => ?_) (fun c9 => ?_)
      · rw [if_pos c9] at h
        refine lv_iconst (v := (-1)) hx hb d_Model_byteOf_74 (by decide) ?_
        obtain rfl := Option.some.inj h
        have hP9 := hP
        have hD9 := hD
        have hK9 := hK
        exact W.iret (v := (-1)) hx hb hr (fun t ht hW => ⟨⟨(-1), (), rfl, rfl, by rw [ht]; exact hP9, va_K.moved hW.alike hK9, hD9⟩, hS.F ht⟩) hS.2.2 d_Model_byteOf_75
      · rw [if_neg c9] at h
        refine lv_aload_n hx hb d_Model_byteOf_61 rfl (lv_at hl 1 rfl) ?_
        refine lv_aload_n hx hb d_Model_byteOf_62 rfl (lv_at hl 1 rfl) ?_
        refine va_get (D := (dC, dI)) (ci := 10) (v := .int (w1_I 53)) (C := R_Model) (T := F_Model) (N := 54) hx hb hg i_Model hown hK hP 0 rfl rfl 53 (by decide) (hg _ k1035) (fun _ h9 => h9) rfl d_Model_byteOf_63 ?_
        refine lv_iload hx hb d_Model_byteOf_66 (lv_at hl 4 rfl) ?_
        obtain ⟨z10_1, hc10, h⟩ := dz_ob h
        try dsimp only at h
        have hPc := hP
        have hKc := hK
        refine vp_callSi (va_Run.run (va_runV (As := [.int (w1_I 53), .int p2]) (rest := []) ⟨hx, hb, hml, hown, hg⟩ (c_Model_byteAt l dC dI N cB cI o_Model r w1_I F (w1_I 53) p2 z10_1 hc10) (cwV 2 hg (gd_V k842 k843 k844 k707 k841) rfl rfl rfl (by decide +kernel) ⟨Nat.le_of_ble_eq_true rfl, Nat.le_of_ble_eq_true rfl⟩) ⟨dz_blindR, va_recv hKc hPc (ci := 10) (q0 := 0) rfl rfl, fun U hU hW => ⟨rfl, dz_Nw hW hN, by rw [hU]; exact hPc, va_K.moved hW.alike hKc⟩⟩ rfl rfl hl.1 rfl (lv_room (Nat.le_of_ble_eq_true rfl)) d_Model_byteOf_68 ⟨Nat.le_of_ble_eq_true rfl, Nat.le_of_ble_eq_true rfl⟩)) (fun r10 hw => ?_)
        have hw : z10_1 = r10 := hw.symm
        subst hw
        refine lv_goto (tgt := 75) hx hb d_Model_byteOf_71 (by decide) ?_
        obtain rfl := Option.some.inj h
        have hP9 := hP
        have hD9 := hD
        have hK9 := hK
        exact W.iret (v := z10_1) hx hb hr (fun t ht hW => ⟨⟨z10_1, (), rfl, rfl, by rw [ht]; exact hP9, va_K.moved hW.alike hK9, hD9⟩, hS.F ht⟩) hS.2.2 d_Model_byteOf_75

set_option maxHeartbeats 4000000 in
set_option maxRecDepth 100000 in
theorem c_Model_same (l : Launch) (dC : Nat → ClassId) (dI : Nat → Nat → Nat) (N : Nat) (cB : ClassId) (cI : ClassId) (o_Model : Nat) (r : Nat → Nat) (I : Nat → Int32) (F : Nat → Nat → Int32) (p0 : Int32) (p1 : Int64) (p2 : Int32) (p3 : Int64) (sz : Nat) (z : Int32 × (Nat → Int32)) (h : m_Model_same N I F p0 p1 p2 p3 = some z) : Met l y_Model_same (.code y_Model_same b_Model_same 9 (some .boolean) :: lw_g) ({ frames := 3, cells := 0, slots := 0, locals := 69 }) (va_Pc [.ref o_Model, .int p0, .long p1, .int p2, .long p3] (fun U => dz_N U ∧ U.heap.size = sz ∧ va_P (dC, dI) classes (wD cB cI o_Model r I F) U.heap ∧ va_K (dC, dI) classes [(cB, .byte), (cI, .int)] U ∧ va_D (fun _ => True) (wD cB cI o_Model r I F))) (va_Qi (fun (r : Int32) (_ : Unit) => r = z.1 ∧ narrow .boolean (.int z.1) = .int z.1 ∧ fits .boolean (.int z.1) = true) (fun (u : Unit) t => va_P (dC, dI) classes (wD cB cI o_Model r z.2 F) t.heap ∧ va_K (dC, dI) classes [(cB, .byte), (cI, .int)] t ∧ va_D (va_A (wD cB cI o_Model r I F) sz) (wD cB cI o_Model r z.2 F)) (va_A (wD cB cI o_Model r I F) sz)) 0 0 (va_A (wD cB cI o_Model r I F) sz) := by
  refine Met.ofW (cc := b_Model_same) (maxL := 9) (ret := (some .boolean)) (by decide +kernel) rfl ?_
  intro p e s m args below meth c s₁ B hml hv
  obtain ⟨rfl, hN, hsz, hP, hK, hD0⟩ := hv
  have hx := B.exec
  have hb := B.bytes
  have hr := B.returns
  have hg : ∀ w ∈ lw_g, w.before _ s = true := fun w hw => atoms_spec (ws := .code y_Model_same b_Model_same 9 (some .boolean) :: lw_g) B.pre w (List.mem_cons_of_mem _ hw)
  have hown : s.vm.findClass R_Model = some m.cls := findClass_of_methodNamed B.named
  have hlocks := B.notSynchronized
  clear B
  subst hsz
  have hD := hD0.self (sz := s.heap.size)
  generalize hAe : va_A (wD cB cI o_Model r I F) s.heap.size = A at hD ⊢
  have hA : ∀ q : Nat, s.heap.size ≤ q → A q := fun q h => by rw [← hAe]; exact Or.inr h
  have hS : va_S A s.heap s.heap [] := va_S.rf
  have hP : va_P (dC, dI) classes (wD cB cI o_Model r I F) s.heap := hP
  have hl := lv_entry ([.ref o_Model, .int p0, .long p1, .int p2, .long p3]) (n := 9) (Nat.le_of_ble_eq_true rfl)
  rw [lg_entry_eq]
  generalize (lg_sl ([.ref o_Model, .int p0, .long p1, .int p2, .long p3]) ++ List.replicate (9 - (lg_sl ([.ref o_Model, .int p0, .long p1, .int p2, .long p3])).length) Slot.unset).toArray = ls at hl ⊢
  have hl : lv_has ls 9 [(0, .ref o_Model), (1, .int p0), (2, .long p1), (4, .int p2), (5, .long p3)] := hl
  unfold m_Model_same at h
  refine lv_aload_n hx hb d_Model_same_0 rfl (lv_at hl 0 rfl) ?_
  refine lv_iload_n hx hb d_Model_same_1 rfl (lv_at hl 1 rfl) ?_
  refine lv_lload_n hx hb d_Model_same_2 rfl (lv_at hl 2 rfl) ?_
  obtain ⟨⟨z1_1, z1_2⟩, hc1, h⟩ := dz_ob h
  try dsimp only at h
  have hPc := hP
  have hKc := hK
  have hDc := hD
  have hFc := dz_freeall hD hS hA
  refine va_calli (va_runV (As := [.int p0, .long p1]) (rest := []) ⟨hx, hb, hml, hown, hg⟩ (c_Model_find l dC dI N cB cI o_Model r I F p0 p1 s.heap.size (z1_1, z1_2) hc1) (cwV 2 hg (gd_V k1037 k1038 k1039 k707 k1036) rfl rfl rfl (by decide +kernel) ⟨Nat.le_of_ble_eq_true rfl, Nat.le_of_ble_eq_true rfl⟩) ⟨dz_blind, va_recv hKc hPc (ci := 10) (q0 := 0) rfl rfl, fun U hU hW => ⟨rfl, dz_Nw hW hN, by rw [hU], by rw [hU]; exact hPc, va_K.moved hW.alike hKc, hDc.weaken (fun _ _ _ _ => trivial)⟩⟩ rfl rfl hl.1 rfl (lv_room (Nat.le_of_ble_eq_true rfl)) d_Model_same_3 ⟨Nat.le_of_ble_eq_true rfl, Nat.le_of_ble_eq_true rfl⟩) hS (fun q _ h => hFc q h) hFc (fun r1 u1 t1 H1 locs ht hvm hw hB hz1 hk1 hS => ?_)
  obtain ⟨hP1, hK1, hD1⟩ := hB
  rw [ht] at hP1
  have hP := hP1
  have hD := hD1.weaken (fun _ q _ h => hFc q.1 h)
  obtain ⟨hw, hbz1⟩ := hw
  have hw : z1_1 = r1 := hw.symm
  subst hw
  generalize H1 = H at hP hS ⊢
  have hP : va_P (dC, dI) classes (wD cB cI o_Model r z1_2 F) H := hP
  have hD : va_D A (wD cB cI o_Model r z1_2 F) := hD
  refine lv_if_ne (tgt := 11) hx hb d_Model_same_6 (by decide) (fun c2 => ?_) (fun c2 => ?_)
  · rw [if_neg c2] at h
    refine lv_aload_n hx hb d_Model_same_11 rfl (lv_at hl 0 rfl) ?_
    refine va_get (D := (dC, dI)) (ci := 10) (v := .int (z1_2 52)) (C := R_Model) (T := F_Model) (N := 54) hx hb hg i_Model hown hK hP 0 rfl rfl 52 (by decide) (hg _ k1034) (fun _ h9 => h9) rfl d_Model_same_12 ?_
    refine lv_istore (lv' := [(7, .int (z1_2 52)), (0, .ref o_Model), (1, .int p0), (2, .long p1), (4, .int p2), (5, .long p3)]) hx hb d_Model_same_15 hl (by decide) rfl (fun ls hl => ?_)
    refine lv_aload_n hx hb d_Model_same_17 rfl (lv_at hl 1 rfl) ?_
    refine va_get (D := (dC, dI)) (ci := 10) (v := .int (z1_2 53)) (C := R_Model) (T := F_Model) (N := 54) hx hb hg i_Model hown hK hP 0 rfl rfl 53 (by decide) (hg _ k1035) (fun _ h9 => h9) rfl d_Model_same_18 ?_
    refine lv_istore (lv' := [(8, .int (z1_2 53)), (7, .int (z1_2 52)), (0, .ref o_Model), (1, .int p0), (2, .long p1), (4, .int p2), (5, .long p3)]) hx hb d_Model_same_21 hl (by decide) rfl (fun ls hl => ?_)
    refine lv_aload_n hx hb d_Model_same_23 rfl (lv_at hl 2 rfl) ?_
    refine lv_iload hx hb d_Model_same_24 (lv_at hl 5 rfl) ?_
    refine lv_lload hx hb d_Model_same_26 (lv_at hl 6 rfl) ?_
    obtain ⟨⟨z3_1, z3_2⟩, hc3, h⟩ := dz_ob h
    try dsimp only at h
    have hPc := hP
    have hKc := hK
    have hDc := hD
    have hFc := dz_freeall hD hS hA
    refine va_calli (va_runV (As := [.int p2, .long p3]) (rest := []) ⟨hx, hb, hml, hown, hg⟩ (c_Model_find l dC dI N cB cI o_Model r z1_2 F p2 p3 H.size (z3_1, z3_2) hc3) (cwV 2 hg (gd_V k1037 k1038 k1039 k707 k1036) rfl rfl rfl (by decide +kernel) ⟨Nat.le_of_ble_eq_true rfl, Nat.le_of_ble_eq_true rfl⟩) ⟨dz_blind, va_recv hKc hPc (ci := 10) (q0 := 0) rfl rfl, fun U hU hW => ⟨rfl, dz_Nw hW hN, by rw [hU], by rw [hU]; exact hPc, va_K.moved hW.alike hKc, hDc.weaken (fun _ _ _ _ => trivial)⟩⟩ rfl rfl hl.1 rfl (lv_room (Nat.le_of_ble_eq_true rfl)) d_Model_same_28 ⟨Nat.le_of_ble_eq_true rfl, Nat.le_of_ble_eq_true rfl⟩) hS (fun q _ h => hFc q h) hFc (fun r3 u3 t3 H1 locs ht hvm hw hB hz1 hk1 hS => ?_)
    obtain ⟨hP1, hK1, hD1⟩ := hB
    rw [ht] at hP1
    have hP := hP1
    have hD := hD1.weaken (fun _ q _ h => hFc q.1 h)
    obtain ⟨hw, hbz3⟩ := hw
    have hw : z3_1 = r3 := hw.symm
    subst hw
    generalize H1 = H at hP hS ⊢
    have hP : va_P (dC, dI) classes (wD cB cI o_Model r z3_2 F) H := hP
    have hD : va_D A (wD cB cI o_Model r z3_2 F) := hD
    refine lv_if_eq (tgt := 56) hx hb d_Model_same_31 (by decide) (fun c4 => ?_) (fun c4 => ?_)
    · rw [if_pos c4] at h
      refine lv_iconst (v := 0) hx hb d_Model_same_56 (by decide) ?_
      obtain rfl := Option.some.inj h
      have hP9 := hP
      have hD9 := hD
      have hK9 := hK
      exact W.zret (v := 0) (ty := .boolean) hx hb hr (show narrow .boolean (.int 0) = .int 0 from rfl) (fun t ht hW => ⟨⟨0, (), rfl, ⟨rfl, (show narrow .boolean (.int 0) = .int 0 from rfl), (show fits .boolean (.int 0) = true from rfl)⟩, by rw [ht]; exact hP9, va_K.moved hW.alike hK9, hD9⟩, hS.F ht⟩) hS.2.2 d_Model_same_57
    · rw [if_neg c4] at h
      refine lv_iload hx hb d_Model_same_34 (lv_at hl 1 rfl) ?_
      refine lv_iload hx hb d_Model_same_36 (lv_at hl 0 rfl) ?_
      refine lv_aload_n hx hb d_Model_same_38 rfl (lv_at hl 2 rfl) ?_
      refine va_get (D := (dC, dI)) (ci := 10) (v := .int (z3_2 52)) (C := R_Model) (T := F_Model) (N := 54) hx hb hg i_Model hown hK hP 0 rfl rfl 52 (by decide) (hg _ k1034) (fun _ h9 => h9) rfl d_Model_same_39 ?_
      refine lv_aload_n hx hb d_Model_same_42 rfl (lv_at hl 2 rfl) ?_
      refine va_get (D := (dC, dI)) (ci := 10) (v := .int (z3_2 53)) (C := R_Model) (T := F_Model) (N := 54) hx hb hg i_Model hown hK hP 0 rfl rfl 53 (by decide) (hg _ k1035) (fun _ h9 => h9) rfl d_Model_same_43 ?_
      obtain ⟨z5_1, hc5, h⟩ := dz_ob h
      try dsimp only at h
      have hPc := hP.sub (ws' := []) [] rfl
      have hKc := hK.sub (tys' := []) [] rfl
      refine vp_callSi (va_Run.run (va_runS (As := [.int (z1_2 52), .int (z1_2 53), .int (z3_2 52), .int (z3_2 53)]) (rest := []) ⟨hx, hb, hml, hown, hg⟩ (c_Model_areSame l dC dI N (z1_2 52) (z1_2 53) (z3_2 52) (z3_2 53) z5_1 hc5) (va_cwS 4 hg (gd_S k839 k840 k707 k838) rfl rfl rfl (by decide +kernel) ⟨Nat.le_of_ble_eq_true rfl, Nat.le_of_ble_eq_true rfl⟩) ⟨dz_blindR, fun U hU hW => ⟨rfl, dz_Nw hW hN, by rw [hU]; exact hPc, va_K.moved hW.alike hKc⟩⟩ rfl rfl hl.1 rfl (lv_room (Nat.le_of_ble_eq_true rfl)) d_Model_same_46 ⟨Nat.le_of_ble_eq_true rfl, Nat.le_of_ble_eq_true rfl⟩)) (fun r5 hw => ?_)
      obtain ⟨hw, hbz5⟩ := hw
      have hw : z5_1 = r5 := hw.symm
      subst hw
      refine lv_if_eq (tgt := 56) hx hb d_Model_same_49 (by decide) (fun c6 => ?_) (fun c6 => ?_)
      · rw [if_pos c6] at h
        refine lv_iconst (v := 0) hx hb d_Model_same_56 (by decide) ?_
        obtain rfl := Option.some.inj h
        have hP9 := hP
        have hD9 := hD
        have hK9 := hK
        exact W.zret (v := 0) (ty := .boolean) hx hb hr (show narrow .boolean (.int 0) = .int 0 from rfl) (fun t ht hW => ⟨⟨0, (), rfl, ⟨rfl, (show narrow .boolean (.int 0) = .int 0 from rfl), (show fits .boolean (.int 0) = true from rfl)⟩, by rw [ht]; exact hP9, va_K.moved hW.alike hK9, hD9⟩, hS.F ht⟩) hS.2.2 d_Model_same_57
      · rw [if_neg c6] at h
        refine lv_iconst (v := 1) hx hb d_Model_same_52 (by decide) ?_
        refine lv_goto (tgt := 57) hx hb d_Model_same_53 (by decide) ?_
        obtain rfl := Option.some.inj h
        have hP9 := hP
        have hD9 := hD
        have hK9 := hK
        exact W.zret (v := 1) (ty := .boolean) hx hb hr (show narrow .boolean (.int 1) = .int 1 from rfl) (fun t ht hW => ⟨⟨1, (), rfl, ⟨rfl, (show narrow .boolean (.int 1) = .int 1 from rfl), (show fits .boolean (.int 1) = true from rfl)⟩, by rw [ht]; exact hP9, va_K.moved hW.alike hK9, hD9⟩, hS.F ht⟩) hS.2.2 d_Model_same_57
  · rw [if_pos c2] at h
    refine lv_iconst (v := 0) hx hb d_Model_same_9 (by decide) ?_
    obtain rfl := Option.some.inj h
    have hP9 := hP
    have hD9 := hD
    have hK9 := hK
    exact W.zret (v := 0) (ty := .boolean) hx hb hr (show narrow .boolean (.int 0) = .int 0 from rfl) (fun t ht hW => ⟨⟨0, (), rfl, ⟨rfl, (show narrow .boolean (.int 0) = .int 0 from rfl), (show fits .boolean (.int 0) = true from rfl)⟩, by rw [ht]; exact hP9, va_K.moved hW.alike hK9, hD9⟩, hS.F ht⟩) hS.2.2 d_Model_same_10

set_option maxHeartbeats 4000000 in
set_option maxRecDepth 100000 in
theorem c_Model_out (l : Launch) (dC : Nat → ClassId) (dI : Nat → Nat → Nat) (N : Nat) (cB : ClassId) (cI : ClassId) (o_Model : Nat) (r : Nat → Nat) (I : Nat → Int32) (F : Nat → Nat → Int32) (p0 : Int32) (z : Int32) (h : m_Model_out N I F p0 = some z) : Met l y_Model_out (.code y_Model_out b_Model_out 2 (some .int) :: lw_g) ({ frames := 0, cells := 0, slots := 0, locals := 0 }) (va_Pc [.ref o_Model, .int p0] (fun U => dz_N U ∧ va_P (dC, dI) classes (wD cB cI o_Model r I F) U.heap ∧ va_K (dC, dI) classes [(cB, .byte), (cI, .int)] U)) (vp_Si (fun r => r = z)) 0 0 (fun _ => False) := by
  refine Met.ofW (cc := b_Model_out) (maxL := 2) (ret := (some .int)) (by decide +kernel) rfl ?_
  intro p e s m args below meth c s₁ B hml hv
  obtain ⟨rfl, hN, hP, hK⟩ := hv
  have hx := B.exec
  have hb := B.bytes
  have hr := B.returns
  have hg : ∀ w ∈ lw_g, w.before _ s = true := fun w hw => atoms_spec (ws := .code y_Model_out b_Model_out 2 (some .int) :: lw_g) B.pre w (List.mem_cons_of_mem _ hw)
  have hown : s.vm.findClass R_Model = some m.cls := findClass_of_methodNamed B.named
  have hlocks := B.notSynchronized
  clear B
  have hP : va_P (dC, dI) classes (wD cB cI o_Model r I F) s.heap := hP
  have hl := lv_entry ([.ref o_Model, .int p0]) (n := 2) (Nat.le_of_ble_eq_true rfl)
  rw [lg_entry_eq]
  generalize (lg_sl ([.ref o_Model, .int p0]) ++ List.replicate (2 - (lg_sl ([.ref o_Model, .int p0])).length) Slot.unset).toArray = ls at hl ⊢
  have hl : lv_has ls 2 [(0, .ref o_Model), (1, .int p0)] := hl
  unfold m_Model_out at h
  refine lv_iload_n hx hb d_Model_out_0 rfl (lv_at hl 1 rfl) ?_
  refine lv_if_lt (tgt := 25) hx hb d_Model_out_1 (by decide) (fun c1 => ?_) (fun c1 => ?_)
  · rw [if_pos c1] at h
    refine lv_iconst (v := (-1)) hx hb d_Model_out_25 (by decide) ?_
    obtain rfl := Option.some.inj h
    exact W.iret (v := (-1)) hx hb hr (fun t ht hW => ⟨_, rfl, rfl, ht⟩) (fun _ h => by cases h) d_Model_out_26
  · rw [if_neg c1] at h
    refine lv_iload_n hx hb d_Model_out_4 rfl (lv_at hl 1 rfl) ?_
    refine lv_aload_n hx hb d_Model_out_5 rfl (lv_at hl 0 rfl) ?_
    refine va_get (D := (dC, dI)) (ci := 10) (v := .int (I 42)) (C := R_Model) (T := F_Model) (N := 54) hx hb hg i_Model hown hK hP 0 rfl rfl 42 (by decide) (hg _ k727) (fun _ h9 => h9) rfl d_Model_out_6 ?_
    refine lv_icmp_ge (tgt := 25) hx hb d_Model_out_9 (by decide) (fun c2 => ?_) (fun c2 => ?_)
    · rw [if_pos c2] at h
      refine lv_iconst (v := (-1)) hx hb d_Model_out_25 (by decide) ?_
      obtain rfl := Option.some.inj h
      exact W.iret (v := (-1)) hx hb hr (fun t ht hW => ⟨_, rfl, rfl, ht⟩) (fun _ h => by cases h) d_Model_out_26
    · rw [if_neg c2] at h
      refine lv_aload_n hx hb d_Model_out_12 rfl (lv_at hl 0 rfl) ?_
      refine va_get (D := (dC, dI)) (ci := 10) (v := .ref (r 41)) (C := R_Model) (T := F_Model) (N := 54) hx hb hg i_Model hown hK hP 0 rfl rfl 41 (by decide) (hg _ k901) (fun _ h9 => h9) rfl d_Model_out_13 ?_
      refine lv_iload_n hx hb d_Model_out_16 rfl (lv_at hl 1 rfl) ?_
      obtain ⟨i3, h⟩ := dz_oi h
      refine va_bald (D := (dC, dI)) (f := F 41) hx hb hK hP 23 0 rfl rfl i3 d_Model_out_17 ?_
      refine lv_sipush (v := 255) hx hb d_Model_out_18 (by decide) ?_
      refine lv_iand hx hb d_Model_out_21 ?_
      refine lv_goto (tgt := 26) hx hb d_Model_out_22 (by decide) ?_
      obtain rfl := Option.some.inj h
      exact W.iret (v := ((F 41) p0.toNatClampNeg) &&& 255) hx hb hr (fun t ht hW => ⟨_, rfl, rfl, ht⟩) (fun _ h => by cases h) d_Model_out_26

set_option maxHeartbeats 4000000 in
set_option maxRecDepth 100000 in
theorem c_Model_limits (l : Launch) (dC : Nat → ClassId) (dI : Nat → Nat → Nat) (N : Nat) (cB : ClassId) (cI : ClassId) (o_Model : Nat) (r : Nat → Nat) (I : Nat → Int32) (F : Nat → Nat → Int32) (p0 : Int32) (p1 : Int32) (p2 : Int32) (sz : Nat) (z : Int32 × (Nat → Int32)) (h : m_Model_limits N I F p0 p1 p2 = some z) : Met l y_Model_limits (.code y_Model_limits b_Model_limits 4 (some .boolean) :: lw_g) ({ frames := 0, cells := 0, slots := 0, locals := 0 }) (va_Pc [.ref o_Model, .int p0, .int p1, .int p2] (fun U => dz_N U ∧ U.heap.size = sz ∧ va_P (dC, dI) classes (wD cB cI o_Model r I F) U.heap ∧ va_K (dC, dI) classes [(cB, .byte), (cI, .int)] U ∧ va_D (fun _ => True) (wD cB cI o_Model r I F))) (va_Qi (fun (r : Int32) (_ : Unit) => r = z.1 ∧ narrow .boolean (.int z.1) = .int z.1 ∧ fits .boolean (.int z.1) = true) (fun (u : Unit) t => va_P (dC, dI) classes (wD cB cI o_Model r z.2 F) t.heap ∧ va_K (dC, dI) classes [(cB, .byte), (cI, .int)] t ∧ va_D (va_A (wD cB cI o_Model r I F) sz) (wD cB cI o_Model r z.2 F)) (va_A (wD cB cI o_Model r I F) sz)) 0 0 (va_A (wD cB cI o_Model r I F) sz) := by
  refine Met.ofW (cc := b_Model_limits) (maxL := 4) (ret := (some .boolean)) (by decide +kernel) rfl ?_
  intro p e s m args below meth c s₁ B hml hv
  obtain ⟨rfl, hN, hsz, hP, hK, hD0⟩ := hv
  have hx := B.exec
  have hb := B.bytes
  have hr := B.returns
  have hg : ∀ w ∈ lw_g, w.before _ s = true := fun w hw => atoms_spec (ws := .code y_Model_limits b_Model_limits 4 (some .boolean) :: lw_g) B.pre w (List.mem_cons_of_mem _ hw)
  have hown : s.vm.findClass R_Model = some m.cls := findClass_of_methodNamed B.named
  have hlocks := B.notSynchronized
  clear B
  subst hsz
  have hD := hD0.self (sz := s.heap.size)
  generalize hAe : va_A (wD cB cI o_Model r I F) s.heap.size = A at hD ⊢
  have hA : ∀ q : Nat, s.heap.size ≤ q → A q := fun q h => by rw [← hAe]; exact Or.inr h
  have hS : va_S A s.heap s.heap [] := va_S.rf
  have hP : va_P (dC, dI) classes (wD cB cI o_Model r I F) s.heap := hP
  have hl := lv_entry ([.ref o_Model, .int p0, .int p1, .int p2]) (n := 4) (Nat.le_of_ble_eq_true rfl)
  rw [lg_entry_eq]
  generalize (lg_sl ([.ref o_Model, .int p0, .int p1, .int p2]) ++ List.replicate (4 - (lg_sl ([.ref o_Model, .int p0, .int p1, .int p2])).length) Slot.unset).toArray = ls at hl ⊢
  have hl : lv_has ls 4 [(0, .ref o_Model), (1, .int p0), (2, .int p1), (3, .int p2)] := hl
  unfold m_Model_limits at h
  refine lv_iload_n hx hb d_Model_limits_0 rfl (lv_at hl 1 rfl) ?_
  refine lv_if_lt (tgt := 18) hx hb d_Model_limits_1 (by decide) (fun c1 => ?_) (fun c1 => ?_)
  · rw [if_pos c1] at h
    refine lv_iconst (v := 0) hx hb d_Model_limits_18 (by decide) ?_
    obtain rfl := Option.some.inj h
    have hP9 := hP
    have hD9 := hD
    have hK9 := hK
    exact W.zret (v := 0) (ty := .boolean) hx hb hr (show narrow .boolean (.int 0) = .int 0 from rfl) (fun t ht hW => ⟨⟨0, (), rfl, ⟨rfl, (show narrow .boolean (.int 0) = .int 0 from rfl), (show fits .boolean (.int 0) = true from rfl)⟩, by rw [ht]; exact hP9, va_K.moved hW.alike hK9, hD9⟩, hS.F ht⟩) hS.2.2 d_Model_limits_19
  · rw [if_neg c1] at h
    refine lv_iload_n hx hb d_Model_limits_4 rfl (lv_at hl 1 rfl) ?_
    refine lv_ldc (v := 131072) hx hb hown (hg _ k770) d_Model_limits_5 ?_
    refine lv_icmp_gt (tgt := 18) hx hb d_Model_limits_7 (by decide) (fun c2 => ?_) (fun c2 => ?_)
    · rw [if_pos c2] at h
      refine lv_iconst (v := 0) hx hb d_Model_limits_18 (by decide) ?_
      obtain rfl := Option.some.inj h
      have hP9 := hP
      have hD9 := hD
      have hK9 := hK
      exact W.zret (v := 0) (ty := .boolean) hx hb hr (show narrow .boolean (.int 0) = .int 0 from rfl) (fun t ht hW => ⟨⟨0, (), rfl, ⟨rfl, (show narrow .boolean (.int 0) = .int 0 from rfl), (show fits .boolean (.int 0) = true from rfl)⟩, by rw [ht]; exact hP9, va_K.moved hW.alike hK9, hD9⟩, hS.F ht⟩) hS.2.2 d_Model_limits_19
    · rw [if_neg c2] at h
      refine lv_iload_n hx hb d_Model_limits_10 rfl (lv_at hl 2 rfl) ?_
      refine lv_if_lt (tgt := 18) hx hb d_Model_limits_11 (by decide) (fun c3 => ?_) (fun c3 => ?_)
      · rw [if_pos c3] at h
        refine lv_iconst (v := 0) hx hb d_Model_limits_18 (by decide) ?_
        obtain rfl := Option.some.inj h
        have hP9 := hP
        have hD9 := hD
        have hK9 := hK
        exact W.zret (v := 0) (ty := .boolean) hx hb hr (show narrow .boolean (.int 0) = .int 0 from rfl) (fun t ht hW => ⟨⟨0, (), rfl, ⟨rfl, (show narrow .boolean (.int 0) = .int 0 from rfl), (show fits .boolean (.int 0) = true from rfl)⟩, by rw [ht]; exact hP9, va_K.moved hW.alike hK9, hD9⟩, hS.F ht⟩) hS.2.2 d_Model_limits_19
      · rw [if_neg c3] at h
        refine lv_iload_n hx hb d_Model_limits_14 rfl (lv_at hl 3 rfl) ?_
        refine lv_if_ge (tgt := 20) hx hb d_Model_limits_15 (by decide) (fun c4 => ?_) (fun c4 => ?_)
        · rw [if_pos c4] at h
          refine lv_aload_n hx hb d_Model_limits_20 rfl (lv_at hl 0 rfl) ?_
          refine lv_iload_n hx hb d_Model_limits_21 rfl (lv_at hl 1 rfl) ?_
          refine va_put (D := (dC, dI)) (ci := 10) (v := .int p0) (ty := .int) (C := R_Model) (T := F_Model) (N := 54) hx hb hg i_Model t_Model t_Model_ok n_Model hown hK hP hD hS 0 rfl rfl 43 (by decide) (hg _ k769) (fun _ h9 => h9) rfl (by decide +kernel) rfl rfl (Nat.le_of_ble_eq_true rfl) d_Model_limits_22 (fun H locs hP hD hS => ?_)
          obtain ⟨J5, eJ5, h⟩ := dz_lt h
          have hP : va_P (dC, dI) classes (wD cB cI o_Model r J5 F) H := by rw [eJ5]; exact hP
          have hD : va_D A (wD cB cI o_Model r J5 F) := by rw [eJ5]; exact hD
          refine lv_aload_n hx hb d_Model_limits_25 rfl (lv_at hl 0 rfl) ?_
          refine lv_iload_n hx hb d_Model_limits_26 rfl (lv_at hl 2 rfl) ?_
          refine va_put (D := (dC, dI)) (ci := 10) (v := .int p1) (ty := .int) (C := R_Model) (T := F_Model) (N := 54) hx hb hg i_Model t_Model t_Model_ok n_Model hown hK hP hD hS 0 rfl rfl 44 (by decide) (hg _ k878) (fun _ h9 => h9) rfl (by decide +kernel) rfl rfl (Nat.le_of_ble_eq_true rfl) d_Model_limits_27 (fun H locs hP hD hS => ?_)
          obtain ⟨J6, eJ6, h⟩ := dz_lt h
          have hP : va_P (dC, dI) classes (wD cB cI o_Model r J6 F) H := by rw [eJ6]; exact hP
          have hD : va_D A (wD cB cI o_Model r J6 F) := by rw [eJ6]; exact hD
          refine lv_aload_n hx hb d_Model_limits_30 rfl (lv_at hl 0 rfl) ?_
          refine lv_iload_n hx hb d_Model_limits_31 rfl (lv_at hl 3 rfl) ?_
          refine va_put (D := (dC, dI)) (ci := 10) (v := .int p2) (ty := .int) (C := R_Model) (T := F_Model) (N := 54) hx hb hg i_Model t_Model t_Model_ok n_Model hown hK hP hD hS 0 rfl rfl 45 (by decide) (hg _ k937) (fun _ h9 => h9) rfl (by decide +kernel) rfl rfl (Nat.le_of_ble_eq_true rfl) d_Model_limits_32 (fun H locs hP hD hS => ?_)
          obtain ⟨J7, eJ7, h⟩ := dz_lt h
          have hP : va_P (dC, dI) classes (wD cB cI o_Model r J7 F) H := by rw [eJ7]; exact hP
          have hD : va_D A (wD cB cI o_Model r J7 F) := by rw [eJ7]; exact hD
          refine lv_iconst (v := 1) hx hb d_Model_limits_35 (by decide) ?_
          obtain rfl := Option.some.inj h
          have hP9 := hP
          have hD9 := hD
          have hK9 := hK
          exact W.zret (v := 1) (ty := .boolean) hx hb hr (show narrow .boolean (.int 1) = .int 1 from rfl) (fun t ht hW => ⟨⟨1, (), rfl, ⟨rfl, (show narrow .boolean (.int 1) = .int 1 from rfl), (show fits .boolean (.int 1) = true from rfl)⟩, by rw [ht]; exact hP9, va_K.moved hW.alike hK9, hD9⟩, hS.F ht⟩) hS.2.2 d_Model_limits_36
        · rw [if_neg c4] at h
          refine lv_iconst (v := 0) hx hb d_Model_limits_18 (by decide) ?_
          obtain rfl := Option.some.inj h
          have hP9 := hP
          have hD9 := hD
          have hK9 := hK
          exact W.zret (v := 0) (ty := .boolean) hx hb hr (show narrow .boolean (.int 0) = .int 0 from rfl) (fun t ht hW => ⟨⟨0, (), rfl, ⟨rfl, (show narrow .boolean (.int 0) = .int 0 from rfl), (show fits .boolean (.int 0) = true from rfl)⟩, by rw [ht]; exact hP9, va_K.moved hW.alike hK9, hD9⟩, hS.F ht⟩) hS.2.2 d_Model_limits_19

set_option maxHeartbeats 4000000 in
set_option maxRecDepth 100000 in
theorem c_Model_collect (l : Launch) (dC : Nat → ClassId) (dI : Nat → Nat → Nat) (N : Nat) (cB : ClassId) (cI : ClassId) (o_Model : Nat) (r : Nat → Nat) (I : Nat → Int32) (F : Nat → Nat → Int32) (p0 : Int32) (z : Int32) (h : m_Model_collect N I F p0 = some z) : Met l y_Model_collect (.code y_Model_collect b_Model_collect 2 (some .boolean) :: lw_g) ({ frames := 0, cells := 0, slots := 0, locals := 0 }) (va_Pc [.ref o_Model, .int p0] (fun U => dz_N U ∧ va_P (dC, dI) classes (wD cB cI o_Model r I F) U.heap ∧ va_K (dC, dI) classes [(cB, .byte), (cI, .int)] U)) (vp_Si (fun r => r = z ∧ narrow .boolean (.int z) = .int z ∧ fits .boolean (.int z) = true)) 0 0 (fun _ => False) := by
  refine Met.ofW (cc := b_Model_collect) (maxL := 2) (ret := (some .boolean)) (by decide +kernel) rfl ?_
  intro p e s m args below meth c s₁ B hml hv
  obtain ⟨rfl, hN, hP, hK⟩ := hv
  have hx := B.exec
  have hb := B.bytes
  have hr := B.returns
  have hg : ∀ w ∈ lw_g, w.before _ s = true := fun w hw => atoms_spec (ws := .code y_Model_collect b_Model_collect 2 (some .boolean) :: lw_g) B.pre w (List.mem_cons_of_mem _ hw)
  have hown : s.vm.findClass R_Model = some m.cls := findClass_of_methodNamed B.named
  have hlocks := B.notSynchronized
  clear B
  have hP : va_P (dC, dI) classes (wD cB cI o_Model r I F) s.heap := hP
  have hl := lv_entry ([.ref o_Model, .int p0]) (n := 2) (Nat.le_of_ble_eq_true rfl)
  rw [lg_entry_eq]
  generalize (lg_sl ([.ref o_Model, .int p0]) ++ List.replicate (2 - (lg_sl ([.ref o_Model, .int p0])).length) Slot.unset).toArray = ls at hl ⊢
  have hl : lv_has ls 2 [(0, .ref o_Model), (1, .int p0)] := hl
  unfold m_Model_collect at h
  refine lv_iload_n hx hb d_Model_collect_0 rfl (lv_at hl 1 rfl) ?_
  refine lv_iconst (v := 1) hx hb d_Model_collect_1 (by decide) ?_
  refine lv_icmp_lt (tgt := 15) hx hb d_Model_collect_2 (by decide) (fun c1 => ?_) (fun c1 => ?_)
  · rw [if_pos c1] at h
    refine lv_iconst (v := 0) hx hb d_Model_collect_15 (by decide) ?_
    obtain rfl := Option.some.inj h
    exact W.zret (v := 0) (ty := .boolean) hx hb hr (show narrow .boolean (.int 0) = .int 0 from rfl) (fun t ht hW => ⟨_, rfl, ⟨rfl, (show narrow .boolean (.int 0) = .int 0 from rfl), (show fits .boolean (.int 0) = true from rfl)⟩, ht⟩) (fun _ h => by cases h) d_Model_collect_16
  · rw [if_neg c1] at h
    refine lv_iload_n hx hb d_Model_collect_5 rfl (lv_at hl 1 rfl) ?_
    refine lv_ldc (v := 1000000) hx hb hown (hg _ k714) d_Model_collect_6 ?_
    refine lv_icmp_gt (tgt := 15) hx hb d_Model_collect_8 (by decide) (fun c2 => ?_) (fun c2 => ?_)
    · rw [if_pos c2] at h
      refine lv_iconst (v := 0) hx hb d_Model_collect_15 (by decide) ?_
      obtain rfl := Option.some.inj h
      exact W.zret (v := 0) (ty := .boolean) hx hb hr (show narrow .boolean (.int 0) = .int 0 from rfl) (fun t ht hW => ⟨_, rfl, ⟨rfl, (show narrow .boolean (.int 0) = .int 0 from rfl), (show fits .boolean (.int 0) = true from rfl)⟩, ht⟩) (fun _ h => by cases h) d_Model_collect_16
    · rw [if_neg c2] at h
      refine lv_iconst (v := 1) hx hb d_Model_collect_11 (by decide) ?_
      refine lv_goto (tgt := 16) hx hb d_Model_collect_12 (by decide) ?_
      obtain rfl := Option.some.inj h
      exact W.zret (v := 1) (ty := .boolean) hx hb hr (show narrow .boolean (.int 1) = .int 1 from rfl) (fun t ht hW => ⟨_, rfl, ⟨rfl, (show narrow .boolean (.int 1) = .int 1 from rfl), (show fits .boolean (.int 1) = true from rfl)⟩, ht⟩) (fun _ h => by cases h) d_Model_collect_16

set_option maxHeartbeats 4000000 in
set_option maxRecDepth 100000 in
theorem l_Model_unmark_1 {p : Program} {l : Launch} {e : Env} {s : State} {m : MethodId} {args : Array Value} {below : List Frame} {meth : Method} {c : Code} {Q : State → Prop} {A : Nat → Prop} (dC : Nat → ClassId) (dI : Nat → Nat → Nat) (N : Nat) (cB : ClassId) (cI : ClassId) (o_Model : Nat) (r : Nat → Nat) (I : Nat → Int32) {ζ : Type} {z : ζ} (hx : p.tables.exec = Jvm.exec) (hb : c.code = b_Model_unmark) (hml : c.maxLocals = 2) (hown : s.vm.findClass R_Model = some m.cls) (hg : ∀ w ∈ lw_g, w.before args s = true) (hN : dz_N s) (hK : va_K (dC, dI) classes [(cB, .byte), (cI, .int)] s) (hA : ∀ q : Nat, s.heap.size ≤ q → A q) {k1_28 : Int32 → (Nat → Nat → Int32) → Option (ζ)} (hk1_28 : ∀ (v1_1 : Int32) (w1_F : (Nat → Nat → Int32))    (H : Heap) (locs : List Loc) (ls : Array Slot), k1_28 v1_1 w1_F = some z → va_P (dC, dI) classes (wD cB cI o_Model r I w1_F) H → va_D A (wD cB cI o_Model r I w1_F) → va_S A s.heap H locs → lv_has ls 2 [(1, .int v1_1), (0, .ref o_Model)] → W p l e ({ frames := 3, cells := 0, slots := 0, locals := 64 } : Room) s m args below meth c H locs 0 0 Q (F0 m 28 ls [])) : ∀ (n1 : Nat) (v1_1 : Int32) (w1_F : (Nat → Nat → Int32))   (H : Heap) (locs : List Loc) (ls : Array Slot), lm_Model_unmark_1 N I k1_28 n1 v1_1 w1_F = some z → va_P (dC, dI) classes (wD cB cI o_Model r I w1_F) H → va_D A (wD cB cI o_Model r I w1_F) → va_S A s.heap H locs → lv_has ls 2 [(1, .int v1_1), (0, .ref o_Model)] → W p l e ({ frames := 3, cells := 0, slots := 0, locals := 64 } : Room) s m args below meth c H locs 0 0 Q (F0 m 2 ls []) := by
  intro n1
  induction n1 with
  | zero =>
    intro v1_1 w1_F H locs ls h hP hD hS hl
    rw [lm_Model_unmark_1] at h
    cases h
  | succ n1 ih1 =>
    intro v1_1 w1_F H locs ls h hP hD hS hl
    rw [lm_Model_unmark_1] at h
    refine lv_iload_n hx hb d_Model_unmark_2 rfl (lv_at hl 0 rfl) ?_
    refine lv_aload_n hx hb d_Model_unmark_3 rfl (lv_at hl 1 rfl) ?_
    refine va_get (D := (dC, dI)) (ci := 10) (v := .int (I 3)) (C := R_Model) (T := F_Model) (N := 54) hx hb hg i_Model hown hK hP 0 rfl rfl 3 (by decide) (hg _ k764) (fun _ h9 => h9) rfl d_Model_unmark_4 ?_
    refine lv_icmp_ge (tgt := 28) hx hb d_Model_unmark_7 (by decide) (fun c1 => ?_) (fun c1 => ?_)
    · rw [if_pos c1] at h
      exact hk1_28 v1_1 w1_F _ _ _ h hP hD hS (lv_sub hl [0, 1] rfl)
    · rw [if_neg c1] at h
      refine lv_aload_n hx hb d_Model_unmark_10 rfl (lv_at hl 1 rfl) ?_
      refine va_get (D := (dC, dI)) (ci := 10) (v := .ref (r 2)) (C := R_Model) (T := F_Model) (N := 54) hx hb hg i_Model hown hK hP 0 rfl rfl 2 (by decide) (hg _ k747) (fun _ h9 => h9) rfl d_Model_unmark_11 ?_
      refine lv_iload_n hx hb d_Model_unmark_14 rfl (lv_at hl 0 rfl) ?_
      refine lv_iconst (v := (-1)) hx hb d_Model_unmark_15 (by decide) ?_
      obtain ⟨i2, h⟩ := dz_oi h
      refine va_iast (D := (dC, dI)) (f := w1_F 2) hx hb hK hP hD hS 3 1 rfl rfl i2 d_Model_unmark_16 (fun H locs hP hD hS => ?_)
      obtain ⟨G3, eG3, h⟩ := dz_lt h
      have hP : va_P (dC, dI) classes (wD cB cI o_Model r I G3) H := by rw [eG3]; exact hP
      have hD : va_D A (wD cB cI o_Model r I G3) := by rw [eG3]; exact hD
      refine lv_iload_n hx hb d_Model_unmark_17 rfl (lv_at hl 0 rfl) ?_
      refine lv_aload_n hx hb d_Model_unmark_18 rfl (lv_at hl 1 rfl) ?_
      refine lv_iload_n hx hb d_Model_unmark_19 rfl (lv_at hl 0 rfl) ?_
      obtain ⟨z4_1, hc4, h⟩ := dz_ob h
      try dsimp only at h
      have hPc := hP
      have hKc := hK
      refine vp_callSi (va_Run.run (va_runV (As := [.int v1_1]) (rest := [.int v1_1]) ⟨hx, hb, hml, hown, hg⟩ (c_Model_sizeAt l dC dI N cB cI o_Model r I G3 v1_1 z4_1 hc4) (cwV 1 hg (gd_V k751 k752 k753 k707 k750) rfl rfl rfl (by decide +kernel) ⟨Nat.le_of_ble_eq_true rfl, Nat.le_of_ble_eq_true rfl⟩) ⟨dz_blindR, va_recv hKc hPc (ci := 10) (q0 := 0) rfl rfl, fun U hU hW => ⟨rfl, dz_Nw hW hN, by rw [hU]; exact hPc, va_K.moved hW.alike hKc⟩⟩ rfl rfl hl.1 rfl (lv_room (Nat.le_of_ble_eq_true rfl)) d_Model_unmark_20 ⟨Nat.le_of_ble_eq_true rfl, Nat.le_of_ble_eq_true rfl⟩)) (fun r4 hw => ?_)
      have hw : z4_1 = r4 := hw.symm
      subst hw
      refine lv_iadd hx hb d_Model_unmark_23 ?_
      refine lv_istore_n (lv' := [(1, .int (v1_1 + z4_1)), (0, .ref o_Model)]) hx hb d_Model_unmark_24 rfl hl (by decide) rfl (fun ls hl => ?_)
      refine lv_goto (tgt := 2) hx hb d_Model_unmark_25 (by decide) ?_
      exact ih1 (v1_1 + z4_1) G3 _ _ _ h hP hD hS (lv_sub hl [0, 1] rfl)
set_option maxHeartbeats 4000000 in
set_option maxRecDepth 100000 in
theorem c_Model_unmark (l : Launch) (dC : Nat → ClassId) (dI : Nat → Nat → Nat) (N : Nat) (cB : ClassId) (cI : ClassId) (o_Model : Nat) (r : Nat → Nat) (I : Nat → Int32) (F : Nat → Nat → Int32) (sz : Nat) (z : (Nat → Nat → Int32)) (h : m_Model_unmark N I F = some z) : Met l y_Model_unmark (.code y_Model_unmark b_Model_unmark 2 none :: lw_g) ({ frames := 3, cells := 0, slots := 0, locals := 64 }) (va_Pc [.ref o_Model] (fun U => dz_N U ∧ U.heap.size = sz ∧ va_P (dC, dI) classes (wD cB cI o_Model r I F) U.heap ∧ va_K (dC, dI) classes [(cB, .byte), (cI, .int)] U ∧ va_D (fun _ => True) (wD cB cI o_Model r I F))) (va_Qv (fun (_ : Unit) => True) (fun (u : Unit) t => va_P (dC, dI) classes (wD cB cI o_Model r I z) t.heap ∧ va_K (dC, dI) classes [(cB, .byte), (cI, .int)] t ∧ va_D (va_A (wD cB cI o_Model r I F) sz) (wD cB cI o_Model r I z)) (va_A (wD cB cI o_Model r I F) sz)) 0 0 (va_A (wD cB cI o_Model r I F) sz) := by
  refine Met.ofW (cc := b_Model_unmark) (maxL := 2) (ret := none) (by decide +kernel) rfl ?_
  intro p e s m args below meth c s₁ B hml hv
  obtain ⟨rfl, hN, hsz, hP, hK, hD0⟩ := hv
  have hx := B.exec
  have hb := B.bytes
  have hr := B.returns
  have hg : ∀ w ∈ lw_g, w.before _ s = true := fun w hw => atoms_spec (ws := .code y_Model_unmark b_Model_unmark 2 none :: lw_g) B.pre w (List.mem_cons_of_mem _ hw)
  have hown : s.vm.findClass R_Model = some m.cls := findClass_of_methodNamed B.named
  have hlocks := B.notSynchronized
  clear B
  subst hsz
  have hD := hD0.self (sz := s.heap.size)
  generalize hAe : va_A (wD cB cI o_Model r I F) s.heap.size = A at hD ⊢
  have hA : ∀ q : Nat, s.heap.size ≤ q → A q := fun q h => by rw [← hAe]; exact Or.inr h
  have hS : va_S A s.heap s.heap [] := va_S.rf
  have hP : va_P (dC, dI) classes (wD cB cI o_Model r I F) s.heap := hP
  have hl := lv_entry ([.ref o_Model]) (n := 2) (Nat.le_of_ble_eq_true rfl)
  rw [lg_entry_eq]
  generalize (lg_sl ([.ref o_Model]) ++ List.replicate (2 - (lg_sl ([.ref o_Model])).length) Slot.unset).toArray = ls at hl ⊢
  have hl : lv_has ls 2 [(0, .ref o_Model)] := hl
  unfold m_Model_unmark at h
  refine lv_iconst (v := 0) hx hb d_Model_unmark_0 (by decide) ?_
  refine lv_istore_n (lv' := [(1, .int 0), (0, .ref o_Model)]) hx hb d_Model_unmark_1 rfl hl (by decide) rfl (fun ls hl => ?_)
  refine l_Model_unmark_1 dC dI N cB cI o_Model r I hx hb hml hown hg hN hK hA (fun v1_1 w1_F H locs ls h hP hD hS hl => ?_) N (0 : Int32) F _ _ _ h hP hD hS (lv_sub hl [0, 1] rfl)
  obtain rfl := Option.some.inj h
  have hP9 := hP
  have hD9 := hD
  have hK9 := hK
  exact W.vret hx hb hr (fun t ht hW => ⟨⟨(), rfl, trivial, by rw [ht]; exact hP9, va_K.moved hW.alike hK9, hD9⟩, hS.F ht⟩) hS.2.2 d_Model_unmark_28

set_option maxHeartbeats 4000000 in
set_option maxRecDepth 100000 in
theorem c_Model_reached (l : Launch) (dC : Nat → ClassId) (dI : Nat → Nat → Nat) (N : Nat) (cB : ClassId) (cI : ClassId) (o_Model : Nat) (r : Nat → Nat) (I : Nat → Int32) (F : Nat → Nat → Int32) (sz : Nat) (z : Int32 × (Nat → Nat → Int32) × (Nat → Int32)) (h : m_Model_reached N I F = some z) : Met l y_Model_reached (.code y_Model_reached b_Model_reached 1 (some .int) :: lw_g) ({ frames := 6, cells := 0, slots := 0, locals := 129 }) (va_Pc [.ref o_Model] (fun U => dz_N U ∧ U.heap.size = sz ∧ va_P (dC, dI) classes (wD cB cI o_Model r I F) U.heap ∧ va_K (dC, dI) classes [(cB, .byte), (cI, .int)] U ∧ va_D (fun _ => True) (wD cB cI o_Model r I F))) (va_Qi (fun (r : Int32) (_ : Unit) => r = z.1) (fun (u : Unit) t => va_P (dC, dI) classes (wD cB cI o_Model r z.2.2 z.2.1) t.heap ∧ va_K (dC, dI) classes [(cB, .byte), (cI, .int)] t ∧ va_D (va_A (wD cB cI o_Model r I F) sz) (wD cB cI o_Model r z.2.2 z.2.1)) (va_A (wD cB cI o_Model r I F) sz)) 0 0 (va_A (wD cB cI o_Model r I F) sz) := by
  refine Met.ofW (cc := b_Model_reached) (maxL := 1) (ret := (some .int)) (by decide +kernel) rfl ?_
  intro p e s m args below meth c s₁ B hml hv
  obtain ⟨rfl, hN, hsz, hP, hK, hD0⟩ := hv
  have hx := B.exec
  have hb := B.bytes
  have hr := B.returns
  have hg : ∀ w ∈ lw_g, w.before _ s = true := fun w hw => atoms_spec (ws := .code y_Model_reached b_Model_reached 1 (some .int) :: lw_g) B.pre w (List.mem_cons_of_mem _ hw)
  have hown : s.vm.findClass R_Model = some m.cls := findClass_of_methodNamed B.named
  have hlocks := B.notSynchronized
  clear B
  subst hsz
  have hD := hD0.self (sz := s.heap.size)
  generalize hAe : va_A (wD cB cI o_Model r I F) s.heap.size = A at hD ⊢
  have hA : ∀ q : Nat, s.heap.size ≤ q → A q := fun q h => by rw [← hAe]; exact Or.inr h
  have hS : va_S A s.heap s.heap [] := va_S.rf
  have hP : va_P (dC, dI) classes (wD cB cI o_Model r I F) s.heap := hP
  have hl := lv_entry ([.ref o_Model]) (n := 1) (Nat.le_of_ble_eq_true rfl)
  rw [lg_entry_eq]
  generalize (lg_sl ([.ref o_Model]) ++ List.replicate (1 - (lg_sl ([.ref o_Model])).length) Slot.unset).toArray = ls at hl ⊢
  have hl : lv_has ls 1 [(0, .ref o_Model)] := hl
  unfold m_Model_reached at h
  refine lv_aload_n hx hb d_Model_reached_0 rfl (lv_at hl 0 rfl) ?_
  obtain ⟨⟨z1_1, z1_2⟩, hc1, h⟩ := dz_ob h
  try dsimp only at h
  have hPc := hP
  have hKc := hK
  have hDc := hD
  have hFc := dz_freeall hD hS hA
  refine va_callv (va_runV (As := []) (rest := []) ⟨hx, hb, hml, hown, hg⟩ (c_Model_markGlobals l dC dI N cB cI o_Model r I F s.heap.size (z1_1, z1_2) hc1) (cwV 0 hg (gd_V k772 k773 k774 k707 k771) rfl rfl rfl (by decide +kernel) ⟨Nat.le_of_ble_eq_true rfl, Nat.le_of_ble_eq_true rfl⟩) ⟨dz_blind, va_recv hKc hPc (ci := 10) (q0 := 0) rfl rfl, fun U hU hW => ⟨rfl, dz_Nw hW hN, by rw [hU], by rw [hU]; exact hPc, va_K.moved hW.alike hKc, hDc.weaken (fun _ _ _ _ => trivial)⟩⟩ rfl rfl hl.1 rfl (lv_room (Nat.le_of_ble_eq_true rfl)) d_Model_reached_1 ⟨Nat.le_of_ble_eq_true rfl, Nat.le_of_ble_eq_true rfl⟩) hS (fun q _ h => hFc q h) hFc (fun u1 t1 H1 locs ht hvm hw hB hz1 hk1 hS => ?_)
  obtain ⟨hP1, hK1, hD1⟩ := hB
  rw [ht] at hP1
  have hP := hP1
  have hD := hD1.weaken (fun _ q _ h => hFc q.1 h)
  generalize H1 = H at hP hS ⊢
  have hP : va_P (dC, dI) classes (wD cB cI o_Model r z1_2 z1_1) H := hP
  have hD : va_D A (wD cB cI o_Model r z1_2 z1_1) := hD
  refine lv_aload_n hx hb d_Model_reached_4 rfl (lv_at hl 0 rfl) ?_
  refine lv_aload_n hx hb d_Model_reached_5 rfl (lv_at hl 0 rfl) ?_
  refine va_get (D := (dC, dI)) (ci := 10) (v := .int (z1_2 7)) (C := R_Model) (T := F_Model) (N := 54) hx hb hg i_Model hown hK hP 0 rfl rfl 7 (by decide) (hg _ k728) (fun _ h9 => h9) rfl d_Model_reached_6 ?_
  refine lv_aload_n hx hb d_Model_reached_9 rfl (lv_at hl 0 rfl) ?_
  refine va_get (D := (dC, dI)) (ci := 10) (v := .int (z1_2 8)) (C := R_Model) (T := F_Model) (N := 54) hx hb hg i_Model hown hK hP 0 rfl rfl 8 (by decide) (hg _ k729) (fun _ h9 => h9) rfl d_Model_reached_10 ?_
  obtain ⟨⟨z2_1, z2_2⟩, hc2, h⟩ := dz_ob h
  try dsimp only at h
  have hPc := hP
  have hKc := hK
  have hDc := hD
  have hFc := dz_freeall hD hS hA
  refine va_callv (va_runV (As := [.int (z1_2 7), .int (z1_2 8)]) (rest := []) ⟨hx, hb, hml, hown, hg⟩ (c_Model_mark l dC dI N cB cI o_Model r z1_2 z1_1 (z1_2 7) (z1_2 8) H.size (z2_1, z2_2) hc2) (cwV 2 hg (gd_V k755 k756 k757 k707 k754) rfl rfl rfl (by decide +kernel) ⟨Nat.le_of_ble_eq_true rfl, Nat.le_of_ble_eq_true rfl⟩) ⟨dz_blind, va_recv hKc hPc (ci := 10) (q0 := 0) rfl rfl, fun U hU hW => ⟨rfl, dz_Nw hW hN, by rw [hU], by rw [hU]; exact hPc, va_K.moved hW.alike hKc, hDc.weaken (fun _ _ _ _ => trivial)⟩⟩ rfl rfl hl.1 rfl (lv_room (Nat.le_of_ble_eq_true rfl)) d_Model_reached_13 ⟨Nat.le_of_ble_eq_true rfl, Nat.le_of_ble_eq_true rfl⟩) hS (fun q _ h => hFc q h) hFc (fun u2 t2 H1 locs ht hvm hw hB hz1 hk1 hS => ?_)
  obtain ⟨hP1, hK1, hD1⟩ := hB
  rw [ht] at hP1
  have hP := hP1
  have hD := hD1.weaken (fun _ q _ h => hFc q.1 h)
  generalize H1 = H at hP hS ⊢
  have hP : va_P (dC, dI) classes (wD cB cI o_Model r z2_2 z2_1) H := hP
  have hD : va_D A (wD cB cI o_Model r z2_2 z2_1) := hD
  refine lv_aload_n hx hb d_Model_reached_16 rfl (lv_at hl 0 rfl) ?_
  obtain ⟨⟨z3_1, z3_2⟩, hc3, h⟩ := dz_ob h
  try dsimp only at h
  have hPc := hP
  have hKc := hK
  have hDc := hD
  have hFc := dz_freeall hD hS hA
  refine va_callv (va_runV (As := []) (rest := []) ⟨hx, hb, hml, hown, hg⟩ (c_Model_markAll l dC dI N cB cI o_Model r z2_2 z2_1 H.size (z3_1, z3_2) hc3) (cwV 0 hg (gd_V k761 k762 k763 k707 k760) rfl rfl rfl (by decide +kernel) ⟨Nat.le_of_ble_eq_true rfl, Nat.le_of_ble_eq_true rfl⟩) ⟨dz_blind, va_recv hKc hPc (ci := 10) (q0 := 0) rfl rfl, fun U hU hW => ⟨rfl, dz_Nw hW hN, by rw [hU], by rw [hU]; exact hPc, va_K.moved hW.alike hKc, hDc.weaken (fun _ _ _ _ => trivial)⟩⟩ rfl rfl hl.1 rfl (lv_room (Nat.le_of_ble_eq_true rfl)) d_Model_reached_17 ⟨Nat.le_of_ble_eq_true rfl, Nat.le_of_ble_eq_true rfl⟩) hS (fun q _ h => hFc q h) hFc (fun u3 t3 H1 locs ht hvm hw hB hz1 hk1 hS => ?_)
  obtain ⟨hP1, hK1, hD1⟩ := hB
  rw [ht] at hP1
  have hP := hP1
  have hD := hD1.weaken (fun _ q _ h => hFc q.1 h)
  generalize H1 = H at hP hS ⊢
  have hP : va_P (dC, dI) classes (wD cB cI o_Model r z3_2 z3_1) H := hP
  have hD : va_D A (wD cB cI o_Model r z3_2 z3_1) := hD
  refine lv_aload_n hx hb d_Model_reached_20 rfl (lv_at hl 0 rfl) ?_
  obtain ⟨z4_1, hc4, h⟩ := dz_ob h
  try dsimp only at h
  have hPc := hP
  have hKc := hK
  have hDc := hD
  have hFc := dz_freeall hD hS hA
  refine va_callv (va_runV (As := []) (rest := []) ⟨hx, hb, hml, hown, hg⟩ (c_Model_unmark l dC dI N cB cI o_Model r z3_2 z3_1 H.size z4_1 hc4) (cwV 0 hg (gd_V k1041 k1042 k1043 k707 k1040) rfl rfl rfl (by decide +kernel) ⟨Nat.le_of_ble_eq_true rfl, Nat.le_of_ble_eq_true rfl⟩) ⟨dz_blind, va_recv hKc hPc (ci := 10) (q0 := 0) rfl rfl, fun U hU hW => ⟨rfl, dz_Nw hW hN, by rw [hU], by rw [hU]; exact hPc, va_K.moved hW.alike hKc, hDc.weaken (fun _ _ _ _ => trivial)⟩⟩ rfl rfl hl.1 rfl (lv_room (Nat.le_of_ble_eq_true rfl)) d_Model_reached_21 ⟨Nat.le_of_ble_eq_true rfl, Nat.le_of_ble_eq_true rfl⟩) hS (fun q _ h => hFc q h) hFc (fun u4 t4 H1 locs ht hvm hw hB hz1 hk1 hS => ?_)
  obtain ⟨hP1, hK1, hD1⟩ := hB
  rw [ht] at hP1
  have hP := hP1
  have hD := hD1.weaken (fun _ q _ h => hFc q.1 h)
  generalize H1 = H at hP hS ⊢
  have hP : va_P (dC, dI) classes (wD cB cI o_Model r z3_2 z4_1) H := hP
  have hD : va_D A (wD cB cI o_Model r z3_2 z4_1) := hD
  refine lv_aload_n hx hb d_Model_reached_24 rfl (lv_at hl 0 rfl) ?_
  refine va_get (D := (dC, dI)) (ci := 10) (v := .int (z3_2 51)) (C := R_Model) (T := F_Model) (N := 54) hx hb hg i_Model hown hK hP 0 rfl rfl 51 (by decide) (hg _ k749) (fun _ h9 => h9) rfl d_Model_reached_25 ?_
  obtain rfl := Option.some.inj h
  have hP9 := hP
  have hD9 := hD
  have hK9 := hK
  exact W.iret (v := z3_2 51) hx hb hr (fun t ht hW => ⟨⟨z3_2 51, (), rfl, rfl, by rw [ht]; exact hP9, va_K.moved hW.alike hK9, hD9⟩, hS.F ht⟩) hS.2.2 d_Model_reached_28

set_option maxHeartbeats 4000000 in
set_option maxRecDepth 100000 in
theorem c_Model_forget (l : Launch) (dC : Nat → ClassId) (dI : Nat → Nat → Nat) (N : Nat) (cB : ClassId) (cI : ClassId) (o_Model : Nat) (r : Nat → Nat) (I : Nat → Int32) (F : Nat → Nat → Int32) (sz : Nat) (z : (Nat → Int32)) (h : m_Model_forget N I F = some z) : Met l y_Model_forget (.code y_Model_forget b_Model_forget 1 none :: lw_g) ({ frames := 0, cells := 0, slots := 0, locals := 0 }) (va_Pc [.ref o_Model] (fun U => dz_N U ∧ U.heap.size = sz ∧ va_P (dC, dI) classes (wD cB cI o_Model r I F) U.heap ∧ va_K (dC, dI) classes [(cB, .byte), (cI, .int)] U ∧ va_D (fun _ => True) (wD cB cI o_Model r I F))) (va_Qv (fun (_ : Unit) => True) (fun (u : Unit) t => va_P (dC, dI) classes (wD cB cI o_Model r z F) t.heap ∧ va_K (dC, dI) classes [(cB, .byte), (cI, .int)] t ∧ va_D (va_A (wD cB cI o_Model r I F) sz) (wD cB cI o_Model r z F)) (va_A (wD cB cI o_Model r I F) sz)) 0 0 (va_A (wD cB cI o_Model r I F) sz) := by
  refine Met.ofW (cc := b_Model_forget) (maxL := 1) (ret := none) (by decide +kernel) rfl ?_
  intro p e s m args below meth c s₁ B hml hv
  obtain ⟨rfl, hN, hsz, hP, hK, hD0⟩ := hv
  have hx := B.exec
  have hb := B.bytes
  have hr := B.returns
  have hg : ∀ w ∈ lw_g, w.before _ s = true := fun w hw => atoms_spec (ws := .code y_Model_forget b_Model_forget 1 none :: lw_g) B.pre w (List.mem_cons_of_mem _ hw)
  have hown : s.vm.findClass R_Model = some m.cls := findClass_of_methodNamed B.named
  have hlocks := B.notSynchronized
  clear B
  subst hsz
  have hD := hD0.self (sz := s.heap.size)
  generalize hAe : va_A (wD cB cI o_Model r I F) s.heap.size = A at hD ⊢
  have hA : ∀ q : Nat, s.heap.size ≤ q → A q := fun q h => by rw [← hAe]; exact Or.inr h
  have hS : va_S A s.heap s.heap [] := va_S.rf
  have hP : va_P (dC, dI) classes (wD cB cI o_Model r I F) s.heap := hP
  have hl := lv_entry ([.ref o_Model]) (n := 1) (Nat.le_of_ble_eq_true rfl)
  rw [lg_entry_eq]
  generalize (lg_sl ([.ref o_Model]) ++ List.replicate (1 - (lg_sl ([.ref o_Model])).length) Slot.unset).toArray = ls at hl ⊢
  have hl : lv_has ls 1 [(0, .ref o_Model)] := hl
  unfold m_Model_forget at h
  refine lv_aload_n hx hb d_Model_forget_0 rfl (lv_at hl 0 rfl) ?_
  refine lv_iconst (v := 0) hx hb d_Model_forget_1 (by decide) ?_
  refine va_put (D := (dC, dI)) (ci := 10) (v := .int 0) (ty := .boolean) (C := R_Model) (T := F_Model) (N := 54) hx hb hg i_Model t_Model t_Model_ok n_Model hown hK hP hD hS 0 rfl rfl 20 (by decide) (hg _ k701) (fun _ h9 => h9) rfl (by decide +kernel) (show narrow .boolean (.int 0) = .int 0 from rfl) (show fits .boolean (.int 0) = true from rfl) (Nat.le_of_ble_eq_true rfl) d_Model_forget_2 (fun H locs hP hD hS => ?_)
  obtain ⟨J1, eJ1, h⟩ := dz_lt h
  have hP : va_P (dC, dI) classes (wD cB cI o_Model r J1 F) H := by rw [eJ1]; exact hP
  have hD : va_D A (wD cB cI o_Model r J1 F) := by rw [eJ1]; exact hD
  refine lv_aload_n hx hb d_Model_forget_5 rfl (lv_at hl 0 rfl) ?_
  refine lv_iconst (v := 0) hx hb d_Model_forget_6 (by decide) ?_
  refine va_put (D := (dC, dI)) (ci := 10) (v := .int 0) (ty := .int) (C := R_Model) (T := F_Model) (N := 54) hx hb hg i_Model t_Model t_Model_ok n_Model hown hK hP hD hS 0 rfl rfl 22 (by decide) (hg _ k715) (fun _ h9 => h9) rfl (by decide +kernel) rfl rfl (Nat.le_of_ble_eq_true rfl) d_Model_forget_7 (fun H locs hP hD hS => ?_)
  obtain ⟨J2, eJ2, h⟩ := dz_lt h
  have hP : va_P (dC, dI) classes (wD cB cI o_Model r J2 F) H := by rw [eJ2]; exact hP
  have hD : va_D A (wD cB cI o_Model r J2 F) := by rw [eJ2]; exact hD
  refine lv_aload_n hx hb d_Model_forget_10 rfl (lv_at hl 0 rfl) ?_
  refine lv_iconst (v := 0) hx hb d_Model_forget_11 (by decide) ?_
  refine va_put (D := (dC, dI)) (ci := 10) (v := .int 0) (ty := .int) (C := R_Model) (T := F_Model) (N := 54) hx hb hg i_Model t_Model t_Model_ok n_Model hown hK hP hD hS 0 rfl rfl 29 (by decide) (hg _ k719) (fun _ h9 => h9) rfl (by decide +kernel) rfl rfl (Nat.le_of_ble_eq_true rfl) d_Model_forget_12 (fun H locs hP hD hS => ?_)
  obtain ⟨J3, eJ3, h⟩ := dz_lt h
  have hP : va_P (dC, dI) classes (wD cB cI o_Model r J3 F) H := by rw [eJ3]; exact hP
  have hD : va_D A (wD cB cI o_Model r J3 F) := by rw [eJ3]; exact hD
  refine lv_aload_n hx hb d_Model_forget_15 rfl (lv_at hl 0 rfl) ?_
  refine lv_iconst (v := 0) hx hb d_Model_forget_16 (by decide) ?_
  refine va_put (D := (dC, dI)) (ci := 10) (v := .int 0) (ty := .int) (C := R_Model) (T := F_Model) (N := 54) hx hb hg i_Model t_Model t_Model_ok n_Model hown hK hP hD hS 0 rfl rfl 30 (by decide) (hg _ k720) (fun _ h9 => h9) rfl (by decide +kernel) rfl rfl (Nat.le_of_ble_eq_true rfl) d_Model_forget_17 (fun H locs hP hD hS => ?_)
  obtain ⟨J4, eJ4, h⟩ := dz_lt h
  have hP : va_P (dC, dI) classes (wD cB cI o_Model r J4 F) H := by rw [eJ4]; exact hP
  have hD : va_D A (wD cB cI o_Model r J4 F) := by rw [eJ4]; exact hD
  obtain rfl := Option.some.inj h
  have hP9 := hP
  have hD9 := hD
  have hK9 := hK
  exact W.vret hx hb hr (fun t ht hW => ⟨⟨(), rfl, trivial, by rw [ht]; exact hP9, va_K.moved hW.alike hK9, hD9⟩, hS.F ht⟩) hS.2.2 d_Model_forget_20

set_option maxHeartbeats 4000000 in
set_option maxRecDepth 100000 in
theorem l_Model_save_3 {p : Program} {l : Launch} {e : Env} {s : State} {m : MethodId} {args : Array Value} {below : List Frame} {meth : Method} {c : Code} {Q : State → Prop} {A : Nat → Prop} (dC : Nat → ClassId) (dI : Nat → Nat → Nat) (N : Nat) (cB : ClassId) (cI : ClassId) (o_Model : Nat) (r : Nat → Nat) (z2_2 : Nat → Int32) (z3_1 : Int32) (v1_2 : Int32) (w1_F : Nat → Nat → Int32) (z6_1 : Int32) (v2_5 : Int32) (w2_F : Nat → Nat → Int32) {ζ : Type} {z : ζ} (hx : p.tables.exec = Jvm.exec) (hb : c.code = b_Model_save) (hml : c.maxLocals = 7) (hown : s.vm.findClass R_Model = some m.cls) (hg : ∀ w ∈ lw_g, w.before args s = true) (hN : dz_N s) (hK : va_K (dC, dI) classes [(cB, .byte), (cI, .int)] s) (hA : ∀ q : Nat, s.heap.size ≤ q → A q) {k3_85 : Int32 → Option (ζ)} (hk3_85 : ∀   (y3_0 : Int32)  (H : Heap) (locs : List Loc) (ls : Array Slot), k3_85 y3_0 = some z → va_P (dC, dI) classes (wD cB cI o_Model r z2_2 w2_F) H → va_D A (wD cB cI o_Model r z2_2 w2_F) → va_S A s.heap H locs → lv_has ls 7 [(5, .int v2_5), (4, .int z6_1), (3, .int ((w1_F 2) v1_2.toNatClampNeg)), (2, .int v1_2), (1, .int z3_1), (0, .ref o_Model)] → W p l e ({ frames := 6, cells := 0, slots := 0, locals := 129 } : Room) s m args below meth c H locs 0 0 Q (F0 m 85 ls [.int y3_0])) : ∀    (H : Heap) (locs : List Loc) (ls : Array Slot), lm_Model_save_3 N v1_2 z6_1 v2_5 w2_F k3_85  = some z → va_P (dC, dI) classes (wD cB cI o_Model r z2_2 w2_F) H → va_D A (wD cB cI o_Model r z2_2 w2_F) → va_S A s.heap H locs → lv_has ls 7 [(5, .int v2_5), (4, .int z6_1), (3, .int ((w1_F 2) v1_2.toNatClampNeg)), (2, .int v1_2), (1, .int z3_1), (0, .ref o_Model)] → W p l e ({ frames := 6, cells := 0, slots := 0, locals := 129 } : Room) s m args below meth c H locs 0 0 Q (F0 m 55 ls []) := by
  intro H locs ls h hP hD hS hl
  unfold lm_Model_save_3 at h
  refine lv_iload hx hb d_Model_save_55 (lv_at hl 0 rfl) ?_
  refine lv_if_le (tgt := 84) hx hb d_Model_save_57 (by decide) (fun c10 => ?_) (fun c10 => ?_)
  · rw [if_pos c10] at h
    refine lv_iconst (v := 0) hx hb d_Model_save_84 (by decide) ?_
    exact hk3_85 (0 : Int32) _ _ _ h hP hD hS (lv_sub hl [0, 1, 2, 3, 4, 5] rfl)
  · rw [if_neg c10] at h
    refine lv_iload hx hb d_Model_save_60 (lv_at hl 0 rfl) ?_
    refine lv_iload hx hb d_Model_save_62 (lv_at hl 1 rfl) ?_
    refine lv_icmp_gt (tgt := 84) hx hb d_Model_save_64 (by decide) (fun c11 => ?_) (fun c11 => ?_)
    · rw [if_pos c11] at h
      refine lv_iconst (v := 0) hx hb d_Model_save_84 (by decide) ?_
      exact hk3_85 (0 : Int32) _ _ _ h hP hD hS (lv_sub hl [0, 1, 2, 3, 4, 5] rfl)
    · rw [if_neg c11] at h
      refine lv_aload_n hx hb d_Model_save_67 rfl (lv_at hl 5 rfl) ?_
      refine va_get (D := (dC, dI)) (ci := 10) (v := .ref (r 0)) (C := R_Model) (T := F_Model) (N := 54) hx hb hg i_Model hown hK hP 0 rfl rfl 0 (by decide) (hg _ k737) (fun _ h9 => h9) rfl d_Model_save_68 ?_
      refine lv_iload_n hx hb d_Model_save_71 rfl (lv_at hl 3 rfl) ?_
      refine lv_iload hx hb d_Model_save_72 (lv_at hl 0 rfl) ?_
      refine lv_iadd hx hb d_Model_save_74 ?_
      obtain ⟨i12, h⟩ := dz_oi h
      refine va_iald (D := (dC, dI)) (f := w2_F 0) hx hb hK hP 1 1 rfl rfl i12 d_Model_save_75 ?_
      refine lv_iconst (v := 2) hx hb d_Model_save_76 (by decide) ?_
      refine lv_icmp_ne (tgt := 84) hx hb d_Model_save_77 (by decide) (fun c13 => ?_) (fun c13 => ?_)
      · rw [if_neg c13] at h
        refine lv_iconst (v := 0) hx hb d_Model_save_84 (by decide) ?_
        exact hk3_85 (0 : Int32) _ _ _ h hP hD hS (lv_sub hl [0, 1, 2, 3, 4, 5] rfl)
      · rw [if_pos c13] at h
        refine lv_iconst (v := 1) hx hb d_Model_save_80 (by decide) ?_
        refine lv_goto (tgt := 85) hx hb d_Model_save_81 (by decide) ?_
        exact hk3_85 (1 : Int32) _ _ _ h hP hD hS (lv_sub hl [0, 1, 2, 3, 4, 5] rfl)
set_option maxHeartbeats 4000000 in
set_option maxRecDepth 100000 in
theorem l_Model_save_4 {p : Program} {l : Launch} {e : Env} {s : State} {m : MethodId} {args : Array Value} {below : List Frame} {meth : Method} {c : Code} {Q : State → Prop} {A : Nat → Prop} (dC : Nat → ClassId) (dI : Nat → Nat → Nat) (N : Nat) (cB : ClassId) (cI : ClassId) (o_Model : Nat) (r : Nat → Nat) (z2_2 : Nat → Int32) (z3_1 : Int32) (v1_2 : Int32) (w1_F : Nat → Nat → Int32) (z6_1 : Int32) (v2_5 : Int32) (y3_0 : Int32) (G16 : Nat → Nat → Int32) {ζ : Type} {z : ζ} (hx : p.tables.exec = Jvm.exec) (hb : c.code = b_Model_save) (hml : c.maxLocals = 7) (hown : s.vm.findClass R_Model = some m.cls) (hg : ∀ w ∈ lw_g, w.before args s = true) (hN : dz_N s) (hK : va_K (dC, dI) classes [(cB, .byte), (cI, .int)] s) (hA : ∀ q : Nat, s.heap.size ≤ q → A q) {k4_144 : Int32 → Option (ζ)} (hk4_144 : ∀   (y4_0 : Int32)  (H : Heap) (locs : List Loc) (ls : Array Slot), k4_144 y4_0 = some z → va_P (dC, dI) classes (wD cB cI o_Model r z2_2 G16) H → va_D A (wD cB cI o_Model r z2_2 G16) → va_S A s.heap H locs → lv_has ls 7 [(6, .int y3_0), (5, .int v2_5), (4, .int z6_1), (3, .int ((w1_F 2) v1_2.toNatClampNeg)), (2, .int v1_2), (1, .int z3_1), (0, .ref o_Model)] → W p l e ({ frames := 6, cells := 0, slots := 0, locals := 129 } : Room) s m args below meth c H locs 0 0 Q (F0 m 144 ls [.int y4_0, .int (((w1_F 2) v1_2.toNatClampNeg) + v2_5), .ref (r 10)])) : ∀    (H : Heap) (locs : List Loc) (ls : Array Slot), lm_Model_save_4 N v1_2 v2_5 y3_0 G16 k4_144  = some z → va_P (dC, dI) classes (wD cB cI o_Model r z2_2 G16) H → va_D A (wD cB cI o_Model r z2_2 G16) → va_S A s.heap H locs → lv_has ls 7 [(6, .int y3_0), (5, .int v2_5), (4, .int z6_1), (3, .int ((w1_F 2) v1_2.toNatClampNeg)), (2, .int v1_2), (1, .int z3_1), (0, .ref o_Model)] → W p l e ({ frames := 6, cells := 0, slots := 0, locals := 129 } : Room) s m args below meth c H locs 0 0 Q (F0 m 113 ls [.int (((w1_F 2) v1_2.toNatClampNeg) + v2_5), .ref (r 10)]) := by
  intro H locs ls h hP hD hS hl
  unfold lm_Model_save_4 at h
  refine lv_iload hx hb d_Model_save_113 (lv_at hl 0 rfl) ?_
  refine lv_if_eq (tgt := 135) hx hb d_Model_save_115 (by decide) (fun c17 => ?_) (fun c17 => ?_)
  · rw [if_pos c17] at h
    refine lv_aload_n hx hb d_Model_save_135 rfl (lv_at hl 6 rfl) ?_
    refine va_get (D := (dC, dI)) (ci := 10) (v := .ref (r 1)) (C := R_Model) (T := F_Model) (N := 54) hx hb hg i_Model hown hK hP 0 rfl rfl 1 (by decide) (hg _ k742) (fun _ h9 => h9) rfl d_Model_save_136 ?_
    refine lv_iload_n hx hb d_Model_save_139 rfl (lv_at hl 4 rfl) ?_
    refine lv_iload hx hb d_Model_save_140 (lv_at hl 1 rfl) ?_
    refine lv_iadd hx hb d_Model_save_142 ?_
    obtain ⟨i18, h⟩ := dz_oi h
    refine va_iald (D := (dC, dI)) (f := G16 1) hx hb hK hP 2 1 rfl rfl i18 d_Model_save_143 ?_
    exact hk4_144 ((G16 1) (v1_2 + v2_5).toNatClampNeg) _ _ _ h hP hD hS (lv_sub hl [0, 1, 2, 3, 4, 5, 6] rfl)
  · rw [if_neg c17] at h
    refine lv_aload_n hx hb d_Model_save_118 rfl (lv_at hl 6 rfl) ?_
    refine va_get (D := (dC, dI)) (ci := 10) (v := .ref (r 2)) (C := R_Model) (T := F_Model) (N := 54) hx hb hg i_Model hown hK hP 0 rfl rfl 2 (by decide) (hg _ k747) (fun _ h9 => h9) rfl d_Model_save_119 ?_
    refine lv_aload_n hx hb d_Model_save_122 rfl (lv_at hl 6 rfl) ?_
    refine va_get (D := (dC, dI)) (ci := 10) (v := .ref (r 1)) (C := R_Model) (T := F_Model) (N := 54) hx hb hg i_Model hown hK hP 0 rfl rfl 1 (by decide) (hg _ k742) (fun _ h9 => h9) rfl d_Model_save_123 ?_
    refine lv_iload_n hx hb d_Model_save_126 rfl (lv_at hl 4 rfl) ?_
    refine lv_iload hx hb d_Model_save_127 (lv_at hl 1 rfl) ?_
    refine lv_iadd hx hb d_Model_save_129 ?_
    obtain ⟨i19, h⟩ := dz_oi h
    refine va_iald (D := (dC, dI)) (f := G16 1) hx hb hK hP 2 1 rfl rfl i19 d_Model_save_130 ?_
    obtain ⟨i20, h⟩ := dz_oi h
    refine va_iald (D := (dC, dI)) (f := G16 2) hx hb hK hP 3 1 rfl rfl i20 d_Model_save_131 ?_
    refine lv_goto (tgt := 144) hx hb d_Model_save_132 (by decide) ?_
    exact hk4_144 ((G16 2) ((G16 1) (v1_2 + v2_5).toNatClampNeg).toNatClampNeg) _ _ _ h hP hD hS (lv_sub hl [0, 1, 2, 3, 4, 5, 6] rfl)
set_option maxHeartbeats 4000000 in
set_option maxRecDepth 100000 in
theorem l_Model_save_2 {p : Program} {l : Launch} {e : Env} {s : State} {m : MethodId} {args : Array Value} {below : List Frame} {meth : Method} {c : Code} {Q : State → Prop} {A : Nat → Prop} (dC : Nat → ClassId) (dI : Nat → Nat → Nat) (N : Nat) (cB : ClassId) (cI : ClassId) (o_Model : Nat) (r : Nat → Nat) (z2_2 : Nat → Int32) (z3_1 : Int32) (v1_2 : Int32) (w1_F : Nat → Nat → Int32) (z6_1 : Int32) {ζ : Type} {z : ζ} (hx : p.tables.exec = Jvm.exec) (hb : c.code = b_Model_save) (hml : c.maxLocals = 7) (hown : s.vm.findClass R_Model = some m.cls) (hg : ∀ w ∈ lw_g, w.before args s = true) (hN : dz_N s) (hK : va_K (dC, dI) classes [(cB, .byte), (cI, .int)] s) (hA : ∀ q : Nat, s.heap.size ≤ q → A q) {k2_151 : Int32 → (Nat → Nat → Int32) → Option (ζ)} (hk2_151 : ∀ (v2_5 : Int32) (w2_F : (Nat → Nat → Int32))    (H : Heap) (locs : List Loc) (ls : Array Slot), k2_151 v2_5 w2_F = some z → va_P (dC, dI) classes (wD cB cI o_Model r z2_2 w2_F) H → va_D A (wD cB cI o_Model r z2_2 w2_F) → va_S A s.heap H locs → lv_has ls 7 [(5, .int v2_5), (4, .int z6_1), (3, .int ((w1_F 2) v1_2.toNatClampNeg)), (2, .int v1_2), (1, .int z3_1), (0, .ref o_Model)] → W p l e ({ frames := 6, cells := 0, slots := 0, locals := 129 } : Room) s m args below meth c H locs 0 0 Q (F0 m 151 ls [])) : ∀ (n2 : Nat) (v2_5 : Int32) (w2_F : (Nat → Nat → Int32))   (H : Heap) (locs : List Loc) (ls : Array Slot), lm_Model_save_2 N z2_2 v1_2 w1_F z6_1 k2_151 n2 v2_5 w2_F = some z → va_P (dC, dI) classes (wD cB cI o_Model r z2_2 w2_F) H → va_D A (wD cB cI o_Model r z2_2 w2_F) → va_S A s.heap H locs → lv_has ls 7 [(5, .int v2_5), (4, .int z6_1), (3, .int ((w1_F 2) v1_2.toNatClampNeg)), (2, .int v1_2), (1, .int z3_1), (0, .ref o_Model)] → W p l e ({ frames := 6, cells := 0, slots := 0, locals := 129 } : Room) s m args below meth c H locs 0 0 Q (F0 m 40 ls []) := by
  intro n2
  induction n2 with
  | zero =>
    intro v2_5 w2_F H locs ls h hP hD hS hl
    rw [lm_Model_save_2] at h
    cases h
  | succ n2 ih2 =>
    intro v2_5 w2_F H locs ls h hP hD hS hl
    rw [lm_Model_save_2] at h
    refine lv_iload hx hb d_Model_save_40 (lv_at hl 0 rfl) ?_
    refine lv_aload_n hx hb d_Model_save_42 rfl (lv_at hl 5 rfl) ?_
    refine lv_iload_n hx hb d_Model_save_43 rfl (lv_at hl 3 rfl) ?_
    obtain ⟨z7_1, hc7, h⟩ := dz_ob h
    try dsimp only at h
    have hPc := hP
    have hKc := hK
    refine vp_callSi (va_Run.run (va_runV (As := [.int v1_2]) (rest := [.int v2_5]) ⟨hx, hb, hml, hown, hg⟩ (c_Model_sizeAt l dC dI N cB cI o_Model r z2_2 w2_F v1_2 z7_1 hc7) (cwV 1 hg (gd_V k751 k752 k753 k707 k750) rfl rfl rfl (by decide +kernel) ⟨Nat.le_of_ble_eq_true rfl, Nat.le_of_ble_eq_true rfl⟩) ⟨dz_blindR, va_recv hKc hPc (ci := 10) (q0 := 0) rfl rfl, fun U hU hW => ⟨rfl, dz_Nw hW hN, by rw [hU]; exact hPc, va_K.moved hW.alike hKc⟩⟩ rfl rfl hl.1 rfl (lv_room (Nat.le_of_ble_eq_true rfl)) d_Model_save_44 ⟨Nat.le_of_ble_eq_true rfl, Nat.le_of_ble_eq_true rfl⟩)) (fun r7 hw => ?_)
    have hw : z7_1 = r7 := hw.symm
    subst hw
    refine lv_icmp_ge (tgt := 151) hx hb d_Model_save_47 (by decide) (fun c8 => ?_) (fun c8 => ?_)
    · rw [if_pos c8] at h
      exact hk2_151 v2_5 w2_F _ _ _ h hP hD hS (lv_sub hl [0, 1, 2, 3, 4, 5] rfl)
    · rw [if_neg c8] at h
      refine lv_iload_n hx hb d_Model_save_50 rfl (lv_at hl 2 rfl) ?_
      refine lv_iconst (v := (-1)) hx hb d_Model_save_51 (by decide) ?_
      refine lv_icmp_eq (tgt := 151) hx hb d_Model_save_52 (by decide) (fun c9 => ?_) (fun c9 => ?_)
      · rw [if_pos c9] at h
        exact hk2_151 v2_5 w2_F _ _ _ h hP hD hS (lv_sub hl [0, 1, 2, 3, 4, 5] rfl)
      · rw [if_neg c9] at h
        refine l_Model_save_3 dC dI N cB cI o_Model r z2_2 z3_1 v1_2 w1_F z6_1 v2_5 w2_F hx hb hml hown hg hN hK hA (fun y3_0 H locs ls h hP hD hS hl => ?_)  _ _ _ h hP hD hS (lv_sub hl [0, 1, 2, 3, 4, 5] rfl)
        refine lv_istore (lv' := [(6, .int y3_0), (5, .int v2_5), (4, .int z6_1), (3, .int ((w1_F 2) v1_2.toNatClampNeg)), (2, .int v1_2), (1, .int z3_1), (0, .ref o_Model)]) hx hb d_Model_save_85 hl (by decide) rfl (fun ls hl => ?_)
        refine lv_aload_n hx hb d_Model_save_87 rfl (lv_at hl 6 rfl) ?_
        refine va_get (D := (dC, dI)) (ci := 10) (v := .ref (r 9)) (C := R_Model) (T := F_Model) (N := 54) hx hb hg i_Model hown hK hP 0 rfl rfl 9 (by decide) (hg _ k1047) (fun _ h9 => h9) rfl d_Model_save_88 ?_
        refine lv_iload_n hx hb d_Model_save_91 rfl (lv_at hl 3 rfl) ?_
        refine lv_iload hx hb d_Model_save_92 (lv_at hl 1 rfl) ?_
        refine lv_iadd hx hb d_Model_save_94 ?_
        refine lv_aload_n hx hb d_Model_save_95 rfl (lv_at hl 6 rfl) ?_
        refine va_get (D := (dC, dI)) (ci := 10) (v := .ref (r 0)) (C := R_Model) (T := F_Model) (N := 54) hx hb hg i_Model hown hK hP 0 rfl rfl 0 (by decide) (hg _ k737) (fun _ h9 => h9) rfl d_Model_save_96 ?_
        refine lv_iload_n hx hb d_Model_save_99 rfl (lv_at hl 4 rfl) ?_
        refine lv_iload hx hb d_Model_save_100 (lv_at hl 1 rfl) ?_
        refine lv_iadd hx hb d_Model_save_102 ?_
        obtain ⟨i14, h⟩ := dz_oi h
        refine va_iald (D := (dC, dI)) (f := w2_F 0) hx hb hK hP 1 1 rfl rfl i14 d_Model_save_103 ?_
        obtain ⟨i15, h⟩ := dz_oi h
        refine va_iast (D := (dC, dI)) (f := w2_F 9) hx hb hK hP hD hS 6 1 rfl rfl i15 d_Model_save_104 (fun H locs hP hD hS => ?_)
        obtain ⟨G16, eG16, h⟩ := dz_lt h
        have hP : va_P (dC, dI) classes (wD cB cI o_Model r z2_2 G16) H := by rw [eG16]; exact hP
        have hD : va_D A (wD cB cI o_Model r z2_2 G16) := by rw [eG16]; exact hD
        refine lv_aload_n hx hb d_Model_save_105 rfl (lv_at hl 6 rfl) ?_
        refine va_get (D := (dC, dI)) (ci := 10) (v := .ref (r 10)) (C := R_Model) (T := F_Model) (N := 54) hx hb hg i_Model hown hK hP 0 rfl rfl 10 (by decide) (hg _ k1048) (fun _ h9 => h9) rfl d_Model_save_106 ?_
        refine lv_iload_n hx hb d_Model_save_109 rfl (lv_at hl 3 rfl) ?_
        refine lv_iload hx hb d_Model_save_110 (lv_at hl 1 rfl) ?_
        refine lv_iadd hx hb d_Model_save_112 ?_
        refine l_Model_save_4 dC dI N cB cI o_Model r z2_2 z3_1 v1_2 w1_F z6_1 v2_5 y3_0 G16 hx hb hml hown hg hN hK hA (fun y4_0 H locs ls h hP hD hS hl => ?_)  _ _ _ h hP hD hS (lv_sub hl [0, 1, 2, 3, 4, 5, 6] rfl)
        obtain ⟨i21, h⟩ := dz_oi h
        refine va_iast (D := (dC, dI)) (f := G16 10) hx hb hK hP hD hS 7 1 rfl rfl i21 d_Model_save_144 (fun H locs hP hD hS => ?_)
        obtain ⟨G22, eG22, h⟩ := dz_lt h
        have hP : va_P (dC, dI) classes (wD cB cI o_Model r z2_2 G22) H := by rw [eG22]; exact hP
        have hD : va_D A (wD cB cI o_Model r z2_2 G22) := by rw [eG22]; exact hD
        refine lv_iinc (v := v2_5 + 1) (lv' := [(5, .int (v2_5 + 1)), (6, .int y3_0), (4, .int z6_1), (3, .int ((w1_F 2) v1_2.toNatClampNeg)), (2, .int v1_2), (1, .int z3_1), (0, .ref o_Model)]) hx hb d_Model_save_145 hl (k := 1) rfl rfl (by decide) rfl (fun ls hl => ?_)
        refine lv_goto (tgt := 40) hx hb d_Model_save_148 (by decide) ?_
        exact ih2 (v2_5 + 1) G22 _ _ _ h hP hD hS (lv_sub hl [0, 2, 3, 4, 5, 6] rfl)
set_option maxHeartbeats 4000000 in
set_option maxRecDepth 100000 in
theorem l_Model_save_1 {p : Program} {l : Launch} {e : Env} {s : State} {m : MethodId} {args : Array Value} {below : List Frame} {meth : Method} {c : Code} {Q : State → Prop} {A : Nat → Prop} (dC : Nat → ClassId) (dI : Nat → Nat → Nat) (N : Nat) (cB : ClassId) (cI : ClassId) (o_Model : Nat) (r : Nat → Nat) (z2_2 : Nat → Int32) (z3_1 : Int32) {ζ : Type} {z : ζ} (hx : p.tables.exec = Jvm.exec) (hb : c.code = b_Model_save) (hml : c.maxLocals = 7) (hown : s.vm.findClass R_Model = some m.cls) (hg : ∀ w ∈ lw_g, w.before args s = true) (hN : dz_N s) (hK : va_K (dC, dI) classes [(cB, .byte), (cI, .int)] s) (hA : ∀ q : Nat, s.heap.size ≤ q → A q) {k1_162 : Int32 → (Nat → Nat → Int32) → Option (ζ)} (hk1_162 : ∀ (v1_2 : Int32) (w1_F : (Nat → Nat → Int32))    (H : Heap) (locs : List Loc) (ls : Array Slot), k1_162 v1_2 w1_F = some z → va_P (dC, dI) classes (wD cB cI o_Model r z2_2 w1_F) H → va_D A (wD cB cI o_Model r z2_2 w1_F) → va_S A s.heap H locs → lv_has ls 7 [(2, .int v1_2), (1, .int z3_1), (0, .ref o_Model)] → W p l e ({ frames := 6, cells := 0, slots := 0, locals := 129 } : Room) s m args below meth c H locs 0 0 Q (F0 m 162 ls [])) : ∀ (n1 : Nat) (v1_2 : Int32) (w1_F : (Nat → Nat → Int32))   (H : Heap) (locs : List Loc) (ls : Array Slot), lm_Model_save_1 N z2_2 k1_162 n1 v1_2 w1_F = some z → va_P (dC, dI) classes (wD cB cI o_Model r z2_2 w1_F) H → va_D A (wD cB cI o_Model r z2_2 w1_F) → va_S A s.heap H locs → lv_has ls 7 [(2, .int v1_2), (1, .int z3_1), (0, .ref o_Model)] → W p l e ({ frames := 6, cells := 0, slots := 0, locals := 129 } : Room) s m args below meth c H locs 0 0 Q (F0 m 15 ls []) := by
  intro n1
  induction n1 with
  | zero =>
    intro v1_2 w1_F H locs ls h hP hD hS hl
    rw [lm_Model_save_1] at h
    cases h
  | succ n1 ih1 =>
    intro v1_2 w1_F H locs ls h hP hD hS hl
    rw [lm_Model_save_1] at h
    refine lv_iload_n hx hb d_Model_save_15 rfl (lv_at hl 0 rfl) ?_
    refine lv_aload_n hx hb d_Model_save_16 rfl (lv_at hl 2 rfl) ?_
    refine va_get (D := (dC, dI)) (ci := 10) (v := .int (z2_2 3)) (C := R_Model) (T := F_Model) (N := 54) hx hb hg i_Model hown hK hP 0 rfl rfl 3 (by decide) (hg _ k764) (fun _ h9 => h9) rfl d_Model_save_17 ?_
    refine lv_icmp_ge (tgt := 162) hx hb d_Model_save_20 (by decide) (fun c4 => ?_) (fun c4 => ?_)
    · rw [if_pos c4] at h
      exact hk1_162 v1_2 w1_F _ _ _ h hP hD hS (lv_sub hl [0, 1, 2] rfl)
    · rw [if_neg c4] at h
      refine lv_aload_n hx hb d_Model_save_23 rfl (lv_at hl 2 rfl) ?_
      refine va_get (D := (dC, dI)) (ci := 10) (v := .ref (r 2)) (C := R_Model) (T := F_Model) (N := 54) hx hb hg i_Model hown hK hP 0 rfl rfl 2 (by decide) (hg _ k747) (fun _ h9 => h9) rfl d_Model_save_24 ?_
      refine lv_iload_n hx hb d_Model_save_27 rfl (lv_at hl 0 rfl) ?_
      obtain ⟨i5, h⟩ := dz_oi h
      refine va_iald (D := (dC, dI)) (f := w1_F 2) hx hb hK hP 3 1 rfl rfl i5 d_Model_save_28 ?_
      refine lv_istore_n (lv' := [(3, .int ((w1_F 2) v1_2.toNatClampNeg)), (2, .int v1_2), (1, .int z3_1), (0, .ref o_Model)]) hx hb d_Model_save_29 rfl hl (by decide) rfl (fun ls hl => ?_)
      refine lv_aload_n hx hb d_Model_save_30 rfl (lv_at hl 3 rfl) ?_
      refine lv_iload_n hx hb d_Model_save_31 rfl (lv_at hl 1 rfl) ?_
      obtain ⟨z6_1, hc6, h⟩ := dz_ob h
      try dsimp only at h
      have hPc := hP
      have hKc := hK
      refine vp_callSi (va_Run.run (va_runV (As := [.int v1_2]) (rest := []) ⟨hx, hb, hml, hown, hg⟩ (c_Model_partsAt l dC dI N cB cI o_Model r z2_2 w1_F v1_2 z6_1 hc6) (cwV 1 hg (gd_V k744 k745 k746 k707 k743) rfl rfl rfl (by decide +kernel) ⟨Nat.le_of_ble_eq_true rfl, Nat.le_of_ble_eq_true rfl⟩) ⟨dz_blindR, va_recv hKc hPc (ci := 10) (q0 := 0) rfl rfl, fun U hU hW => ⟨rfl, dz_Nw hW hN, by rw [hU]; exact hPc, va_K.moved hW.alike hKc⟩⟩ rfl rfl hl.1 rfl (lv_room (Nat.le_of_ble_eq_true rfl)) d_Model_save_32 ⟨Nat.le_of_ble_eq_true rfl, Nat.le_of_ble_eq_true rfl⟩)) (fun r6 hw => ?_)
      have hw : z6_1 = r6 := hw.symm
      subst hw
      refine lv_istore (lv' := [(4, .int z6_1), (3, .int ((w1_F 2) v1_2.toNatClampNeg)), (2, .int v1_2), (1, .int z3_1), (0, .ref o_Model)]) hx hb d_Model_save_35 hl (by decide) rfl (fun ls hl => ?_)
      refine lv_iconst (v := 0) hx hb d_Model_save_37 (by decide) ?_
      refine lv_istore (lv' := [(5, .int 0), (4, .int z6_1), (3, .int ((w1_F 2) v1_2.toNatClampNeg)), (2, .int v1_2), (1, .int z3_1), (0, .ref o_Model)]) hx hb d_Model_save_38 hl (by decide) rfl (fun ls hl => ?_)
      refine l_Model_save_2 dC dI N cB cI o_Model r z2_2 z3_1 v1_2 w1_F z6_1 hx hb hml hown hg hN hK hA (fun v2_5 w2_F H locs ls h hP hD hS hl => ?_) N (0 : Int32) w1_F _ _ _ h hP hD hS (lv_sub hl [0, 1, 2, 3, 4, 5] rfl)
      refine lv_iload_n hx hb d_Model_save_151 rfl (lv_at hl 3 rfl) ?_
      refine lv_aload_n hx hb d_Model_save_152 rfl (lv_at hl 5 rfl) ?_
      refine lv_iload_n hx hb d_Model_save_153 rfl (lv_at hl 3 rfl) ?_
      obtain ⟨z23_1, hc23, h⟩ := dz_ob h
      try dsimp only at h
      have hPc := hP
      have hKc := hK
      refine vp_callSi (va_Run.run (va_runV (As := [.int v1_2]) (rest := [.int v1_2]) ⟨hx, hb, hml, hown, hg⟩ (c_Model_sizeAt l dC dI N cB cI o_Model r z2_2 w2_F v1_2 z23_1 hc23) (cwV 1 hg (gd_V k751 k752 k753 k707 k750) rfl rfl rfl (by decide +kernel) ⟨Nat.le_of_ble_eq_true rfl, Nat.le_of_ble_eq_true rfl⟩) ⟨dz_blindR, va_recv hKc hPc (ci := 10) (q0 := 0) rfl rfl, fun U hU hW => ⟨rfl, dz_Nw hW hN, by rw [hU]; exact hPc, va_K.moved hW.alike hKc⟩⟩ rfl rfl hl.1 rfl (lv_room (Nat.le_of_ble_eq_true rfl)) d_Model_save_154 ⟨Nat.le_of_ble_eq_true rfl, Nat.le_of_ble_eq_true rfl⟩)) (fun r23 hw => ?_)
      have hw : z23_1 = r23 := hw.symm
      subst hw
      refine lv_iadd hx hb d_Model_save_157 ?_
      refine lv_istore_n (lv' := [(2, .int (v1_2 + z23_1)), (5, .int v2_5), (4, .int z6_1), (3, .int ((w1_F 2) v1_2.toNatClampNeg)), (1, .int z3_1), (0, .ref o_Model)]) hx hb d_Model_save_158 rfl hl (by decide) rfl (fun ls hl => ?_)
      refine lv_goto (tgt := 15) hx hb d_Model_save_159 (by decide) ?_
      exact ih1 (v1_2 + z23_1) w2_F _ _ _ h hP hD hS (lv_sub hl [0, 4, 5] rfl)
set_option maxHeartbeats 4000000 in
set_option maxRecDepth 100000 in
theorem l_Model_save_6 {p : Program} {l : Launch} {e : Env} {s : State} {m : MethodId} {args : Array Value} {below : List Frame} {meth : Method} {c : Code} {Q : State → Prop} {A : Nat → Prop} (dC : Nat → ClassId) (dI : Nat → Nat → Nat) (N : Nat) (cB : ClassId) (cI : ClassId) (o_Model : Nat) (r : Nat → Nat) (z2_2 : Nat → Int32) (z3_1 : Int32) (v5_2 : Int32) (G27 : Nat → Nat → Int32) {ζ : Type} {z : ζ} (hx : p.tables.exec = Jvm.exec) (hb : c.code = b_Model_save) (hml : c.maxLocals = 7) (hown : s.vm.findClass R_Model = some m.cls) (hg : ∀ w ∈ lw_g, w.before args s = true) (hN : dz_N s) (hK : va_K (dC, dI) classes [(cB, .byte), (cI, .int)] s) (hA : ∀ q : Nat, s.heap.size ≤ q → A q) {k6_218 : Int32 → Option (ζ)} (hk6_218 : ∀   (y6_0 : Int32)  (H : Heap) (locs : List Loc) (ls : Array Slot), k6_218 y6_0 = some z → va_P (dC, dI) classes (wD cB cI o_Model r z2_2 G27) H → va_D A (wD cB cI o_Model r z2_2 G27) → va_S A s.heap H locs → lv_has ls 7 [(2, .int v5_2), (1, .int z3_1), (0, .ref o_Model)] → W p l e ({ frames := 6, cells := 0, slots := 0, locals := 129 } : Room) s m args below meth c H locs 0 0 Q (F0 m 218 ls [.int y6_0, .int v5_2, .ref (r 13)])) : ∀    (H : Heap) (locs : List Loc) (ls : Array Slot), lm_Model_save_6 N v5_2 G27 k6_218  = some z → va_P (dC, dI) classes (wD cB cI o_Model r z2_2 G27) H → va_D A (wD cB cI o_Model r z2_2 G27) → va_S A s.heap H locs → lv_has ls 7 [(2, .int v5_2), (1, .int z3_1), (0, .ref o_Model)] → W p l e ({ frames := 6, cells := 0, slots := 0, locals := 129 } : Room) s m args below meth c H locs 0 0 Q (F0 m 188 ls [.int v5_2, .ref (r 13)]) := by
  intro H locs ls h hP hD hS hl
  unfold lm_Model_save_6 at h
  refine lv_aload_n hx hb d_Model_save_188 rfl (lv_at hl 2 rfl) ?_
  refine va_get (D := (dC, dI)) (ci := 10) (v := .ref (r 5)) (C := R_Model) (T := F_Model) (N := 54) hx hb hg i_Model hown hK hP 0 rfl rfl 5 (by decide) (hg _ k758) (fun _ h9 => h9) rfl d_Model_save_189 ?_
  refine lv_iload_n hx hb d_Model_save_192 rfl (lv_at hl 0 rfl) ?_
  obtain ⟨i28, h⟩ := dz_oi h
  refine va_iald (D := (dC, dI)) (f := G27 5) hx hb hK hP 4 1 rfl rfl i28 d_Model_save_193 ?_
  refine lv_iconst (v := 2) hx hb d_Model_save_194 (by decide) ?_
  refine lv_icmp_ne (tgt := 212) hx hb d_Model_save_195 (by decide) (fun c29 => ?_) (fun c29 => ?_)
  · rw [if_neg c29] at h
    refine lv_aload_n hx hb d_Model_save_212 rfl (lv_at hl 2 rfl) ?_
    refine va_get (D := (dC, dI)) (ci := 10) (v := .ref (r 6)) (C := R_Model) (T := F_Model) (N := 54) hx hb hg i_Model hown hK hP 0 rfl rfl 6 (by decide) (hg _ k759) (fun _ h9 => h9) rfl d_Model_save_213 ?_
    refine lv_iload_n hx hb d_Model_save_216 rfl (lv_at hl 0 rfl) ?_
    obtain ⟨i30, h⟩ := dz_oi h
    refine va_iald (D := (dC, dI)) (f := G27 6) hx hb hK hP 5 1 rfl rfl i30 d_Model_save_217 ?_
    exact hk6_218 ((G27 6) v5_2.toNatClampNeg) _ _ _ h hP hD hS (lv_sub hl [0, 1, 2] rfl)
  · rw [if_pos c29] at h
    refine lv_aload_n hx hb d_Model_save_198 rfl (lv_at hl 2 rfl) ?_
    refine va_get (D := (dC, dI)) (ci := 10) (v := .ref (r 2)) (C := R_Model) (T := F_Model) (N := 54) hx hb hg i_Model hown hK hP 0 rfl rfl 2 (by decide) (hg _ k747) (fun _ h9 => h9) rfl d_Model_save_199 ?_
    refine lv_aload_n hx hb d_Model_save_202 rfl (lv_at hl 2 rfl) ?_
    refine va_get (D := (dC, dI)) (ci := 10) (v := .ref (r 6)) (C := R_Model) (T := F_Model) (N := 54) hx hb hg i_Model hown hK hP 0 rfl rfl 6 (by decide) (hg _ k759) (fun _ h9 => h9) rfl d_Model_save_203 ?_
    refine lv_iload_n hx hb d_Model_save_206 rfl (lv_at hl 0 rfl) ?_
    obtain ⟨i31, h⟩ := dz_oi h
    refine va_iald (D := (dC, dI)) (f := G27 6) hx hb hK hP 5 1 rfl rfl i31 d_Model_save_207 ?_
    obtain ⟨i32, h⟩ := dz_oi h
    refine va_iald (D := (dC, dI)) (f := G27 2) hx hb hK hP 3 1 rfl rfl i32 d_Model_save_208 ?_
    refine lv_goto (tgt := 218) hx hb d_Model_save_209 (by decide) ?_
    exact hk6_218 ((G27 2) ((G27 6) v5_2.toNatClampNeg).toNatClampNeg) _ _ _ h hP hD hS (lv_sub hl [0, 1, 2] rfl)
set_option maxHeartbeats 4000000 in
set_option maxRecDepth 100000 in
theorem l_Model_save_5 {p : Program} {l : Launch} {e : Env} {s : State} {m : MethodId} {args : Array Value} {below : List Frame} {meth : Method} {c : Code} {Q : State → Prop} {A : Nat → Prop} (dC : Nat → ClassId) (dI : Nat → Nat → Nat) (N : Nat) (cB : ClassId) (cI : ClassId) (o_Model : Nat) (r : Nat → Nat) (z2_2 : Nat → Int32) (z3_1 : Int32) {ζ : Type} {z : ζ} (hx : p.tables.exec = Jvm.exec) (hb : c.code = b_Model_save) (hml : c.maxLocals = 7) (hown : s.vm.findClass R_Model = some m.cls) (hg : ∀ w ∈ lw_g, w.before args s = true) (hN : dz_N s) (hK : va_K (dC, dI) classes [(cB, .byte), (cI, .int)] s) (hA : ∀ q : Nat, s.heap.size ≤ q → A q) {k5_225 : Int32 → (Nat → Nat → Int32) → Option (ζ)} (hk5_225 : ∀ (v5_2 : Int32) (w5_F : (Nat → Nat → Int32))    (H : Heap) (locs : List Loc) (ls : Array Slot), k5_225 v5_2 w5_F = some z → va_P (dC, dI) classes (wD cB cI o_Model r z2_2 w5_F) H → va_D A (wD cB cI o_Model r z2_2 w5_F) → va_S A s.heap H locs → lv_has ls 7 [(2, .int v5_2), (1, .int z3_1), (0, .ref o_Model)] → W p l e ({ frames := 6, cells := 0, slots := 0, locals := 129 } : Room) s m args below meth c H locs 0 0 Q (F0 m 225 ls [])) : ∀ (n5 : Nat) (v5_2 : Int32) (w5_F : (Nat → Nat → Int32))   (H : Heap) (locs : List Loc) (ls : Array Slot), lm_Model_save_5 N k5_225 n5 v5_2 w5_F = some z → va_P (dC, dI) classes (wD cB cI o_Model r z2_2 w5_F) H → va_D A (wD cB cI o_Model r z2_2 w5_F) → va_S A s.heap H locs → lv_has ls 7 [(2, .int v5_2), (1, .int z3_1), (0, .ref o_Model)] → W p l e ({ frames := 6, cells := 0, slots := 0, locals := 129 } : Room) s m args below meth c H locs 0 0 Q (F0 m 164 ls []) := by
  intro n5
  induction n5 with
  | zero =>
    intro v5_2 w5_F H locs ls h hP hD hS hl
    rw [lm_Model_save_5] at h
    cases h
  | succ n5 ih5 =>
    intro v5_2 w5_F H locs ls h hP hD hS hl
    rw [lm_Model_save_5] at h
    refine lv_iload_n hx hb d_Model_save_164 rfl (lv_at hl 0 rfl) ?_
    refine lv_sipush (v := 2048) hx hb d_Model_save_165 (by decide) ?_
    refine lv_icmp_ge (tgt := 225) hx hb d_Model_save_168 (by decide) (fun c24 => ?_) (fun c24 => ?_)
    · rw [if_pos c24] at h
      exact hk5_225 v5_2 w5_F _ _ _ h hP hD hS (lv_sub hl [0, 1, 2] rfl)
    · rw [if_neg c24] at h
      refine lv_aload_n hx hb d_Model_save_171 rfl (lv_at hl 2 rfl) ?_
      refine va_get (D := (dC, dI)) (ci := 10) (v := .ref (r 12)) (C := R_Model) (T := F_Model) (N := 54) hx hb hg i_Model hown hK hP 0 rfl rfl 12 (by decide) (hg _ k1045) (fun _ h9 => h9) rfl d_Model_save_172 ?_
      refine lv_iload_n hx hb d_Model_save_175 rfl (lv_at hl 0 rfl) ?_
      refine lv_aload_n hx hb d_Model_save_176 rfl (lv_at hl 2 rfl) ?_
      refine va_get (D := (dC, dI)) (ci := 10) (v := .ref (r 5)) (C := R_Model) (T := F_Model) (N := 54) hx hb hg i_Model hown hK hP 0 rfl rfl 5 (by decide) (hg _ k758) (fun _ h9 => h9) rfl d_Model_save_177 ?_
      refine lv_iload_n hx hb d_Model_save_180 rfl (lv_at hl 0 rfl) ?_
      obtain ⟨i25, h⟩ := dz_oi h
      refine va_iald (D := (dC, dI)) (f := w5_F 5) hx hb hK hP 4 1 rfl rfl i25 d_Model_save_181 ?_
      obtain ⟨i26, h⟩ := dz_oi h
      refine va_iast (D := (dC, dI)) (f := w5_F 12) hx hb hK hP hD hS 8 1 rfl rfl i26 d_Model_save_182 (fun H locs hP hD hS => ?_)
      obtain ⟨G27, eG27, h⟩ := dz_lt h
      have hP : va_P (dC, dI) classes (wD cB cI o_Model r z2_2 G27) H := by rw [eG27]; exact hP
      have hD : va_D A (wD cB cI o_Model r z2_2 G27) := by rw [eG27]; exact hD
      refine lv_aload_n hx hb d_Model_save_183 rfl (lv_at hl 2 rfl) ?_
      refine va_get (D := (dC, dI)) (ci := 10) (v := .ref (r 13)) (C := R_Model) (T := F_Model) (N := 54) hx hb hg i_Model hown hK hP 0 rfl rfl 13 (by decide) (hg _ k1046) (fun _ h9 => h9) rfl d_Model_save_184 ?_
      refine lv_iload_n hx hb d_Model_save_187 rfl (lv_at hl 0 rfl) ?_
      refine l_Model_save_6 dC dI N cB cI o_Model r z2_2 z3_1 v5_2 G27 hx hb hml hown hg hN hK hA (fun y6_0 H locs ls h hP hD hS hl => ?_)  _ _ _ h hP hD hS (lv_sub hl [0, 1, 2] rfl)
      obtain ⟨i33, h⟩ := dz_oi h
      refine va_iast (D := (dC, dI)) (f := G27 13) hx hb hK hP hD hS 9 1 rfl rfl i33 d_Model_save_218 (fun H locs hP hD hS => ?_)
      obtain ⟨G34, eG34, h⟩ := dz_lt h
      have hP : va_P (dC, dI) classes (wD cB cI o_Model r z2_2 G34) H := by rw [eG34]; exact hP
      have hD : va_D A (wD cB cI o_Model r z2_2 G34) := by rw [eG34]; exact hD
      refine lv_iinc (v := v5_2 + 1) (lv' := [(2, .int (v5_2 + 1)), (1, .int z3_1), (0, .ref o_Model)]) hx hb d_Model_save_219 hl (k := 0) rfl rfl (by decide) rfl (fun ls hl => ?_)
      refine lv_goto (tgt := 164) hx hb d_Model_save_222 (by decide) ?_
      exact ih5 (v5_2 + 1) G34 _ _ _ h hP hD hS (lv_sub hl [0, 1, 2] rfl)
set_option maxHeartbeats 4000000 in
set_option maxRecDepth 100000 in
theorem c_Model_save (l : Launch) (dC : Nat → ClassId) (dI : Nat → Nat → Nat) (N : Nat) (cB : ClassId) (cI : ClassId) (o_Model : Nat) (r : Nat → Nat) (I : Nat → Int32) (F : Nat → Nat → Int32) (sz : Nat) (z : Int32 × (Nat → Nat → Int32) × (Nat → Int32)) (h : m_Model_save N I F = some z) : Met l y_Model_save (.code y_Model_save b_Model_save 7 (some .int) :: lw_g) ({ frames := 6, cells := 0, slots := 0, locals := 129 }) (va_Pc [.ref o_Model] (fun U => dz_N U ∧ U.heap.size = sz ∧ va_P (dC, dI) classes (wD cB cI o_Model r I F) U.heap ∧ va_K (dC, dI) classes [(cB, .byte), (cI, .int)] U ∧ va_D (fun _ => True) (wD cB cI o_Model r I F))) (va_Qi (fun (r : Int32) (_ : Unit) => r = z.1) (fun (u : Unit) t => va_P (dC, dI) classes (wD cB cI o_Model r z.2.2 z.2.1) t.heap ∧ va_K (dC, dI) classes [(cB, .byte), (cI, .int)] t ∧ va_D (va_A (wD cB cI o_Model r I F) sz) (wD cB cI o_Model r z.2.2 z.2.1)) (va_A (wD cB cI o_Model r I F) sz)) 0 0 (va_A (wD cB cI o_Model r I F) sz) := by
  refine Met.ofW (cc := b_Model_save) (maxL := 7) (ret := (some .int)) (by decide +kernel) rfl ?_
  intro p e s m args below meth c s₁ B hml hv
  obtain ⟨rfl, hN, hsz, hP, hK, hD0⟩ := hv
  have hx := B.exec
  have hb := B.bytes
  have hr := B.returns
  have hg : ∀ w ∈ lw_g, w.before _ s = true := fun w hw => atoms_spec (ws := .code y_Model_save b_Model_save 7 (some .int) :: lw_g) B.pre w (List.mem_cons_of_mem _ hw)
  have hown : s.vm.findClass R_Model = some m.cls := findClass_of_methodNamed B.named
  have hlocks := B.notSynchronized
  clear B
  subst hsz
  have hD := hD0.self (sz := s.heap.size)
  generalize hAe : va_A (wD cB cI o_Model r I F) s.heap.size = A at hD ⊢
  have hA : ∀ q : Nat, s.heap.size ≤ q → A q := fun q h => by rw [← hAe]; exact Or.inr h
  have hS : va_S A s.heap s.heap [] := va_S.rf
  have hP : va_P (dC, dI) classes (wD cB cI o_Model r I F) s.heap := hP
  have hl := lv_entry ([.ref o_Model]) (n := 7) (Nat.le_of_ble_eq_true rfl)
  rw [lg_entry_eq]
  generalize (lg_sl ([.ref o_Model]) ++ List.replicate (7 - (lg_sl ([.ref o_Model])).length) Slot.unset).toArray = ls at hl ⊢
  have hl : lv_has ls 7 [(0, .ref o_Model)] := hl
  unfold m_Model_save at h
  refine lv_aload_n hx hb d_Model_save_0 rfl (lv_at hl 0 rfl) ?_
  obtain ⟨z1_1, hc1, h⟩ := dz_ob h
  try dsimp only at h
  have hPc := hP
  have hKc := hK
  have hDc := hD
  have hFc := dz_freeall hD hS hA
  refine va_callv (va_runV (As := []) (rest := []) ⟨hx, hb, hml, hown, hg⟩ (c_Model_forget l dC dI N cB cI o_Model r I F s.heap.size z1_1 hc1) (cwV 0 hg (gd_V k1050 k1051 k1052 k707 k1049) rfl rfl rfl (by decide +kernel) ⟨Nat.le_of_ble_eq_true rfl, Nat.le_of_ble_eq_true rfl⟩) ⟨dz_blind, va_recv hKc hPc (ci := 10) (q0 := 0) rfl rfl, fun U hU hW => ⟨rfl, dz_Nw hW hN, by rw [hU], by rw [hU]; exact hPc, va_K.moved hW.alike hKc, hDc.weaken (fun _ _ _ _ => trivial)⟩⟩ rfl rfl hl.1 rfl (lv_room (Nat.le_of_ble_eq_true rfl)) d_Model_save_1 ⟨Nat.le_of_ble_eq_true rfl, Nat.le_of_ble_eq_true rfl⟩) hS (fun q _ h => hFc q h) hFc (fun u1 t1 H1 locs ht hvm hw hB hz1 hk1 hS => ?_)
  obtain ⟨hP1, hK1, hD1⟩ := hB
  rw [ht] at hP1
  have hP := hP1
  have hD := hD1.weaken (fun _ q _ h => hFc q.1 h)
  generalize H1 = H at hP hS ⊢
  have hP : va_P (dC, dI) classes (wD cB cI o_Model r z1_1 F) H := hP
  have hD : va_D A (wD cB cI o_Model r z1_1 F) := hD
  refine lv_aload_n hx hb d_Model_save_4 rfl (lv_at hl 0 rfl) ?_
  obtain ⟨⟨z2_1, z2_2⟩, hc2, h⟩ := dz_ob h
  try dsimp only at h
  have hPc := hP
  have hKc := hK
  have hDc := hD
  have hFc := dz_freeall hD hS hA
  refine va_callv (va_runV (As := []) (rest := []) ⟨hx, hb, hml, hown, hg⟩ (c_Model_markGlobals l dC dI N cB cI o_Model r z1_1 F H.size (z2_1, z2_2) hc2) (cwV 0 hg (gd_V k772 k773 k774 k707 k771) rfl rfl rfl (by decide +kernel) ⟨Nat.le_of_ble_eq_true rfl, Nat.le_of_ble_eq_true rfl⟩) ⟨dz_blind, va_recv hKc hPc (ci := 10) (q0 := 0) rfl rfl, fun U hU hW => ⟨rfl, dz_Nw hW hN, by rw [hU], by rw [hU]; exact hPc, va_K.moved hW.alike hKc, hDc.weaken (fun _ _ _ _ => trivial)⟩⟩ rfl rfl hl.1 rfl (lv_room (Nat.le_of_ble_eq_true rfl)) d_Model_save_5 ⟨Nat.le_of_ble_eq_true rfl, Nat.le_of_ble_eq_true rfl⟩) hS (fun q _ h => hFc q h) hFc (fun u2 t2 H1 locs ht hvm hw hB hz1 hk1 hS => ?_)
  obtain ⟨hP1, hK1, hD1⟩ := hB
  rw [ht] at hP1
  have hP := hP1
  have hD := hD1.weaken (fun _ q _ h => hFc q.1 h)
  generalize H1 = H at hP hS ⊢
  have hP : va_P (dC, dI) classes (wD cB cI o_Model r z2_2 z2_1) H := hP
  have hD : va_D A (wD cB cI o_Model r z2_2 z2_1) := hD
  refine lv_aload_n hx hb d_Model_save_8 rfl (lv_at hl 0 rfl) ?_
  obtain ⟨⟨z3_1, z3_2⟩, hc3, h⟩ := dz_ob h
  try dsimp only at h
  have hPc := hP
  have hKc := hK
  have hDc := hD
  have hFc := dz_freeall hD hS hA
  refine va_calli (va_runV (As := []) (rest := []) ⟨hx, hb, hml, hown, hg⟩ (c_Model_settle l dC dI N cB cI o_Model r z2_2 z2_1 H.size (z3_1, z3_2) hc3) (cwV 0 hg (gd_V k766 k767 k768 k707 k765) rfl rfl rfl (by decide +kernel) ⟨Nat.le_of_ble_eq_true rfl, Nat.le_of_ble_eq_true rfl⟩) ⟨dz_blind, va_recv hKc hPc (ci := 10) (q0 := 0) rfl rfl, fun U hU hW => ⟨rfl, dz_Nw hW hN, by rw [hU], by rw [hU]; exact hPc, va_K.moved hW.alike hKc, hDc.weaken (fun _ _ _ _ => trivial)⟩⟩ rfl rfl hl.1 rfl (lv_room (Nat.le_of_ble_eq_true rfl)) d_Model_save_9 ⟨Nat.le_of_ble_eq_true rfl, Nat.le_of_ble_eq_true rfl⟩) hS (fun q _ h => hFc q h) hFc (fun r3 u3 t3 H1 locs ht hvm hw hB hz1 hk1 hS => ?_)
  obtain ⟨hP1, hK1, hD1⟩ := hB
  rw [ht] at hP1
  have hP := hP1
  have hD := hD1.weaken (fun _ q _ h => hFc q.1 h)
  have hw : z3_1 = r3 := hw.symm
  subst hw
  generalize H1 = H at hP hS ⊢
  have hP : va_P (dC, dI) classes (wD cB cI o_Model r z2_2 z3_2) H := hP
  have hD : va_D A (wD cB cI o_Model r z2_2 z3_2) := hD
  refine lv_istore_n (lv' := [(1, .int z3_1), (0, .ref o_Model)]) hx hb d_Model_save_12 rfl hl (by decide) rfl (fun ls hl => ?_)
  refine lv_iconst (v := 0) hx hb d_Model_save_13 (by decide) ?_
  refine lv_istore_n (lv' := [(2, .int 0), (1, .int z3_1), (0, .ref o_Model)]) hx hb d_Model_save_14 rfl hl (by decide) rfl (fun ls hl => ?_)
  refine l_Model_save_1 dC dI N cB cI o_Model r z2_2 z3_1 hx hb hml hown hg hN hK hA (fun v1_2 w1_F H locs ls h hP hD hS hl => ?_) N (0 : Int32) z3_2 _ _ _ h hP hD hS (lv_sub hl [0, 1, 2] rfl)
  refine lv_iconst (v := 0) hx hb d_Model_save_162 (by decide) ?_
  refine lv_istore_n (lv' := [(2, .int 0), (1, .int z3_1), (0, .ref o_Model)]) hx hb d_Model_save_163 rfl hl (by decide) rfl (fun ls hl => ?_)
  refine l_Model_save_5 dC dI N cB cI o_Model r z2_2 z3_1 hx hb hml hown hg hN hK hA (fun v5_2 w5_F H locs ls h hP hD hS hl => ?_) N (0 : Int32) w1_F _ _ _ h hP hD hS (lv_sub hl [0, 1, 2] rfl)
  refine lv_aload_n hx hb d_Model_save_225 rfl (lv_at hl 2 rfl) ?_
  refine lv_iload_n hx hb d_Model_save_226 rfl (lv_at hl 1 rfl) ?_
  refine va_put (D := (dC, dI)) (ci := 10) (v := .int z3_1) (ty := .int) (C := R_Model) (T := F_Model) (N := 54) hx hb hg i_Model t_Model t_Model_ok n_Model hown hK hP hD hS 0 rfl rfl 11 (by decide) (hg _ k1044) (fun _ h9 => h9) rfl (by decide +kernel) rfl rfl (Nat.le_of_ble_eq_true rfl) d_Model_save_227 (fun H locs hP hD hS => ?_)
  obtain ⟨J35, eJ35, h⟩ := dz_lt h
  have hP : va_P (dC, dI) classes (wD cB cI o_Model r J35 w5_F) H := by rw [eJ35]; exact hP
  have hD : va_D A (wD cB cI o_Model r J35 w5_F) := by rw [eJ35]; exact hD
  refine lv_aload_n hx hb d_Model_save_230 rfl (lv_at hl 2 rfl) ?_
  obtain ⟨z36_1, hc36, h⟩ := dz_ob h
  try dsimp only at h
  have hPc := hP
  have hKc := hK
  have hDc := hD
  have hFc := dz_freeall hD hS hA
  refine va_callv (va_runV (As := []) (rest := []) ⟨hx, hb, hml, hown, hg⟩ (c_Model_unmark l dC dI N cB cI o_Model r J35 w5_F H.size z36_1 hc36) (cwV 0 hg (gd_V k1041 k1042 k1043 k707 k1040) rfl rfl rfl (by decide +kernel) ⟨Nat.le_of_ble_eq_true rfl, Nat.le_of_ble_eq_true rfl⟩) ⟨dz_blind, va_recv hKc hPc (ci := 10) (q0 := 0) rfl rfl, fun U hU hW => ⟨rfl, dz_Nw hW hN, by rw [hU], by rw [hU]; exact hPc, va_K.moved hW.alike hKc, hDc.weaken (fun _ _ _ _ => trivial)⟩⟩ rfl rfl hl.1 rfl (lv_room (Nat.le_of_ble_eq_true rfl)) d_Model_save_231 ⟨Nat.le_of_ble_eq_true rfl, Nat.le_of_ble_eq_true rfl⟩) hS (fun q _ h => hFc q h) hFc (fun u36 t36 H1 locs ht hvm hw hB hz1 hk1 hS => ?_)
  obtain ⟨hP1, hK1, hD1⟩ := hB
  rw [ht] at hP1
  have hP := hP1
  have hD := hD1.weaken (fun _ q _ h => hFc q.1 h)
  generalize H1 = H at hP hS ⊢
  have hP : va_P (dC, dI) classes (wD cB cI o_Model r J35 z36_1) H := hP
  have hD : va_D A (wD cB cI o_Model r J35 z36_1) := hD
  refine lv_iload_n hx hb d_Model_save_234 rfl (lv_at hl 1 rfl) ?_
  obtain rfl := Option.some.inj h
  have hP9 := hP
  have hD9 := hD
  have hK9 := hK
  exact W.iret (v := z3_1) hx hb hr (fun t ht hW => ⟨⟨z3_1, (), rfl, rfl, by rw [ht]; exact hP9, va_K.moved hW.alike hK9, hD9⟩, hS.F ht⟩) hS.2.2 d_Model_save_235

set_option maxHeartbeats 4000000 in
set_option maxRecDepth 100000 in
theorem l_Model_restore_1 {p : Program} {l : Launch} {e : Env} {s : State} {m : MethodId} {args : Array Value} {below : List Frame} {meth : Method} {c : Code} {Q : State → Prop} {A : Nat → Prop} (dC : Nat → ClassId) (dI : Nat → Nat → Nat) (N : Nat) (cB : ClassId) (cI : ClassId) (o_Model : Nat) (r : Nat → Nat) (J3 : Nat → Int32) {ζ : Type} {z : ζ} (hx : p.tables.exec = Jvm.exec) (hb : c.code = b_Model_restore) (hml : c.maxLocals = 2) (hown : s.vm.findClass R_Model = some m.cls) (hg : ∀ w ∈ lw_g, w.before args s = true) (hN : dz_N s) (hK : va_K (dC, dI) classes [(cB, .byte), (cI, .int)] s) (hA : ∀ q : Nat, s.heap.size ≤ q → A q) {k1_54 : Int32 → (Nat → Nat → Int32) → Option (ζ)} (hk1_54 : ∀ (v1_1 : Int32) (w1_F : (Nat → Nat → Int32))    (H : Heap) (locs : List Loc) (ls : Array Slot), k1_54 v1_1 w1_F = some z → va_P (dC, dI) classes (wD cB cI o_Model r J3 w1_F) H → va_D A (wD cB cI o_Model r J3 w1_F) → va_S A s.heap H locs → lv_has ls 2 [(1, .int v1_1), (0, .ref o_Model)] → W p l e ({ frames := 1, cells := 0, slots := 0, locals := 20 } : Room) s m args below meth c H locs 0 0 Q (F0 m 54 ls [])) : ∀ (n1 : Nat) (v1_1 : Int32) (w1_F : (Nat → Nat → Int32))   (H : Heap) (locs : List Loc) (ls : Array Slot), lm_Model_restore_1 N J3 k1_54 n1 v1_1 w1_F = some z → va_P (dC, dI) classes (wD cB cI o_Model r J3 w1_F) H → va_D A (wD cB cI o_Model r J3 w1_F) → va_S A s.heap H locs → lv_has ls 2 [(1, .int v1_1), (0, .ref o_Model)] → W p l e ({ frames := 1, cells := 0, slots := 0, locals := 20 } : Room) s m args below meth c H locs 0 0 Q (F0 m 16 ls []) := by
  intro n1
  induction n1 with
  | zero =>
    intro v1_1 w1_F H locs ls h hP hD hS hl
    rw [lm_Model_restore_1] at h
    cases h
  | succ n1 ih1 =>
    intro v1_1 w1_F H locs ls h hP hD hS hl
    rw [lm_Model_restore_1] at h
    refine lv_iload_n hx hb d_Model_restore_16 rfl (lv_at hl 0 rfl) ?_
    refine lv_aload_n hx hb d_Model_restore_17 rfl (lv_at hl 1 rfl) ?_
    refine va_get (D := (dC, dI)) (ci := 10) (v := .int (J3 11)) (C := R_Model) (T := F_Model) (N := 54) hx hb hg i_Model hown hK hP 0 rfl rfl 11 (by decide) (hg _ k1044) (fun _ h9 => h9) rfl d_Model_restore_18 ?_
    refine lv_icmp_ge (tgt := 54) hx hb d_Model_restore_21 (by decide) (fun c4 => ?_) (fun c4 => ?_)
    · rw [if_pos c4] at h
      exact hk1_54 v1_1 w1_F _ _ _ h hP hD hS (lv_sub hl [0, 1] rfl)
    · rw [if_neg c4] at h
      refine lv_aload_n hx hb d_Model_restore_24 rfl (lv_at hl 1 rfl) ?_
      refine va_get (D := (dC, dI)) (ci := 10) (v := .ref (r 0)) (C := R_Model) (T := F_Model) (N := 54) hx hb hg i_Model hown hK hP 0 rfl rfl 0 (by decide) (hg _ k737) (fun _ h9 => h9) rfl d_Model_restore_25 ?_
      refine lv_iload_n hx hb d_Model_restore_28 rfl (lv_at hl 0 rfl) ?_
      refine lv_aload_n hx hb d_Model_restore_29 rfl (lv_at hl 1 rfl) ?_
      refine va_get (D := (dC, dI)) (ci := 10) (v := .ref (r 9)) (C := R_Model) (T := F_Model) (N := 54) hx hb hg i_Model hown hK hP 0 rfl rfl 9 (by decide) (hg _ k1047) (fun _ h9 => h9) rfl d_Model_restore_30 ?_
      refine lv_iload_n hx hb d_Model_restore_33 rfl (lv_at hl 0 rfl) ?_
      obtain ⟨i5, h⟩ := dz_oi h
      refine va_iald (D := (dC, dI)) (f := w1_F 9) hx hb hK hP 6 1 rfl rfl i5 d_Model_restore_34 ?_
      obtain ⟨i6, h⟩ := dz_oi h
      refine va_iast (D := (dC, dI)) (f := w1_F 0) hx hb hK hP hD hS 1 1 rfl rfl i6 d_Model_restore_35 (fun H locs hP hD hS => ?_)
      obtain ⟨G7, eG7, h⟩ := dz_lt h
      have hP : va_P (dC, dI) classes (wD cB cI o_Model r J3 G7) H := by rw [eG7]; exact hP
      have hD : va_D A (wD cB cI o_Model r J3 G7) := by rw [eG7]; exact hD
      refine lv_aload_n hx hb d_Model_restore_36 rfl (lv_at hl 1 rfl) ?_
      refine va_get (D := (dC, dI)) (ci := 10) (v := .ref (r 1)) (C := R_Model) (T := F_Model) (N := 54) hx hb hg i_Model hown hK hP 0 rfl rfl 1 (by decide) (hg _ k742) (fun _ h9 => h9) rfl d_Model_restore_37 ?_
      refine lv_iload_n hx hb d_Model_restore_40 rfl (lv_at hl 0 rfl) ?_
      refine lv_aload_n hx hb d_Model_restore_41 rfl (lv_at hl 1 rfl) ?_
      refine va_get (D := (dC, dI)) (ci := 10) (v := .ref (r 10)) (C := R_Model) (T := F_Model) (N := 54) hx hb hg i_Model hown hK hP 0 rfl rfl 10 (by decide) (hg _ k1048) (fun _ h9 => h9) rfl d_Model_restore_42 ?_
      refine lv_iload_n hx hb d_Model_restore_45 rfl (lv_at hl 0 rfl) ?_
      obtain ⟨i8, h⟩ := dz_oi h
      refine va_iald (D := (dC, dI)) (f := G7 10) hx hb hK hP 7 1 rfl rfl i8 d_Model_restore_46 ?_
      obtain ⟨i9, h⟩ := dz_oi h
      refine va_iast (D := (dC, dI)) (f := G7 1) hx hb hK hP hD hS 2 1 rfl rfl i9 d_Model_restore_47 (fun H locs hP hD hS => ?_)
      obtain ⟨G10, eG10, h⟩ := dz_lt h
      have hP : va_P (dC, dI) classes (wD cB cI o_Model r J3 G10) H := by rw [eG10]; exact hP
      have hD : va_D A (wD cB cI o_Model r J3 G10) := by rw [eG10]; exact hD
      refine lv_iinc (v := v1_1 + 1) (lv' := [(1, .int (v1_1 + 1)), (0, .ref o_Model)]) hx hb d_Model_restore_48 hl (k := 0) rfl rfl (by decide) rfl (fun ls hl => ?_)
      refine lv_goto (tgt := 16) hx hb d_Model_restore_51 (by decide) ?_
      exact ih1 (v1_1 + 1) G10 _ _ _ h hP hD hS (lv_sub hl [0, 1] rfl)
set_option maxHeartbeats 4000000 in
set_option maxRecDepth 100000 in
theorem l_Model_restore_2 {p : Program} {l : Launch} {e : Env} {s : State} {m : MethodId} {args : Array Value} {below : List Frame} {meth : Method} {c : Code} {Q : State → Prop} {A : Nat → Prop} (dC : Nat → ClassId) (dI : Nat → Nat → Nat) (N : Nat) (cB : ClassId) (cI : ClassId) (o_Model : Nat) (r : Nat → Nat) (J3 : Nat → Int32) {ζ : Type} {z : ζ} (hx : p.tables.exec = Jvm.exec) (hb : c.code = b_Model_restore) (hml : c.maxLocals = 2) (hown : s.vm.findClass R_Model = some m.cls) (hg : ∀ w ∈ lw_g, w.before args s = true) (hN : dz_N s) (hK : va_K (dC, dI) classes [(cB, .byte), (cI, .int)] s) (hA : ∀ q : Nat, s.heap.size ≤ q → A q) {k2_93 : Int32 → (Nat → Nat → Int32) → Option (ζ)} (hk2_93 : ∀ (v2_1 : Int32) (w2_F : (Nat → Nat → Int32))    (H : Heap) (locs : List Loc) (ls : Array Slot), k2_93 v2_1 w2_F = some z → va_P (dC, dI) classes (wD cB cI o_Model r J3 w2_F) H → va_D A (wD cB cI o_Model r J3 w2_F) → va_S A s.heap H locs → lv_has ls 2 [(1, .int v2_1), (0, .ref o_Model)] → W p l e ({ frames := 1, cells := 0, slots := 0, locals := 20 } : Room) s m args below meth c H locs 0 0 Q (F0 m 93 ls [])) : ∀ (n2 : Nat) (v2_1 : Int32) (w2_F : (Nat → Nat → Int32))   (H : Heap) (locs : List Loc) (ls : Array Slot), lm_Model_restore_2 N k2_93 n2 v2_1 w2_F = some z → va_P (dC, dI) classes (wD cB cI o_Model r J3 w2_F) H → va_D A (wD cB cI o_Model r J3 w2_F) → va_S A s.heap H locs → lv_has ls 2 [(1, .int v2_1), (0, .ref o_Model)] → W p l e ({ frames := 1, cells := 0, slots := 0, locals := 20 } : Room) s m args below meth c H locs 0 0 Q (F0 m 56 ls []) := by
  intro n2
  induction n2 with
  | zero =>
    intro v2_1 w2_F H locs ls h hP hD hS hl
    rw [lm_Model_restore_2] at h
    cases h
  | succ n2 ih2 =>
    intro v2_1 w2_F H locs ls h hP hD hS hl
    rw [lm_Model_restore_2] at h
    refine lv_iload_n hx hb d_Model_restore_56 rfl (lv_at hl 0 rfl) ?_
    refine lv_sipush (v := 2048) hx hb d_Model_restore_57 (by decide) ?_
    refine lv_icmp_ge (tgt := 93) hx hb d_Model_restore_60 (by decide) (fun c11 => ?_) (fun c11 => ?_)
    · rw [if_pos c11] at h
      exact hk2_93 v2_1 w2_F _ _ _ h hP hD hS (lv_sub hl [0, 1] rfl)
    · rw [if_neg c11] at h
      refine lv_aload_n hx hb d_Model_restore_63 rfl (lv_at hl 1 rfl) ?_
      refine va_get (D := (dC, dI)) (ci := 10) (v := .ref (r 5)) (C := R_Model) (T := F_Model) (N := 54) hx hb hg i_Model hown hK hP 0 rfl rfl 5 (by decide) (hg _ k758) (fun _ h9 => h9) rfl d_Model_restore_64 ?_
      refine lv_iload_n hx hb d_Model_restore_67 rfl (lv_at hl 0 rfl) ?_
      refine lv_aload_n hx hb d_Model_restore_68 rfl (lv_at hl 1 rfl) ?_
      refine va_get (D := (dC, dI)) (ci := 10) (v := .ref (r 12)) (C := R_Model) (T := F_Model) (N := 54) hx hb hg i_Model hown hK hP 0 rfl rfl 12 (by decide) (hg _ k1045) (fun _ h9 => h9) rfl d_Model_restore_69 ?_
      refine lv_iload_n hx hb d_Model_restore_72 rfl (lv_at hl 0 rfl) ?_
      obtain ⟨i12, h⟩ := dz_oi h
      refine va_iald (D := (dC, dI)) (f := w2_F 12) hx hb hK hP 8 1 rfl rfl i12 d_Model_restore_73 ?_
      obtain ⟨i13, h⟩ := dz_oi h
      refine va_iast (D := (dC, dI)) (f := w2_F 5) hx hb hK hP hD hS 4 1 rfl rfl i13 d_Model_restore_74 (fun H locs hP hD hS => ?_)
      obtain ⟨G14, eG14, h⟩ := dz_lt h
      have hP : va_P (dC, dI) classes (wD cB cI o_Model r J3 G14) H := by rw [eG14]; exact hP
      have hD : va_D A (wD cB cI o_Model r J3 G14) := by rw [eG14]; exact hD
      refine lv_aload_n hx hb d_Model_restore_75 rfl (lv_at hl 1 rfl) ?_
      refine va_get (D := (dC, dI)) (ci := 10) (v := .ref (r 6)) (C := R_Model) (T := F_Model) (N := 54) hx hb hg i_Model hown hK hP 0 rfl rfl 6 (by decide) (hg _ k759) (fun _ h9 => h9) rfl d_Model_restore_76 ?_
      refine lv_iload_n hx hb d_Model_restore_79 rfl (lv_at hl 0 rfl) ?_
      refine lv_aload_n hx hb d_Model_restore_80 rfl (lv_at hl 1 rfl) ?_
      refine va_get (D := (dC, dI)) (ci := 10) (v := .ref (r 13)) (C := R_Model) (T := F_Model) (N := 54) hx hb hg i_Model hown hK hP 0 rfl rfl 13 (by decide) (hg _ k1046) (fun _ h9 => h9) rfl d_Model_restore_81 ?_
      refine lv_iload_n hx hb d_Model_restore_84 rfl (lv_at hl 0 rfl) ?_
      obtain ⟨i15, h⟩ := dz_oi h
      refine va_iald (D := (dC, dI)) (f := G14 13) hx hb hK hP 9 1 rfl rfl i15 d_Model_restore_85 ?_
      obtain ⟨i16, h⟩ := dz_oi h
      refine va_iast (D := (dC, dI)) (f := G14 6) hx hb hK hP hD hS 5 1 rfl rfl i16 d_Model_restore_86 (fun H locs hP hD hS => ?_)
      obtain ⟨G17, eG17, h⟩ := dz_lt h
      have hP : va_P (dC, dI) classes (wD cB cI o_Model r J3 G17) H := by rw [eG17]; exact hP
      have hD : va_D A (wD cB cI o_Model r J3 G17) := by rw [eG17]; exact hD
      refine lv_iinc (v := v2_1 + 1) (lv' := [(1, .int (v2_1 + 1)), (0, .ref o_Model)]) hx hb d_Model_restore_87 hl (k := 0) rfl rfl (by decide) rfl (fun ls hl => ?_)
      refine lv_goto (tgt := 56) hx hb d_Model_restore_90 (by decide) ?_
      exact ih2 (v2_1 + 1) G17 _ _ _ h hP hD hS (lv_sub hl [0, 1] rfl)
set_option maxHeartbeats 4000000 in
set_option maxRecDepth 100000 in
theorem c_Model_restore (l : Launch) (dC : Nat → ClassId) (dI : Nat → Nat → Nat) (N : Nat) (cB : ClassId) (cI : ClassId) (o_Model : Nat) (r : Nat → Nat) (I : Nat → Int32) (F : Nat → Nat → Int32) (sz : Nat) (z : Int32 × (Nat → Nat → Int32) × (Nat → Int32)) (h : m_Model_restore N I F = some z) : Met l y_Model_restore (.code y_Model_restore b_Model_restore 2 (some .int) :: lw_g) ({ frames := 1, cells := 0, slots := 0, locals := 20 }) (va_Pc [.ref o_Model] (fun U => dz_N U ∧ U.heap.size = sz ∧ va_P (dC, dI) classes (wD cB cI o_Model r I F) U.heap ∧ va_K (dC, dI) classes [(cB, .byte), (cI, .int)] U ∧ va_D (fun _ => True) (wD cB cI o_Model r I F))) (va_Qi (fun (r : Int32) (_ : Unit) => r = z.1) (fun (u : Unit) t => va_P (dC, dI) classes (wD cB cI o_Model r z.2.2 z.2.1) t.heap ∧ va_K (dC, dI) classes [(cB, .byte), (cI, .int)] t ∧ va_D (va_A (wD cB cI o_Model r I F) sz) (wD cB cI o_Model r z.2.2 z.2.1)) (va_A (wD cB cI o_Model r I F) sz)) 0 0 (va_A (wD cB cI o_Model r I F) sz) := by
  refine Met.ofW (cc := b_Model_restore) (maxL := 2) (ret := (some .int)) (by decide +kernel) rfl ?_
  intro p e s m args below meth c s₁ B hml hv
  obtain ⟨rfl, hN, hsz, hP, hK, hD0⟩ := hv
  have hx := B.exec
  have hb := B.bytes
  have hr := B.returns
  have hg : ∀ w ∈ lw_g, w.before _ s = true := fun w hw => atoms_spec (ws := .code y_Model_restore b_Model_restore 2 (some .int) :: lw_g) B.pre w (List.mem_cons_of_mem _ hw)
  have hown : s.vm.findClass R_Model = some m.cls := findClass_of_methodNamed B.named
  have hlocks := B.notSynchronized
  clear B
  subst hsz
  have hD := hD0.self (sz := s.heap.size)
  generalize hAe : va_A (wD cB cI o_Model r I F) s.heap.size = A at hD ⊢
  have hA : ∀ q : Nat, s.heap.size ≤ q → A q := fun q h => by rw [← hAe]; exact Or.inr h
  have hS : va_S A s.heap s.heap [] := va_S.rf
  have hP : va_P (dC, dI) classes (wD cB cI o_Model r I F) s.heap := hP
  have hl := lv_entry ([.ref o_Model]) (n := 2) (Nat.le_of_ble_eq_true rfl)
  rw [lg_entry_eq]
  generalize (lg_sl ([.ref o_Model]) ++ List.replicate (2 - (lg_sl ([.ref o_Model])).length) Slot.unset).toArray = ls at hl ⊢
  have hl : lv_has ls 2 [(0, .ref o_Model)] := hl
  unfold m_Model_restore at h
  refine lv_aload_n hx hb d_Model_restore_0 rfl (lv_at hl 0 rfl) ?_
  obtain ⟨z1_1, hc1, h⟩ := dz_ob h
  try dsimp only at h
  have hPc := hP
  have hKc := hK
  have hDc := hD
  have hFc := dz_freeall hD hS hA
  refine va_callv (va_runV (As := []) (rest := []) ⟨hx, hb, hml, hown, hg⟩ (c_Model_forget l dC dI N cB cI o_Model r I F s.heap.size z1_1 hc1) (cwV 0 hg (gd_V k1050 k1051 k1052 k707 k1049) rfl rfl rfl (by decide +kernel) ⟨Nat.le_of_ble_eq_true rfl, Nat.le_of_ble_eq_true rfl⟩) ⟨dz_blind, va_recv hKc hPc (ci := 10) (q0 := 0) rfl rfl, fun U hU hW => ⟨rfl, dz_Nw hW hN, by rw [hU], by rw [hU]; exact hPc, va_K.moved hW.alike hKc, hDc.weaken (fun _ _ _ _ => trivial)⟩⟩ rfl rfl hl.1 rfl (lv_room (Nat.le_of_ble_eq_true rfl)) d_Model_restore_1 ⟨Nat.le_of_ble_eq_true rfl, Nat.le_of_ble_eq_true rfl⟩) hS (fun q _ h => hFc q h) hFc (fun u1 t1 H1 locs ht hvm hw hB hz1 hk1 hS => ?_)
  obtain ⟨hP1, hK1, hD1⟩ := hB
  rw [ht] at hP1
  have hP := hP1
  have hD := hD1.weaken (fun _ q _ h => hFc q.1 h)
  generalize H1 = H at hP hS ⊢
  have hP : va_P (dC, dI) classes (wD cB cI o_Model r z1_1 F) H := hP
  have hD : va_D A (wD cB cI o_Model r z1_1 F) := hD
  refine lv_aload_n hx hb d_Model_restore_4 rfl (lv_at hl 0 rfl) ?_
  refine lv_iconst (v := 0) hx hb d_Model_restore_5 (by decide) ?_
  refine va_put (D := (dC, dI)) (ci := 10) (v := .int 0) (ty := .int) (C := R_Model) (T := F_Model) (N := 54) hx hb hg i_Model t_Model t_Model_ok n_Model hown hK hP hD hS 0 rfl rfl 7 (by decide) (hg _ k728) (fun _ h9 => h9) rfl (by decide +kernel) rfl rfl (Nat.le_of_ble_eq_true rfl) d_Model_restore_6 (fun H locs hP hD hS => ?_)
  obtain ⟨J2, eJ2, h⟩ := dz_lt h
  have hP : va_P (dC, dI) classes (wD cB cI o_Model r J2 F) H := by rw [eJ2]; exact hP
  have hD : va_D A (wD cB cI o_Model r J2 F) := by rw [eJ2]; exact hD
  refine lv_aload_n hx hb d_Model_restore_9 rfl (lv_at hl 0 rfl) ?_
  refine lv_iconst (v := 0) hx hb d_Model_restore_10 (by decide) ?_
  refine va_put (D := (dC, dI)) (ci := 10) (v := .int 0) (ty := .int) (C := R_Model) (T := F_Model) (N := 54) hx hb hg i_Model t_Model t_Model_ok n_Model hown hK hP hD hS 0 rfl rfl 8 (by decide) (hg _ k729) (fun _ h9 => h9) rfl (by decide +kernel) rfl rfl (Nat.le_of_ble_eq_true rfl) d_Model_restore_11 (fun H locs hP hD hS => ?_)
  obtain ⟨J3, eJ3, h⟩ := dz_lt h
  have hP : va_P (dC, dI) classes (wD cB cI o_Model r J3 F) H := by rw [eJ3]; exact hP
  have hD : va_D A (wD cB cI o_Model r J3 F) := by rw [eJ3]; exact hD
  refine lv_iconst (v := 0) hx hb d_Model_restore_14 (by decide) ?_
  refine lv_istore_n (lv' := [(1, .int 0), (0, .ref o_Model)]) hx hb d_Model_restore_15 rfl hl (by decide) rfl (fun ls hl => ?_)
  refine l_Model_restore_1 dC dI N cB cI o_Model r J3 hx hb hml hown hg hN hK hA (fun v1_1 w1_F H locs ls h hP hD hS hl => ?_) N (0 : Int32) F _ _ _ h hP hD hS (lv_sub hl [0, 1] rfl)
  refine lv_iconst (v := 0) hx hb d_Model_restore_54 (by decide) ?_
  refine lv_istore_n (lv' := [(1, .int 0), (0, .ref o_Model)]) hx hb d_Model_restore_55 rfl hl (by decide) rfl (fun ls hl => ?_)
  refine l_Model_restore_2 dC dI N cB cI o_Model r J3 hx hb hml hown hg hN hK hA (fun v2_1 w2_F H locs ls h hP hD hS hl => ?_) N (0 : Int32) w1_F _ _ _ h hP hD hS (lv_sub hl [0, 1] rfl)
  refine lv_aload_n hx hb d_Model_restore_93 rfl (lv_at hl 1 rfl) ?_
  refine lv_aload_n hx hb d_Model_restore_94 rfl (lv_at hl 1 rfl) ?_
  refine va_get (D := (dC, dI)) (ci := 10) (v := .int (J3 11)) (C := R_Model) (T := F_Model) (N := 54) hx hb hg i_Model hown hK hP 0 rfl rfl 11 (by decide) (hg _ k1044) (fun _ h9 => h9) rfl d_Model_restore_95 ?_
  refine va_put (D := (dC, dI)) (ci := 10) (v := .int (J3 11)) (ty := .int) (C := R_Model) (T := F_Model) (N := 54) hx hb hg i_Model t_Model t_Model_ok n_Model hown hK hP hD hS 0 rfl rfl 3 (by decide) (hg _ k764) (fun _ h9 => h9) rfl (by decide +kernel) rfl rfl (Nat.le_of_ble_eq_true rfl) d_Model_restore_98 (fun H locs hP hD hS => ?_)
  obtain ⟨J18, eJ18, h⟩ := dz_lt h
  have hP : va_P (dC, dI) classes (wD cB cI o_Model r J18 w2_F) H := by rw [eJ18]; exact hP
  have hD : va_D A (wD cB cI o_Model r J18 w2_F) := by rw [eJ18]; exact hD
  refine lv_aload_n hx hb d_Model_restore_101 rfl (lv_at hl 1 rfl) ?_
  refine va_get (D := (dC, dI)) (ci := 10) (v := .int (J18 3)) (C := R_Model) (T := F_Model) (N := 54) hx hb hg i_Model hown hK hP 0 rfl rfl 3 (by decide) (hg _ k764) (fun _ h9 => h9) rfl d_Model_restore_102 ?_
  obtain rfl := Option.some.inj h
  have hP9 := hP
  have hD9 := hD
  have hK9 := hK
  exact W.iret (v := J18 3) hx hb hr (fun t ht hW => ⟨⟨J18 3, (), rfl, rfl, by rw [ht]; exact hP9, va_K.moved hW.alike hK9, hD9⟩, hS.F ht⟩) hS.2.2 d_Model_restore_105

set_option maxHeartbeats 4000000 in
set_option maxRecDepth 100000 in
theorem c_Model_count (l : Launch) (dC : Nat → ClassId) (dI : Nat → Nat → Nat) (N : Nat) (cB : ClassId) (cI : ClassId) (o_Model : Nat) (r : Nat → Nat) (I : Nat → Int32) (F : Nat → Nat → Int32) (p0 : Int32) (z : Int32) (h : m_Model_count N I F p0 = some z) : Met l y_Model_count (.code y_Model_count b_Model_count 2 (some .int) :: lw_g) ({ frames := 0, cells := 0, slots := 0, locals := 0 }) (va_Pc [.ref o_Model, .int p0] (fun U => dz_N U ∧ va_P (dC, dI) classes (wD cB cI o_Model r I F) U.heap ∧ va_K (dC, dI) classes [(cB, .byte), (cI, .int)] U)) (vp_Si (fun r => r = z)) 0 0 (fun _ => False) := by
  refine Met.ofW (cc := b_Model_count) (maxL := 2) (ret := (some .int)) (by decide +kernel) rfl ?_
  intro p e s m args below meth c s₁ B hml hv
  obtain ⟨rfl, hN, hP, hK⟩ := hv
  have hx := B.exec
  have hb := B.bytes
  have hr := B.returns
  have hg : ∀ w ∈ lw_g, w.before _ s = true := fun w hw => atoms_spec (ws := .code y_Model_count b_Model_count 2 (some .int) :: lw_g) B.pre w (List.mem_cons_of_mem _ hw)
  have hown : s.vm.findClass R_Model = some m.cls := findClass_of_methodNamed B.named
  have hlocks := B.notSynchronized
  clear B
  have hP : va_P (dC, dI) classes (wD cB cI o_Model r I F) s.heap := hP
  have hl := lv_entry ([.ref o_Model, .int p0]) (n := 2) (Nat.le_of_ble_eq_true rfl)
  rw [lg_entry_eq]
  generalize (lg_sl ([.ref o_Model, .int p0]) ++ List.replicate (2 - (lg_sl ([.ref o_Model, .int p0])).length) Slot.unset).toArray = ls at hl ⊢
  have hl : lv_has ls 2 [(0, .ref o_Model), (1, .int p0)] := hl
  unfold m_Model_count at h
  refine lv_iload_n hx hb d_Model_count_0 rfl (lv_at hl 1 rfl) ?_
  by_cases s1_0 : p0 = 0
  · rw [if_pos s1_0] at h
    refine lv_tableIn (off := 63) (tgt := 64) hx hb d_Model_count_1 (by rw [s1_0]; decide) (by rw [s1_0]; decide) (by rw [s1_0]; decide) (by decide) ?_
    refine lv_aload_n hx hb d_Model_count_64 rfl (lv_at hl 0 rfl) ?_
    refine va_get (D := (dC, dI)) (ci := 10) (v := .int (I 15)) (C := R_Model) (T := F_Model) (N := 54) hx hb hg i_Model hown hK hP 0 rfl rfl 15 (by decide) (hg _ k698) (fun _ h9 => h9) rfl d_Model_count_65 ?_
    obtain rfl := Option.some.inj h
    exact W.iret (v := I 15) hx hb hr (fun t ht hW => ⟨_, rfl, rfl, ht⟩) (fun _ h => by cases h) d_Model_count_68
  rw [if_neg s1_0] at h
  by_cases s1_1 : p0 = 1
  · rw [if_pos s1_1] at h
    refine lv_tableIn (off := 68) (tgt := 69) hx hb d_Model_count_1 (by rw [s1_1]; decide) (by rw [s1_1]; decide) (by rw [s1_1]; decide) (by decide) ?_
    refine lv_aload_n hx hb d_Model_count_69 rfl (lv_at hl 0 rfl) ?_
    refine va_get (D := (dC, dI)) (ci := 10) (v := .int (I 18)) (C := R_Model) (T := F_Model) (N := 54) hx hb hg i_Model hown hK hP 0 rfl rfl 18 (by decide) (hg _ k711) (fun _ h9 => h9) rfl d_Model_count_70 ?_
    obtain rfl := Option.some.inj h
    exact W.iret (v := I 18) hx hb hr (fun t ht hW => ⟨_, rfl, rfl, ht⟩) (fun _ h => by cases h) d_Model_count_73
  rw [if_neg s1_1] at h
  by_cases s1_2 : p0 = 2
  · rw [if_pos s1_2] at h
    refine lv_tableIn (off := 73) (tgt := 74) hx hb d_Model_count_1 (by rw [s1_2]; decide) (by rw [s1_2]; decide) (by rw [s1_2]; decide) (by decide) ?_
    refine lv_aload_n hx hb d_Model_count_74 rfl (lv_at hl 0 rfl) ?_
    refine va_get (D := (dC, dI)) (ci := 10) (v := .int (I 36)) (C := R_Model) (T := F_Model) (N := 54) hx hb hg i_Model hown hK hP 0 rfl rfl 36 (by decide) (hg _ k722) (fun _ h9 => h9) rfl d_Model_count_75 ?_
    obtain rfl := Option.some.inj h
    exact W.iret (v := I 36) hx hb hr (fun t ht hW => ⟨_, rfl, rfl, ht⟩) (fun _ h => by cases h) d_Model_count_78
  rw [if_neg s1_2] at h
  by_cases s1_3 : p0 = 3
  · rw [if_pos s1_3] at h
    refine lv_tableIn (off := 78) (tgt := 79) hx hb d_Model_count_1 (by rw [s1_3]; decide) (by rw [s1_3]; decide) (by rw [s1_3]; decide) (by decide) ?_
    refine lv_aload_n hx hb d_Model_count_79 rfl (lv_at hl 0 rfl) ?_
    refine va_get (D := (dC, dI)) (ci := 10) (v := .int (I 37)) (C := R_Model) (T := F_Model) (N := 54) hx hb hg i_Model hown hK hP 0 rfl rfl 37 (by decide) (hg _ k723) (fun _ h9 => h9) rfl d_Model_count_80 ?_
    obtain rfl := Option.some.inj h
    exact W.iret (v := I 37) hx hb hr (fun t ht hW => ⟨_, rfl, rfl, ht⟩) (fun _ h => by cases h) d_Model_count_83
  rw [if_neg s1_3] at h
  by_cases s1_4 : p0 = 4
  · rw [if_pos s1_4] at h
    refine lv_tableIn (off := 83) (tgt := 84) hx hb d_Model_count_1 (by rw [s1_4]; decide) (by rw [s1_4]; decide) (by rw [s1_4]; decide) (by decide) ?_
    refine lv_aload_n hx hb d_Model_count_84 rfl (lv_at hl 0 rfl) ?_
    refine va_get (D := (dC, dI)) (ci := 10) (v := .int (I 38)) (C := R_Model) (T := F_Model) (N := 54) hx hb hg i_Model hown hK hP 0 rfl rfl 38 (by decide) (hg _ k724) (fun _ h9 => h9) rfl d_Model_count_85 ?_
    obtain rfl := Option.some.inj h
    exact W.iret (v := I 38) hx hb hr (fun t ht hW => ⟨_, rfl, rfl, ht⟩) (fun _ h => by cases h) d_Model_count_88
  rw [if_neg s1_4] at h
  by_cases s1_5 : p0 = 5
  · rw [if_pos s1_5] at h
    refine lv_tableIn (off := 88) (tgt := 89) hx hb d_Model_count_1 (by rw [s1_5]; decide) (by rw [s1_5]; decide) (by rw [s1_5]; decide) (by decide) ?_
    refine lv_aload_n hx hb d_Model_count_89 rfl (lv_at hl 0 rfl) ?_
    refine va_get (D := (dC, dI)) (ci := 10) (v := .int (I 39)) (C := R_Model) (T := F_Model) (N := 54) hx hb hg i_Model hown hK hP 0 rfl rfl 39 (by decide) (hg _ k725) (fun _ h9 => h9) rfl d_Model_count_90 ?_
    obtain rfl := Option.some.inj h
    exact W.iret (v := I 39) hx hb hr (fun t ht hW => ⟨_, rfl, rfl, ht⟩) (fun _ h => by cases h) d_Model_count_93
  rw [if_neg s1_5] at h
  by_cases s1_6 : p0 = 6
  · rw [if_pos s1_6] at h
    refine lv_tableIn (off := 93) (tgt := 94) hx hb d_Model_count_1 (by rw [s1_6]; decide) (by rw [s1_6]; decide) (by rw [s1_6]; decide) (by decide) ?_
    refine lv_aload_n hx hb d_Model_count_94 rfl (lv_at hl 0 rfl) ?_
    refine va_get (D := (dC, dI)) (ci := 10) (v := .int (I 22)) (C := R_Model) (T := F_Model) (N := 54) hx hb hg i_Model hown hK hP 0 rfl rfl 22 (by decide) (hg _ k715) (fun _ h9 => h9) rfl d_Model_count_95 ?_
    obtain rfl := Option.some.inj h
    exact W.iret (v := I 22) hx hb hr (fun t ht hW => ⟨_, rfl, rfl, ht⟩) (fun _ h => by cases h) d_Model_count_98
  rw [if_neg s1_6] at h
  by_cases s1_7 : p0 = 7
  · rw [if_pos s1_7] at h
    refine lv_tableIn (off := 98) (tgt := 99) hx hb d_Model_count_1 (by rw [s1_7]; decide) (by rw [s1_7]; decide) (by rw [s1_7]; decide) (by decide) ?_
    refine lv_aload_n hx hb d_Model_count_99 rfl (lv_at hl 0 rfl) ?_
    refine va_get (D := (dC, dI)) (ci := 10) (v := .int (I 29)) (C := R_Model) (T := F_Model) (N := 54) hx hb hg i_Model hown hK hP 0 rfl rfl 29 (by decide) (hg _ k719) (fun _ h9 => h9) rfl d_Model_count_100 ?_
    obtain rfl := Option.some.inj h
    exact W.iret (v := I 29) hx hb hr (fun t ht hW => ⟨_, rfl, rfl, ht⟩) (fun _ h => by cases h) d_Model_count_103
  rw [if_neg s1_7] at h
  by_cases s1_8 : p0 = 8
  · rw [if_pos s1_8] at h
    refine lv_tableIn (off := 103) (tgt := 104) hx hb d_Model_count_1 (by rw [s1_8]; decide) (by rw [s1_8]; decide) (by rw [s1_8]; decide) (by decide) ?_
    refine lv_aload_n hx hb d_Model_count_104 rfl (lv_at hl 0 rfl) ?_
    refine va_get (D := (dC, dI)) (ci := 10) (v := .int (I 30)) (C := R_Model) (T := F_Model) (N := 54) hx hb hg i_Model hown hK hP 0 rfl rfl 30 (by decide) (hg _ k720) (fun _ h9 => h9) rfl d_Model_count_105 ?_
    obtain rfl := Option.some.inj h
    exact W.iret (v := I 30) hx hb hr (fun t ht hW => ⟨_, rfl, rfl, ht⟩) (fun _ h => by cases h) d_Model_count_108
  rw [if_neg s1_8] at h
  by_cases s1_9 : p0 = 9
  · rw [if_pos s1_9] at h
    refine lv_tableIn (off := 108) (tgt := 109) hx hb d_Model_count_1 (by rw [s1_9]; decide) (by rw [s1_9]; decide) (by rw [s1_9]; decide) (by decide) ?_
    refine lv_aload_n hx hb d_Model_count_109 rfl (lv_at hl 0 rfl) ?_
    refine va_get (D := (dC, dI)) (ci := 10) (v := .int (I 42)) (C := R_Model) (T := F_Model) (N := 54) hx hb hg i_Model hown hK hP 0 rfl rfl 42 (by decide) (hg _ k727) (fun _ h9 => h9) rfl d_Model_count_110 ?_
    obtain rfl := Option.some.inj h
    exact W.iret (v := I 42) hx hb hr (fun t ht hW => ⟨_, rfl, rfl, ht⟩) (fun _ h => by cases h) d_Model_count_113
  rw [if_neg s1_9] at h
  by_cases s1_10 : p0 = 10
  · rw [if_pos s1_10] at h
    refine lv_tableIn (off := 113) (tgt := 114) hx hb d_Model_count_1 (by rw [s1_10]; decide) (by rw [s1_10]; decide) (by rw [s1_10]; decide) (by decide) ?_
    refine lv_aload_n hx hb d_Model_count_114 rfl (lv_at hl 0 rfl) ?_
    refine va_get (D := (dC, dI)) (ci := 10) (v := .int (I 35)) (C := R_Model) (T := F_Model) (N := 54) hx hb hg i_Model hown hK hP 0 rfl rfl 35 (by decide) (hg _ k721) (fun _ h9 => h9) rfl d_Model_count_115 ?_
    obtain rfl := Option.some.inj h
    exact W.iret (v := I 35) hx hb hr (fun t ht hW => ⟨_, rfl, rfl, ht⟩) (fun _ h => by cases h) d_Model_count_118
  rw [if_neg s1_10] at h
  by_cases s1_11 : p0 = 11
  · rw [if_pos s1_11] at h
    refine lv_tableIn (off := 118) (tgt := 119) hx hb d_Model_count_1 (by rw [s1_11]; decide) (by rw [s1_11]; decide) (by rw [s1_11]; decide) (by decide) ?_
    refine lv_aload_n hx hb d_Model_count_119 rfl (lv_at hl 0 rfl) ?_
    refine va_get (D := (dC, dI)) (ci := 10) (v := .int (I 40)) (C := R_Model) (T := F_Model) (N := 54) hx hb hg i_Model hown hK hP 0 rfl rfl 40 (by decide) (hg _ k726) (fun _ h9 => h9) rfl d_Model_count_120 ?_
    obtain rfl := Option.some.inj h
    exact W.iret (v := I 40) hx hb hr (fun t ht hW => ⟨_, rfl, rfl, ht⟩) (fun _ h => by cases h) d_Model_count_123
  rw [if_neg s1_11] at h
  refine lv_tableOut (tgt := 124) hx hb d_Model_count_1 (by have q0 := lv_neT s1_0 (a := 0) (by decide); have q1 := lv_neT s1_1 (a := 1) (by decide); have q2 := lv_neT s1_2 (a := 2) (by decide); have q3 := lv_neT s1_3 (a := 3) (by decide); have q4 := lv_neT s1_4 (a := 4) (by decide); have q5 := lv_neT s1_5 (a := 5) (by decide); have q6 := lv_neT s1_6 (a := 6) (by decide); have q7 := lv_neT s1_7 (a := 7) (by decide); have q8 := lv_neT s1_8 (a := 8) (by decide); have q9 := lv_neT s1_9 (a := 9) (by decide); have q10 := lv_neT s1_10 (a := 10) (by decide); have q11 := lv_neT s1_11 (a := 11) (by decide); omega) (by decide) ?_
  refine lv_iconst (v := (-1)) hx hb d_Model_count_124 (by decide) ?_
  obtain rfl := Option.some.inj h
  exact W.iret (v := (-1)) hx hb hr (fun t ht hW => ⟨_, rfl, rfl, ht⟩) (fun _ h => by cases h) d_Model_count_125
