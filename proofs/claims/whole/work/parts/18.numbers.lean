theorem d_Numbers_signed_0 : decode b_Numbers_signed 0 = .ok (.iload_n 0, 1) := by decide +kernel
theorem d_Numbers_signed_1 : decode b_Numbers_signed 1 = .ok (.tableswitch 151 0 9 #[55, 59, 63, 67, 70, 83, 99, 115, 127, 139], 55) := by decide +kernel
theorem d_Numbers_signed_56 : decode b_Numbers_signed 56 = .ok (.lload_n 1, 1) := by decide +kernel
theorem d_Numbers_signed_57 : decode b_Numbers_signed 57 = .ok (.lload_n 3, 1) := by decide +kernel
theorem d_Numbers_signed_58 : decode b_Numbers_signed 58 = .ok (.ladd, 1) := by decide +kernel
theorem d_Numbers_signed_59 : decode b_Numbers_signed 59 = .ok (.lreturn, 1) := by decide +kernel
theorem d_Numbers_signed_60 : decode b_Numbers_signed 60 = .ok (.lload_n 1, 1) := by decide +kernel
theorem d_Numbers_signed_61 : decode b_Numbers_signed 61 = .ok (.lload_n 3, 1) := by decide +kernel
theorem d_Numbers_signed_62 : decode b_Numbers_signed 62 = .ok (.lsub, 1) := by decide +kernel
theorem d_Numbers_signed_63 : decode b_Numbers_signed 63 = .ok (.lreturn, 1) := by decide +kernel
theorem d_Numbers_signed_64 : decode b_Numbers_signed 64 = .ok (.lload_n 1, 1) := by decide +kernel
theorem d_Numbers_signed_65 : decode b_Numbers_signed 65 = .ok (.lload_n 3, 1) := by decide +kernel
theorem d_Numbers_signed_66 : decode b_Numbers_signed 66 = .ok (.lmul, 1) := by decide +kernel
theorem d_Numbers_signed_67 : decode b_Numbers_signed 67 = .ok (.lreturn, 1) := by decide +kernel
theorem d_Numbers_signed_68 : decode b_Numbers_signed 68 = .ok (.lload_n 1, 1) := by decide +kernel
theorem d_Numbers_signed_69 : decode b_Numbers_signed 69 = .ok (.lneg, 1) := by decide +kernel
theorem d_Numbers_signed_70 : decode b_Numbers_signed 70 = .ok (.lreturn, 1) := by decide +kernel
theorem d_Numbers_signed_71 : decode b_Numbers_signed 71 = .ok (.lload_n 1, 1) := by decide +kernel
theorem d_Numbers_signed_72 : decode b_Numbers_signed 72 = .ok (.lconst 0, 1) := by decide +kernel
theorem d_Numbers_signed_73 : decode b_Numbers_signed 73 = .ok (.lcmp, 1) := by decide +kernel
theorem d_Numbers_signed_74 : decode b_Numbers_signed 74 = .ok (.ifCond .ge 8, 3) := by decide +kernel
theorem d_Numbers_signed_77 : decode b_Numbers_signed 77 = .ok (.lload_n 1, 1) := by decide +kernel
theorem d_Numbers_signed_78 : decode b_Numbers_signed 78 = .ok (.lneg, 1) := by decide +kernel
theorem d_Numbers_signed_79 : decode b_Numbers_signed 79 = .ok (.goto 4, 3) := by decide +kernel
theorem d_Numbers_signed_82 : decode b_Numbers_signed 82 = .ok (.lload_n 1, 1) := by decide +kernel
theorem d_Numbers_signed_83 : decode b_Numbers_signed 83 = .ok (.lreturn, 1) := by decide +kernel
theorem d_Numbers_signed_84 : decode b_Numbers_signed 84 = .ok (.lload_n 3, 1) := by decide +kernel
theorem d_Numbers_signed_85 : decode b_Numbers_signed 85 = .ok (.lconst 0, 1) := by decide +kernel
theorem d_Numbers_signed_86 : decode b_Numbers_signed 86 = .ok (.lcmp, 1) := by decide +kernel
theorem d_Numbers_signed_87 : decode b_Numbers_signed 87 = .ok (.ifCond .ne 7, 3) := by decide +kernel
theorem d_Numbers_signed_90 : decode b_Numbers_signed 90 = .ok (.lconst 0, 1) := by decide +kernel
theorem d_Numbers_signed_91 : decode b_Numbers_signed 91 = .ok (.goto 8, 3) := by decide +kernel
theorem d_Numbers_signed_94 : decode b_Numbers_signed 94 = .ok (.lload_n 1, 1) := by decide +kernel
theorem d_Numbers_signed_95 : decode b_Numbers_signed 95 = .ok (.lload_n 3, 1) := by decide +kernel
theorem d_Numbers_signed_96 : decode b_Numbers_signed 96 = .ok (.invokestatic 48, 3) := by decide +kernel
theorem d_Numbers_signed_99 : decode b_Numbers_signed 99 = .ok (.lreturn, 1) := by decide +kernel
theorem d_Numbers_signed_100 : decode b_Numbers_signed 100 = .ok (.lload_n 3, 1) := by decide +kernel
theorem d_Numbers_signed_101 : decode b_Numbers_signed 101 = .ok (.lconst 0, 1) := by decide +kernel
theorem d_Numbers_signed_102 : decode b_Numbers_signed 102 = .ok (.lcmp, 1) := by decide +kernel
theorem d_Numbers_signed_103 : decode b_Numbers_signed 103 = .ok (.ifCond .ne 7, 3) := by decide +kernel
theorem d_Numbers_signed_106 : decode b_Numbers_signed 106 = .ok (.lconst 0, 1) := by decide +kernel
theorem d_Numbers_signed_107 : decode b_Numbers_signed 107 = .ok (.goto 8, 3) := by decide +kernel
theorem d_Numbers_signed_110 : decode b_Numbers_signed 110 = .ok (.lload_n 1, 1) := by decide +kernel
theorem d_Numbers_signed_111 : decode b_Numbers_signed 111 = .ok (.lload_n 3, 1) := by decide +kernel
theorem d_Numbers_signed_112 : decode b_Numbers_signed 112 = .ok (.invokestatic 54, 3) := by decide +kernel
theorem d_Numbers_signed_115 : decode b_Numbers_signed 115 = .ok (.lreturn, 1) := by decide +kernel
theorem d_Numbers_signed_116 : decode b_Numbers_signed 116 = .ok (.lload_n 1, 1) := by decide +kernel
theorem d_Numbers_signed_117 : decode b_Numbers_signed 117 = .ok (.lload_n 3, 1) := by decide +kernel
theorem d_Numbers_signed_118 : decode b_Numbers_signed 118 = .ok (.lcmp, 1) := by decide +kernel
theorem d_Numbers_signed_119 : decode b_Numbers_signed 119 = .ok (.ifCond .ge 7, 3) := by decide +kernel
theorem d_Numbers_signed_122 : decode b_Numbers_signed 122 = .ok (.lconst 1, 1) := by decide +kernel
theorem d_Numbers_signed_123 : decode b_Numbers_signed 123 = .ok (.goto 4, 3) := by decide +kernel
theorem d_Numbers_signed_126 : decode b_Numbers_signed 126 = .ok (.lconst 0, 1) := by decide +kernel
theorem d_Numbers_signed_127 : decode b_Numbers_signed 127 = .ok (.lreturn, 1) := by decide +kernel
theorem d_Numbers_signed_128 : decode b_Numbers_signed 128 = .ok (.lload_n 1, 1) := by decide +kernel
theorem d_Numbers_signed_129 : decode b_Numbers_signed 129 = .ok (.lload_n 3, 1) := by decide +kernel
theorem d_Numbers_signed_130 : decode b_Numbers_signed 130 = .ok (.lcmp, 1) := by decide +kernel
theorem d_Numbers_signed_131 : decode b_Numbers_signed 131 = .ok (.ifCond .le 7, 3) := by decide +kernel
theorem d_Numbers_signed_134 : decode b_Numbers_signed 134 = .ok (.lconst 1, 1) := by decide +kernel
theorem d_Numbers_signed_135 : decode b_Numbers_signed 135 = .ok (.goto 4, 3) := by decide +kernel
theorem d_Numbers_signed_138 : decode b_Numbers_signed 138 = .ok (.lconst 0, 1) := by decide +kernel
theorem d_Numbers_signed_139 : decode b_Numbers_signed 139 = .ok (.lreturn, 1) := by decide +kernel
theorem d_Numbers_signed_140 : decode b_Numbers_signed 140 = .ok (.lload_n 1, 1) := by decide +kernel
theorem d_Numbers_signed_141 : decode b_Numbers_signed 141 = .ok (.lload_n 3, 1) := by decide +kernel
theorem d_Numbers_signed_142 : decode b_Numbers_signed 142 = .ok (.lcmp, 1) := by decide +kernel
theorem d_Numbers_signed_143 : decode b_Numbers_signed 143 = .ok (.ifCond .gt 7, 3) := by decide +kernel
theorem d_Numbers_signed_146 : decode b_Numbers_signed 146 = .ok (.lconst 1, 1) := by decide +kernel
theorem d_Numbers_signed_147 : decode b_Numbers_signed 147 = .ok (.goto 4, 3) := by decide +kernel
theorem d_Numbers_signed_150 : decode b_Numbers_signed 150 = .ok (.lconst 0, 1) := by decide +kernel
theorem d_Numbers_signed_151 : decode b_Numbers_signed 151 = .ok (.lreturn, 1) := by decide +kernel
theorem d_Numbers_signed_152 : decode b_Numbers_signed 152 = .ok (.lload_n 1, 1) := by decide +kernel
theorem d_Numbers_signed_153 : decode b_Numbers_signed 153 = .ok (.lload_n 3, 1) := by decide +kernel
theorem d_Numbers_signed_154 : decode b_Numbers_signed 154 = .ok (.lcmp, 1) := by decide +kernel
theorem d_Numbers_signed_155 : decode b_Numbers_signed 155 = .ok (.ifCond .lt 7, 3) := by decide +kernel
theorem d_Numbers_signed_158 : decode b_Numbers_signed 158 = .ok (.lconst 1, 1) := by decide +kernel
theorem d_Numbers_signed_159 : decode b_Numbers_signed 159 = .ok (.goto 4, 3) := by decide +kernel
theorem d_Numbers_signed_162 : decode b_Numbers_signed 162 = .ok (.lconst 0, 1) := by decide +kernel
theorem d_Numbers_signed_163 : decode b_Numbers_signed 163 = .ok (.lreturn, 1) := by decide +kernel
theorem d_Numbers_unsigned_0 : decode b_Numbers_unsigned 0 = .ok (.iload_n 0, 1) := by decide +kernel
theorem d_Numbers_unsigned_1 : decode b_Numbers_unsigned 1 = .ok (.tableswitch 128 11 18 #[47, 52, 57, 62, 77, 92, 104, 116], 47) := by decide +kernel
theorem d_Numbers_unsigned_48 : decode b_Numbers_unsigned 48 = .ok (.lload_n 1, 1) := by decide +kernel
theorem d_Numbers_unsigned_49 : decode b_Numbers_unsigned 49 = .ok (.lload_n 3, 1) := by decide +kernel
theorem d_Numbers_unsigned_50 : decode b_Numbers_unsigned 50 = .ok (.ladd, 1) := by decide +kernel
theorem d_Numbers_unsigned_51 : decode b_Numbers_unsigned 51 = .ok (.l2i, 1) := by decide +kernel
theorem d_Numbers_unsigned_52 : decode b_Numbers_unsigned 52 = .ok (.ireturn, 1) := by decide +kernel
theorem d_Numbers_unsigned_53 : decode b_Numbers_unsigned 53 = .ok (.lload_n 1, 1) := by decide +kernel
theorem d_Numbers_unsigned_54 : decode b_Numbers_unsigned 54 = .ok (.lload_n 3, 1) := by decide +kernel
theorem d_Numbers_unsigned_55 : decode b_Numbers_unsigned 55 = .ok (.lsub, 1) := by decide +kernel
theorem d_Numbers_unsigned_56 : decode b_Numbers_unsigned 56 = .ok (.l2i, 1) := by decide +kernel
theorem d_Numbers_unsigned_57 : decode b_Numbers_unsigned 57 = .ok (.ireturn, 1) := by decide +kernel
theorem d_Numbers_unsigned_58 : decode b_Numbers_unsigned 58 = .ok (.lload_n 1, 1) := by decide +kernel
theorem d_Numbers_unsigned_59 : decode b_Numbers_unsigned 59 = .ok (.lload_n 3, 1) := by decide +kernel
theorem d_Numbers_unsigned_60 : decode b_Numbers_unsigned 60 = .ok (.lmul, 1) := by decide +kernel
theorem d_Numbers_unsigned_61 : decode b_Numbers_unsigned 61 = .ok (.l2i, 1) := by decide +kernel
theorem d_Numbers_unsigned_62 : decode b_Numbers_unsigned 62 = .ok (.ireturn, 1) := by decide +kernel
theorem d_Numbers_unsigned_63 : decode b_Numbers_unsigned 63 = .ok (.lload_n 3, 1) := by decide +kernel
theorem d_Numbers_unsigned_64 : decode b_Numbers_unsigned 64 = .ok (.lconst 0, 1) := by decide +kernel
theorem d_Numbers_unsigned_65 : decode b_Numbers_unsigned 65 = .ok (.lcmp, 1) := by decide +kernel
theorem d_Numbers_unsigned_66 : decode b_Numbers_unsigned 66 = .ok (.ifCond .ne 7, 3) := by decide +kernel
theorem d_Numbers_unsigned_69 : decode b_Numbers_unsigned 69 = .ok (.iconst 0, 1) := by decide +kernel
theorem d_Numbers_unsigned_70 : decode b_Numbers_unsigned 70 = .ok (.goto 7, 3) := by decide +kernel
theorem d_Numbers_unsigned_73 : decode b_Numbers_unsigned 73 = .ok (.lload_n 1, 1) := by decide +kernel
theorem d_Numbers_unsigned_74 : decode b_Numbers_unsigned 74 = .ok (.lload_n 3, 1) := by decide +kernel
theorem d_Numbers_unsigned_75 : decode b_Numbers_unsigned 75 = .ok (.ldiv, 1) := by decide +kernel
theorem d_Numbers_unsigned_76 : decode b_Numbers_unsigned 76 = .ok (.l2i, 1) := by decide +kernel
theorem d_Numbers_unsigned_77 : decode b_Numbers_unsigned 77 = .ok (.ireturn, 1) := by decide +kernel
theorem d_Numbers_unsigned_78 : decode b_Numbers_unsigned 78 = .ok (.lload_n 3, 1) := by decide +kernel
theorem d_Numbers_unsigned_79 : decode b_Numbers_unsigned 79 = .ok (.lconst 0, 1) := by decide +kernel
theorem d_Numbers_unsigned_80 : decode b_Numbers_unsigned 80 = .ok (.lcmp, 1) := by decide +kernel
theorem d_Numbers_unsigned_81 : decode b_Numbers_unsigned 81 = .ok (.ifCond .ne 7, 3) := by decide +kernel
theorem d_Numbers_unsigned_84 : decode b_Numbers_unsigned 84 = .ok (.iconst 0, 1) := by decide +kernel
theorem d_Numbers_unsigned_85 : decode b_Numbers_unsigned 85 = .ok (.goto 7, 3) := by decide +kernel
theorem d_Numbers_unsigned_88 : decode b_Numbers_unsigned 88 = .ok (.lload_n 1, 1) := by decide +kernel
theorem d_Numbers_unsigned_89 : decode b_Numbers_unsigned 89 = .ok (.lload_n 3, 1) := by decide +kernel
theorem d_Numbers_unsigned_90 : decode b_Numbers_unsigned 90 = .ok (.lrem, 1) := by decide +kernel
theorem d_Numbers_unsigned_91 : decode b_Numbers_unsigned 91 = .ok (.l2i, 1) := by decide +kernel
theorem d_Numbers_unsigned_92 : decode b_Numbers_unsigned 92 = .ok (.ireturn, 1) := by decide +kernel
theorem d_Numbers_unsigned_93 : decode b_Numbers_unsigned 93 = .ok (.lload_n 1, 1) := by decide +kernel
theorem d_Numbers_unsigned_94 : decode b_Numbers_unsigned 94 = .ok (.lload_n 3, 1) := by decide +kernel
theorem d_Numbers_unsigned_95 : decode b_Numbers_unsigned 95 = .ok (.lcmp, 1) := by decide +kernel
theorem d_Numbers_unsigned_96 : decode b_Numbers_unsigned 96 = .ok (.ifCond .ge 7, 3) := by decide +kernel
theorem d_Numbers_unsigned_99 : decode b_Numbers_unsigned 99 = .ok (.iconst 1, 1) := by decide +kernel
theorem d_Numbers_unsigned_100 : decode b_Numbers_unsigned 100 = .ok (.goto 4, 3) := by decide +kernel
theorem d_Numbers_unsigned_103 : decode b_Numbers_unsigned 103 = .ok (.iconst 0, 1) := by decide +kernel
theorem d_Numbers_unsigned_104 : decode b_Numbers_unsigned 104 = .ok (.ireturn, 1) := by decide +kernel
theorem d_Numbers_unsigned_105 : decode b_Numbers_unsigned 105 = .ok (.lload_n 1, 1) := by decide +kernel
theorem d_Numbers_unsigned_106 : decode b_Numbers_unsigned 106 = .ok (.lload_n 3, 1) := by decide +kernel
theorem d_Numbers_unsigned_107 : decode b_Numbers_unsigned 107 = .ok (.lcmp, 1) := by decide +kernel
theorem d_Numbers_unsigned_108 : decode b_Numbers_unsigned 108 = .ok (.ifCond .le 7, 3) := by decide +kernel
theorem d_Numbers_unsigned_111 : decode b_Numbers_unsigned 111 = .ok (.iconst 1, 1) := by decide +kernel
theorem d_Numbers_unsigned_112 : decode b_Numbers_unsigned 112 = .ok (.goto 4, 3) := by decide +kernel
theorem d_Numbers_unsigned_115 : decode b_Numbers_unsigned 115 = .ok (.iconst 0, 1) := by decide +kernel
theorem d_Numbers_unsigned_116 : decode b_Numbers_unsigned 116 = .ok (.ireturn, 1) := by decide +kernel
theorem d_Numbers_unsigned_117 : decode b_Numbers_unsigned 117 = .ok (.lload_n 1, 1) := by decide +kernel
theorem d_Numbers_unsigned_118 : decode b_Numbers_unsigned 118 = .ok (.lload_n 3, 1) := by decide +kernel
theorem d_Numbers_unsigned_119 : decode b_Numbers_unsigned 119 = .ok (.lcmp, 1) := by decide +kernel
theorem d_Numbers_unsigned_120 : decode b_Numbers_unsigned 120 = .ok (.ifCond .gt 7, 3) := by decide +kernel
theorem d_Numbers_unsigned_123 : decode b_Numbers_unsigned 123 = .ok (.iconst 1, 1) := by decide +kernel
theorem d_Numbers_unsigned_124 : decode b_Numbers_unsigned 124 = .ok (.goto 4, 3) := by decide +kernel
theorem d_Numbers_unsigned_127 : decode b_Numbers_unsigned 127 = .ok (.iconst 0, 1) := by decide +kernel
theorem d_Numbers_unsigned_128 : decode b_Numbers_unsigned 128 = .ok (.ireturn, 1) := by decide +kernel
theorem d_Numbers_unsigned_129 : decode b_Numbers_unsigned 129 = .ok (.lload_n 1, 1) := by decide +kernel
theorem d_Numbers_unsigned_130 : decode b_Numbers_unsigned 130 = .ok (.lload_n 3, 1) := by decide +kernel
theorem d_Numbers_unsigned_131 : decode b_Numbers_unsigned 131 = .ok (.lcmp, 1) := by decide +kernel
theorem d_Numbers_unsigned_132 : decode b_Numbers_unsigned 132 = .ok (.ifCond .lt 7, 3) := by decide +kernel
theorem d_Numbers_unsigned_135 : decode b_Numbers_unsigned 135 = .ok (.iconst 1, 1) := by decide +kernel
theorem d_Numbers_unsigned_136 : decode b_Numbers_unsigned 136 = .ok (.goto 4, 3) := by decide +kernel
theorem d_Numbers_unsigned_139 : decode b_Numbers_unsigned 139 = .ok (.iconst 0, 1) := by decide +kernel
theorem d_Numbers_unsigned_140 : decode b_Numbers_unsigned 140 = .ok (.ireturn, 1) := by decide +kernel
theorem d_Numbers_bits_0 : decode b_Numbers_bits 0 = .ok (.iload_n 2, 1) := by decide +kernel
theorem d_Numbers_bits_1 : decode b_Numbers_bits 1 = .ok (.ifCond .lt 13, 3) := by decide +kernel
theorem d_Numbers_bits_4 : decode b_Numbers_bits 4 = .ok (.iload_n 2, 1) := by decide +kernel
theorem d_Numbers_bits_5 : decode b_Numbers_bits 5 = .ok (.bipush 32, 2) := by decide +kernel
theorem d_Numbers_bits_7 : decode b_Numbers_bits 7 = .ok (.if_icmp .ge 7, 3) := by decide +kernel
theorem d_Numbers_bits_10 : decode b_Numbers_bits 10 = .ok (.iconst 1, 1) := by decide +kernel
theorem d_Numbers_bits_11 : decode b_Numbers_bits 11 = .ok (.goto 4, 3) := by decide +kernel
theorem d_Numbers_bits_14 : decode b_Numbers_bits 14 = .ok (.iconst 0, 1) := by decide +kernel
theorem d_Numbers_bits_15 : decode b_Numbers_bits 15 = .ok (.istore_n 3, 1) := by decide +kernel
theorem d_Numbers_bits_16 : decode b_Numbers_bits 16 = .ok (.iload_n 0, 1) := by decide +kernel
theorem d_Numbers_bits_17 : decode b_Numbers_bits 17 = .ok (.tableswitch 63 20 24 #[35, 39, 43, 47, 51], 35) := by decide +kernel
theorem d_Numbers_bits_52 : decode b_Numbers_bits 52 = .ok (.iload_n 1, 1) := by decide +kernel
theorem d_Numbers_bits_53 : decode b_Numbers_bits 53 = .ok (.iload_n 2, 1) := by decide +kernel
theorem d_Numbers_bits_54 : decode b_Numbers_bits 54 = .ok (.iand, 1) := by decide +kernel
theorem d_Numbers_bits_55 : decode b_Numbers_bits 55 = .ok (.ireturn, 1) := by decide +kernel
theorem d_Numbers_bits_56 : decode b_Numbers_bits 56 = .ok (.iload_n 1, 1) := by decide +kernel
theorem d_Numbers_bits_57 : decode b_Numbers_bits 57 = .ok (.iload_n 2, 1) := by decide +kernel
theorem d_Numbers_bits_58 : decode b_Numbers_bits 58 = .ok (.ior, 1) := by decide +kernel
theorem d_Numbers_bits_59 : decode b_Numbers_bits 59 = .ok (.ireturn, 1) := by decide +kernel
theorem d_Numbers_bits_60 : decode b_Numbers_bits 60 = .ok (.iload_n 1, 1) := by decide +kernel
theorem d_Numbers_bits_61 : decode b_Numbers_bits 61 = .ok (.iload_n 2, 1) := by decide +kernel
theorem d_Numbers_bits_62 : decode b_Numbers_bits 62 = .ok (.ixor, 1) := by decide +kernel
theorem d_Numbers_bits_63 : decode b_Numbers_bits 63 = .ok (.ireturn, 1) := by decide +kernel
theorem d_Numbers_bits_64 : decode b_Numbers_bits 64 = .ok (.iload_n 1, 1) := by decide +kernel
theorem d_Numbers_bits_65 : decode b_Numbers_bits 65 = .ok (.iconst (-1), 1) := by decide +kernel
theorem d_Numbers_bits_66 : decode b_Numbers_bits 66 = .ok (.ixor, 1) := by decide +kernel
theorem d_Numbers_bits_67 : decode b_Numbers_bits 67 = .ok (.ireturn, 1) := by decide +kernel
theorem d_Numbers_bits_68 : decode b_Numbers_bits 68 = .ok (.iload_n 3, 1) := by decide +kernel
theorem d_Numbers_bits_69 : decode b_Numbers_bits 69 = .ok (.ifCond .eq 9, 3) := by decide +kernel
theorem d_Numbers_bits_72 : decode b_Numbers_bits 72 = .ok (.iload_n 1, 1) := by decide +kernel
theorem d_Numbers_bits_73 : decode b_Numbers_bits 73 = .ok (.iload_n 2, 1) := by decide +kernel
theorem d_Numbers_bits_74 : decode b_Numbers_bits 74 = .ok (.ishl, 1) := by decide +kernel
theorem d_Numbers_bits_75 : decode b_Numbers_bits 75 = .ok (.goto 4, 3) := by decide +kernel
theorem d_Numbers_bits_78 : decode b_Numbers_bits 78 = .ok (.iconst 0, 1) := by decide +kernel
theorem d_Numbers_bits_79 : decode b_Numbers_bits 79 = .ok (.ireturn, 1) := by decide +kernel
theorem d_Numbers_bits_80 : decode b_Numbers_bits 80 = .ok (.iload_n 3, 1) := by decide +kernel
theorem d_Numbers_bits_81 : decode b_Numbers_bits 81 = .ok (.ifCond .eq 9, 3) := by decide +kernel
theorem d_Numbers_bits_84 : decode b_Numbers_bits 84 = .ok (.iload_n 1, 1) := by decide +kernel
theorem d_Numbers_bits_85 : decode b_Numbers_bits 85 = .ok (.iload_n 2, 1) := by decide +kernel
theorem d_Numbers_bits_86 : decode b_Numbers_bits 86 = .ok (.iushr, 1) := by decide +kernel
theorem d_Numbers_bits_87 : decode b_Numbers_bits 87 = .ok (.goto 4, 3) := by decide +kernel
theorem d_Numbers_bits_90 : decode b_Numbers_bits 90 = .ok (.iconst 0, 1) := by decide +kernel
theorem d_Numbers_bits_91 : decode b_Numbers_bits 91 = .ok (.ireturn, 1) := by decide +kernel
theorem d_Numbers_apply_0 : decode b_Numbers_apply 0 = .ok (.aload_n 0, 1) := by decide +kernel
theorem d_Numbers_apply_1 : decode b_Numbers_apply 1 = .ok (.getfield 7, 3) := by decide +kernel
theorem d_Numbers_apply_4 : decode b_Numbers_apply 4 = .ok (.iconst 0, 1) := by decide +kernel
theorem d_Numbers_apply_5 : decode b_Numbers_apply 5 = .ok (.invokevirtual 13, 3) := by decide +kernel
theorem d_Numbers_apply_8 : decode b_Numbers_apply 8 = .ok (.invokestatic 19, 3) := by decide +kernel
theorem d_Numbers_apply_11 : decode b_Numbers_apply 11 = .ok (.istore_n 3, 1) := by decide +kernel
theorem d_Numbers_apply_12 : decode b_Numbers_apply 12 = .ok (.aload_n 0, 1) := by decide +kernel
theorem d_Numbers_apply_13 : decode b_Numbers_apply 13 = .ok (.getfield 7, 3) := by decide +kernel
theorem d_Numbers_apply_16 : decode b_Numbers_apply 16 = .ok (.iload_n 2, 1) := by decide +kernel
theorem d_Numbers_apply_17 : decode b_Numbers_apply 17 = .ok (.iconst 1, 1) := by decide +kernel
theorem d_Numbers_apply_18 : decode b_Numbers_apply 18 = .ok (.isub, 1) := by decide +kernel
theorem d_Numbers_apply_19 : decode b_Numbers_apply 19 = .ok (.invokevirtual 13, 3) := by decide +kernel
theorem d_Numbers_apply_22 : decode b_Numbers_apply 22 = .ok (.invokestatic 19, 3) := by decide +kernel
theorem d_Numbers_apply_25 : decode b_Numbers_apply 25 = .ok (.istore 4, 2) := by decide +kernel
theorem d_Numbers_apply_27 : decode b_Numbers_apply 27 = .ok (.iload_n 3, 1) := by decide +kernel
theorem d_Numbers_apply_28 : decode b_Numbers_apply 28 = .ok (.ifCond .ne 29, 3) := by decide +kernel
theorem d_Numbers_apply_31 : decode b_Numbers_apply 31 = .ok (.iload_n 1, 1) := by decide +kernel
theorem d_Numbers_apply_32 : decode b_Numbers_apply 32 = .ok (.iconst 5, 1) := by decide +kernel
theorem d_Numbers_apply_33 : decode b_Numbers_apply 33 = .ok (.if_icmp .eq 21, 3) := by decide +kernel
theorem d_Numbers_apply_36 : decode b_Numbers_apply 36 = .ok (.iload_n 1, 1) := by decide +kernel
theorem d_Numbers_apply_37 : decode b_Numbers_apply 37 = .ok (.bipush 6, 2) := by decide +kernel
theorem d_Numbers_apply_39 : decode b_Numbers_apply 39 = .ok (.if_icmp .eq 15, 3) := by decide +kernel
theorem d_Numbers_apply_42 : decode b_Numbers_apply 42 = .ok (.iload_n 1, 1) := by decide +kernel
theorem d_Numbers_apply_43 : decode b_Numbers_apply 43 = .ok (.bipush 14, 2) := by decide +kernel
theorem d_Numbers_apply_45 : decode b_Numbers_apply 45 = .ok (.if_icmp .eq 9, 3) := by decide +kernel
theorem d_Numbers_apply_48 : decode b_Numbers_apply 48 = .ok (.iload_n 1, 1) := by decide +kernel
theorem d_Numbers_apply_49 : decode b_Numbers_apply 49 = .ok (.bipush 15, 2) := by decide +kernel
theorem d_Numbers_apply_51 : decode b_Numbers_apply 51 = .ok (.if_icmp .ne 6, 3) := by decide +kernel
theorem d_Numbers_apply_54 : decode b_Numbers_apply 54 = .ok (.bipush 19, 2) := by decide +kernel
theorem d_Numbers_apply_56 : decode b_Numbers_apply 56 = .ok (.ireturn, 1) := by decide +kernel
theorem d_Numbers_apply_57 : decode b_Numbers_apply 57 = .ok (.iload_n 1, 1) := by decide +kernel
theorem d_Numbers_apply_58 : decode b_Numbers_apply 58 = .ok (.bipush 10, 2) := by decide +kernel
theorem d_Numbers_apply_60 : decode b_Numbers_apply 60 = .ok (.if_icmp .gt 15, 3) := by decide +kernel
theorem d_Numbers_apply_63 : decode b_Numbers_apply 63 = .ok (.iload_n 1, 1) := by decide +kernel
theorem d_Numbers_apply_64 : decode b_Numbers_apply 64 = .ok (.iload 4, 2) := by decide +kernel
theorem d_Numbers_apply_66 : decode b_Numbers_apply 66 = .ok (.i2l, 1) := by decide +kernel
theorem d_Numbers_apply_67 : decode b_Numbers_apply 67 = .ok (.iload_n 3, 1) := by decide +kernel
theorem d_Numbers_apply_68 : decode b_Numbers_apply 68 = .ok (.i2l, 1) := by decide +kernel
theorem d_Numbers_apply_69 : decode b_Numbers_apply 69 = .ok (.invokestatic 27, 3) := by decide +kernel
theorem d_Numbers_apply_72 : decode b_Numbers_apply 72 = .ok (.goto 54, 3) := by decide +kernel
theorem d_Numbers_apply_75 : decode b_Numbers_apply 75 = .ok (.iload_n 1, 1) := by decide +kernel
theorem d_Numbers_apply_76 : decode b_Numbers_apply 76 = .ok (.bipush 26, 2) := by decide +kernel
theorem d_Numbers_apply_78 : decode b_Numbers_apply 78 = .ok (.if_icmp .ne 13, 3) := by decide +kernel
theorem d_Numbers_apply_81 : decode b_Numbers_apply 81 = .ok (.iload 4, 2) := by decide +kernel
theorem d_Numbers_apply_83 : decode b_Numbers_apply 83 = .ok (.i2l, 1) := by decide +kernel
theorem d_Numbers_apply_84 : decode b_Numbers_apply 84 = .ok (.ldc2_w 31, 3) := by decide +kernel
theorem d_Numbers_apply_87 : decode b_Numbers_apply 87 = .ok (.land, 1) := by decide +kernel
theorem d_Numbers_apply_88 : decode b_Numbers_apply 88 = .ok (.goto 38, 3) := by decide +kernel
theorem d_Numbers_apply_91 : decode b_Numbers_apply 91 = .ok (.iload_n 1, 1) := by decide +kernel
theorem d_Numbers_apply_92 : decode b_Numbers_apply 92 = .ok (.bipush 19, 2) := by decide +kernel
theorem d_Numbers_apply_94 : decode b_Numbers_apply 94 = .ok (.if_icmp .gt 24, 3) := by decide +kernel
theorem d_Numbers_apply_97 : decode b_Numbers_apply 97 = .ok (.iload_n 1, 1) := by decide +kernel
theorem d_Numbers_apply_98 : decode b_Numbers_apply 98 = .ok (.iload 4, 2) := by decide +kernel
theorem d_Numbers_apply_100 : decode b_Numbers_apply 100 = .ok (.i2l, 1) := by decide +kernel
theorem d_Numbers_apply_101 : decode b_Numbers_apply 101 = .ok (.ldc2_w 31, 3) := by decide +kernel
theorem d_Numbers_apply_104 : decode b_Numbers_apply 104 = .ok (.land, 1) := by decide +kernel
theorem d_Numbers_apply_105 : decode b_Numbers_apply 105 = .ok (.iload_n 3, 1) := by decide +kernel
theorem d_Numbers_apply_106 : decode b_Numbers_apply 106 = .ok (.i2l, 1) := by decide +kernel
theorem d_Numbers_apply_107 : decode b_Numbers_apply 107 = .ok (.ldc2_w 31, 3) := by decide +kernel
theorem d_Numbers_apply_110 : decode b_Numbers_apply 110 = .ok (.land, 1) := by decide +kernel
theorem d_Numbers_apply_111 : decode b_Numbers_apply 111 = .ok (.invokestatic 33, 3) := by decide +kernel
theorem d_Numbers_apply_114 : decode b_Numbers_apply 114 = .ok (.i2l, 1) := by decide +kernel
theorem d_Numbers_apply_115 : decode b_Numbers_apply 115 = .ok (.goto 11, 3) := by decide +kernel
theorem d_Numbers_apply_118 : decode b_Numbers_apply 118 = .ok (.iload_n 1, 1) := by decide +kernel
theorem d_Numbers_apply_119 : decode b_Numbers_apply 119 = .ok (.iload 4, 2) := by decide +kernel
theorem d_Numbers_apply_121 : decode b_Numbers_apply 121 = .ok (.iload_n 3, 1) := by decide +kernel
theorem d_Numbers_apply_122 : decode b_Numbers_apply 122 = .ok (.invokestatic 37, 3) := by decide +kernel
theorem d_Numbers_apply_125 : decode b_Numbers_apply 125 = .ok (.i2l, 1) := by decide +kernel
theorem d_Numbers_apply_126 : decode b_Numbers_apply 126 = .ok (.lstore 5, 2) := by decide +kernel
theorem d_Numbers_apply_128 : decode b_Numbers_apply 128 = .ok (.lload 5, 2) := by decide +kernel
theorem d_Numbers_apply_130 : decode b_Numbers_apply 130 = .ok (.lload 5, 2) := by decide +kernel
theorem d_Numbers_apply_132 : decode b_Numbers_apply 132 = .ok (.l2i, 1) := by decide +kernel
theorem d_Numbers_apply_133 : decode b_Numbers_apply 133 = .ok (.i2l, 1) := by decide +kernel
theorem d_Numbers_apply_134 : decode b_Numbers_apply 134 = .ok (.lcmp, 1) := by decide +kernel
theorem d_Numbers_apply_135 : decode b_Numbers_apply 135 = .ok (.ifCond .eq 6, 3) := by decide +kernel
theorem d_Numbers_apply_138 : decode b_Numbers_apply 138 = .ok (.bipush 18, 2) := by decide +kernel
theorem d_Numbers_apply_140 : decode b_Numbers_apply 140 = .ok (.ireturn, 1) := by decide +kernel
theorem d_Numbers_apply_141 : decode b_Numbers_apply 141 = .ok (.aload_n 0, 1) := by decide +kernel
theorem d_Numbers_apply_142 : decode b_Numbers_apply 142 = .ok (.getfield 7, 3) := by decide +kernel
theorem d_Numbers_apply_145 : decode b_Numbers_apply 145 = .ok (.iload_n 2, 1) := by decide +kernel
theorem d_Numbers_apply_146 : decode b_Numbers_apply 146 = .ok (.lload 5, 2) := by decide +kernel
theorem d_Numbers_apply_148 : decode b_Numbers_apply 148 = .ok (.l2i, 1) := by decide +kernel
theorem d_Numbers_apply_149 : decode b_Numbers_apply 149 = .ok (.invokestatic 41, 3) := by decide +kernel
theorem d_Numbers_apply_152 : decode b_Numbers_apply 152 = .ok (.invokevirtual 44, 3) := by decide +kernel
theorem d_Numbers_apply_155 : decode b_Numbers_apply 155 = .ok (.ireturn, 1) := by decide +kernel
theorem k288 : Cond.code y_Math_floorDiv b_Math_floorDiv 6 (some .long) ∈ lw_g := kg (List.mem_append_right _ (List.mem_of_getElem? (i := 809) (by decide +kernel))) rfl
theorem k289 : Cond.methodLink R_Numbers 48 y_Math_floorDiv ∈ lw_g := kg (List.mem_append_right _ (List.mem_of_getElem? (i := 807) (by decide +kernel))) rfl
theorem k290 : Cond.static y_Math_floorDiv ∈ lw_g := kg (List.mem_append_right _ (List.mem_of_getElem? (i := 808) (by decide +kernel))) rfl
theorem k291 : Cond.code y_Math_floorMod b_Math_floorMod 6 (some .long) ∈ lw_g := kg (List.mem_append_right _ (List.mem_of_getElem? (i := 812) (by decide +kernel))) rfl
theorem k292 : Cond.methodLink R_Numbers 54 y_Math_floorMod ∈ lw_g := kg (List.mem_append_right _ (List.mem_of_getElem? (i := 810) (by decide +kernel))) rfl
theorem k293 : Cond.static y_Math_floorMod ∈ lw_g := kg (List.mem_append_right _ (List.mem_of_getElem? (i := 811) (by decide +kernel))) rfl
theorem k294 : Cond.fieldLink R_Numbers 7 "CellEngine$Numbers" "stacks" "LCellEngine$Stacks;" ∈ lw_g := kg (List.mem_append_right _ (List.mem_of_getElem? (i := 263) (by decide +kernel))) rfl
theorem k295 : Cond.constantLong R_Numbers 31 4294967295 ∈ lw_g := kg (List.mem_append_right _ (List.mem_of_getElem? (i := 813) (by decide +kernel))) rfl
theorem k296 : Cond.methodLink R_Numbers 13 y_Stacks_peek ∈ lw_g := kg (List.mem_append_right _ (List.mem_of_getElem? (i := 802) (by decide +kernel))) rfl
theorem k297 : Cond.methodLink R_Numbers 19 y_Value_number ∈ lw_g := kg (List.mem_append_right _ (List.mem_of_getElem? (i := 803) (by decide +kernel))) rfl
theorem k298 : Cond.code y_Numbers_bits b_Numbers_bits 4 (some .int) ∈ lw_g := kg (List.mem_append_right _ (List.mem_of_getElem? (i := 819) (by decide +kernel))) rfl
theorem k299 : Cond.methodLink R_Numbers 37 y_Numbers_bits ∈ lw_g := kg (List.mem_append_right _ (List.mem_of_getElem? (i := 817) (by decide +kernel))) rfl
theorem k300 : Cond.static y_Numbers_bits ∈ lw_g := kg (List.mem_append_right _ (List.mem_of_getElem? (i := 818) (by decide +kernel))) rfl
theorem k301 : Cond.initialized R_Numbers ∈ lw_g := kg (List.mem_append_right _ (List.mem_of_getElem? (i := 9) (by decide +kernel))) rfl
theorem k302 : Cond.code y_Numbers_unsigned b_Numbers_unsigned 5 (some .int) ∈ lw_g := kg (List.mem_append_right _ (List.mem_of_getElem? (i := 816) (by decide +kernel))) rfl
theorem k303 : Cond.methodLink R_Numbers 33 y_Numbers_unsigned ∈ lw_g := kg (List.mem_append_right _ (List.mem_of_getElem? (i := 814) (by decide +kernel))) rfl
theorem k304 : Cond.static y_Numbers_unsigned ∈ lw_g := kg (List.mem_append_right _ (List.mem_of_getElem? (i := 815) (by decide +kernel))) rfl
theorem k305 : Cond.code y_Numbers_signed b_Numbers_signed 5 (some .long) ∈ lw_g := kg (List.mem_append_right _ (List.mem_of_getElem? (i := 806) (by decide +kernel))) rfl
theorem k306 : Cond.methodLink R_Numbers 27 y_Numbers_signed ∈ lw_g := kg (List.mem_append_right _ (List.mem_of_getElem? (i := 804) (by decide +kernel))) rfl
theorem k307 : Cond.static y_Numbers_signed ∈ lw_g := kg (List.mem_append_right _ (List.mem_of_getElem? (i := 805) (by decide +kernel))) rfl
theorem k308 : Cond.methodLink R_Numbers 41 y_Value_scalar ∈ lw_g := kg (List.mem_append_right _ (List.mem_of_getElem? (i := 820) (by decide +kernel))) rfl
theorem k309 : Cond.methodLink R_Numbers 44 y_Stacks_replace ∈ lw_g := kg (List.mem_append_right _ (List.mem_of_getElem? (i := 821) (by decide +kernel))) rfl
set_option maxHeartbeats 4000000 in
set_option maxRecDepth 100000 in
theorem c_Numbers_signed (l : Launch) (dC : Nat → ClassId) (dI : Nat → Nat → Nat) (N : Nat) (p0 : Int32) (p1 : Int64) (p2 : Int64) (z : Int64) (h : m_Numbers_signed N p0 p1 p2 = some z) : Met l y_Numbers_signed (.code y_Numbers_signed b_Numbers_signed 5 (some .long) :: lw_g) ({ frames := 1, cells := 0, slots := 0, locals := 25 }) (va_Pc [.int p0, .long p1, .long p2] (fun U => dz_N U ∧ va_P (dC, dI) classes [] U.heap ∧ va_K (dC, dI) classes [] U)) (vp_Sl (fun r => r = z)) 0 0 (fun _ => False) := by
  refine Met.ofW (cc := b_Numbers_signed) (maxL := 5) (ret := (some .long)) (by decide +kernel) rfl ?_
  intro p e s m args below meth c s₁ B hml hv
  obtain ⟨rfl, hN, hP, hK⟩ := hv
  have hx := B.exec
  have hb := B.bytes
  have hr := B.returns
  have hg : ∀ w ∈ lw_g, w.before _ s = true := fun w hw => atoms_spec (ws := .code y_Numbers_signed b_Numbers_signed 5 (some .long) :: lw_g) B.pre w (List.mem_cons_of_mem _ hw)
  have hown : s.vm.findClass R_Numbers = some m.cls := findClass_of_methodNamed B.named
  have hlocks := B.notSynchronized
  clear B
  have hP : va_P (dC, dI) classes [] s.heap := hP
  have hl := lv_entry ([.int p0, .long p1, .long p2]) (n := 5) (Nat.le_of_ble_eq_true rfl)
  rw [lg_entry_eq]
  generalize (lg_sl ([.int p0, .long p1, .long p2]) ++ List.replicate (5 - (lg_sl ([.int p0, .long p1, .long p2])).length) Slot.unset).toArray = ls at hl ⊢
  have hl : lv_has ls 5 [(0, .int p0), (1, .long p1), (3, .long p2)] := hl
  unfold m_Numbers_signed at h
  refine lv_iload_n hx hb d_Numbers_signed_0 rfl (lv_at hl 0 rfl) ?_
  by_cases s1_0 : p0 = 0
  · rw [if_pos s1_0] at h
    refine lv_tableIn (off := 55) (tgt := 56) hx hb d_Numbers_signed_1 (by rw [s1_0]; decide) (by rw [s1_0]; decide) (by rw [s1_0]; decide) (by decide) ?_
    refine lv_lload_n hx hb d_Numbers_signed_56 rfl (lv_at hl 1 rfl) ?_
    refine lv_lload_n hx hb d_Numbers_signed_57 rfl (lv_at hl 2 rfl) ?_
    refine lv_ladd hx hb d_Numbers_signed_58 ?_
    obtain rfl := Option.some.inj h
    exact W.lret (v := p1 + p2) hx hb hr (fun t ht hW => ⟨_, rfl, rfl, ht⟩) (fun _ h => by cases h) d_Numbers_signed_59
  rw [if_neg s1_0] at h
  by_cases s1_1 : p0 = 1
  · rw [if_pos s1_1] at h
    refine lv_tableIn (off := 59) (tgt := 60) hx hb d_Numbers_signed_1 (by rw [s1_1]; decide) (by rw [s1_1]; decide) (by rw [s1_1]; decide) (by decide) ?_
    refine lv_lload_n hx hb d_Numbers_signed_60 rfl (lv_at hl 1 rfl) ?_
    refine lv_lload_n hx hb d_Numbers_signed_61 rfl (lv_at hl 2 rfl) ?_
    refine lv_lsub hx hb d_Numbers_signed_62 ?_
    obtain rfl := Option.some.inj h
    exact W.lret (v := p1 - p2) hx hb hr (fun t ht hW => ⟨_, rfl, rfl, ht⟩) (fun _ h => by cases h) d_Numbers_signed_63
  rw [if_neg s1_1] at h
  by_cases s1_2 : p0 = 2
  · rw [if_pos s1_2] at h
    refine lv_tableIn (off := 63) (tgt := 64) hx hb d_Numbers_signed_1 (by rw [s1_2]; decide) (by rw [s1_2]; decide) (by rw [s1_2]; decide) (by decide) ?_
    refine lv_lload_n hx hb d_Numbers_signed_64 rfl (lv_at hl 1 rfl) ?_
    refine lv_lload_n hx hb d_Numbers_signed_65 rfl (lv_at hl 2 rfl) ?_
    refine lv_lmul hx hb d_Numbers_signed_66 ?_
    obtain rfl := Option.some.inj h
    exact W.lret (v := p1 * p2) hx hb hr (fun t ht hW => ⟨_, rfl, rfl, ht⟩) (fun _ h => by cases h) d_Numbers_signed_67
  rw [if_neg s1_2] at h
  by_cases s1_3 : p0 = 3
  · rw [if_pos s1_3] at h
    refine lv_tableIn (off := 67) (tgt := 68) hx hb d_Numbers_signed_1 (by rw [s1_3]; decide) (by rw [s1_3]; decide) (by rw [s1_3]; decide) (by decide) ?_
    refine lv_lload_n hx hb d_Numbers_signed_68 rfl (lv_at hl 1 rfl) ?_
    refine lv_lneg hx hb d_Numbers_signed_69 ?_
    obtain rfl := Option.some.inj h
    exact W.lret (v := -p1) hx hb hr (fun t ht hW => ⟨_, rfl, rfl, ht⟩) (fun _ h => by cases h) d_Numbers_signed_70
  rw [if_neg s1_3] at h
  by_cases s1_4 : p0 = 4
  · rw [if_pos s1_4] at h
    refine lv_tableIn (off := 70) (tgt := 71) hx hb d_Numbers_signed_1 (by rw [s1_4]; decide) (by rw [s1_4]; decide) (by rw [s1_4]; decide) (by decide) ?_
    refine lv_lload_n hx hb d_Numbers_signed_71 rfl (lv_at hl 1 rfl) ?_
    refine lv_lconst (v := 0) hx hb d_Numbers_signed_72 (by decide) ?_
    refine W.lcmp hx hb d_Numbers_signed_73 ?_
    refine lv_if_ge (tgt := 82) hx hb d_Numbers_signed_74 (by decide) (fun c2 => ?_) (fun c2 => ?_)
    · rw [if_pos c2] at h
      refine lv_lload_n hx hb d_Numbers_signed_82 rfl (lv_at hl 1 rfl) ?_
      obtain rfl := Option.some.inj h
      exact W.lret (v := p1) hx hb hr (fun t ht hW => ⟨_, rfl, rfl, ht⟩) (fun _ h => by cases h) d_Numbers_signed_83
    · rw [if_neg c2] at h
      refine lv_lload_n hx hb d_Numbers_signed_77 rfl (lv_at hl 1 rfl) ?_
      refine lv_lneg hx hb d_Numbers_signed_78 ?_
      refine lv_goto (tgt := 83) hx hb d_Numbers_signed_79 (by decide) ?_
      obtain rfl := Option.some.inj h
      exact W.lret (v := -p1) hx hb hr (fun t ht hW => ⟨_, rfl, rfl, ht⟩) (fun _ h => by cases h) d_Numbers_signed_83
  rw [if_neg s1_4] at h
  by_cases s1_5 : p0 = 5
  · rw [if_pos s1_5] at h
    refine lv_tableIn (off := 83) (tgt := 84) hx hb d_Numbers_signed_1 (by rw [s1_5]; decide) (by rw [s1_5]; decide) (by rw [s1_5]; decide) (by decide) ?_
    refine lv_lload_n hx hb d_Numbers_signed_84 rfl (lv_at hl 2 rfl) ?_
    refine lv_lconst (v := 0) hx hb d_Numbers_signed_85 (by decide) ?_
    refine W.lcmp hx hb d_Numbers_signed_86 ?_
    refine lv_if_ne (tgt := 94) hx hb d_Numbers_signed_87 (by decide) (fun c3 => ?_) (fun c3 => ?_)
    · rw [if_neg c3] at h
      refine lv_lload_n hx hb d_Numbers_signed_94 rfl (lv_at hl 1 rfl) ?_
      refine lv_lload_n hx hb d_Numbers_signed_95 rfl (lv_at hl 2 rfl) ?_
      obtain ⟨z4_1, hc4, h⟩ := dz_ob h
      try dsimp only at h
      have hPc := hP.sub (ws' := []) [] rfl
      have hKc := hK.sub (tys' := []) [] rfl
      refine vp_callSl (va_Run.run (va_runS (As := [.long p1, .long p2]) (rest := []) ⟨hx, hb, hml, hown, hg⟩ (c_Math_floorDiv l dC dI N p1 p2 z4_1 hc4) (va_cwS 2 hg (gd_S k289 k290 k7 k288) rfl rfl rfl (by decide +kernel) ⟨Nat.le_of_ble_eq_true rfl, Nat.le_of_ble_eq_true rfl⟩) ⟨dz_blindR, fun U hU hW => ⟨rfl, dz_Nw hW hN, by rw [hU]; exact hPc, va_K.moved hW.alike hKc⟩⟩ rfl rfl hl.1 rfl (lv_room (Nat.le_of_ble_eq_true rfl)) d_Numbers_signed_96 ⟨Nat.le_of_ble_eq_true rfl, Nat.le_of_ble_eq_true rfl⟩)) (fun r4 hw => ?_)
      have hw : z4_1 = r4 := hw.symm
      subst hw
      obtain rfl := Option.some.inj h
      exact W.lret (v := z4_1) hx hb hr (fun t ht hW => ⟨_, rfl, rfl, ht⟩) (fun _ h => by cases h) d_Numbers_signed_99
    · rw [if_pos c3] at h
      refine lv_lconst (v := 0) hx hb d_Numbers_signed_90 (by decide) ?_
      refine lv_goto (tgt := 99) hx hb d_Numbers_signed_91 (by decide) ?_
      obtain rfl := Option.some.inj h
      exact W.lret (v := 0) hx hb hr (fun t ht hW => ⟨_, rfl, rfl, ht⟩) (fun _ h => by cases h) d_Numbers_signed_99
  rw [if_neg s1_5] at h
  by_cases s1_6 : p0 = 6
  · rw [if_pos s1_6] at h
    refine lv_tableIn (off := 99) (tgt := 100) hx hb d_Numbers_signed_1 (by rw [s1_6]; decide) (by rw [s1_6]; decide) (by rw [s1_6]; decide) (by decide) ?_
    refine lv_lload_n hx hb d_Numbers_signed_100 rfl (lv_at hl 2 rfl) ?_
    refine lv_lconst (v := 0) hx hb d_Numbers_signed_101 (by decide) ?_
    refine W.lcmp hx hb d_Numbers_signed_102 ?_
    refine lv_if_ne (tgt := 110) hx hb d_Numbers_signed_103 (by decide) (fun c5 => ?_) (fun c5 => ?_)
    · rw [if_neg c5] at h
      refine lv_lload_n hx hb d_Numbers_signed_110 rfl (lv_at hl 1 rfl) ?_
      refine lv_lload_n hx hb d_Numbers_signed_111 rfl (lv_at hl 2 rfl) ?_
      obtain ⟨z6_1, hc6, h⟩ := dz_ob h
      try dsimp only at h
      have hPc := hP.sub (ws' := []) [] rfl
      have hKc := hK.sub (tys' := []) [] rfl
      refine vp_callSl (va_Run.run (va_runS (As := [.long p1, .long p2]) (rest := []) ⟨hx, hb, hml, hown, hg⟩ (c_Math_floorMod l dC dI N p1 p2 z6_1 hc6) (va_cwS 2 hg (gd_S k292 k293 k7 k291) rfl rfl rfl (by decide +kernel) ⟨Nat.le_of_ble_eq_true rfl, Nat.le_of_ble_eq_true rfl⟩) ⟨dz_blindR, fun U hU hW => ⟨rfl, dz_Nw hW hN, by rw [hU]; exact hPc, va_K.moved hW.alike hKc⟩⟩ rfl rfl hl.1 rfl (lv_room (Nat.le_of_ble_eq_true rfl)) d_Numbers_signed_112 ⟨Nat.le_of_ble_eq_true rfl, Nat.le_of_ble_eq_true rfl⟩)) (fun r6 hw => ?_)
      have hw : z6_1 = r6 := hw.symm
      subst hw
      obtain rfl := Option.some.inj h
      exact W.lret (v := z6_1) hx hb hr (fun t ht hW => ⟨_, rfl, rfl, ht⟩) (fun _ h => by cases h) d_Numbers_signed_115
    · rw [if_pos c5] at h
      refine lv_lconst (v := 0) hx hb d_Numbers_signed_106 (by decide) ?_
      refine lv_goto (tgt := 115) hx hb d_Numbers_signed_107 (by decide) ?_
      obtain rfl := Option.some.inj h
      exact W.lret (v := 0) hx hb hr (fun t ht hW => ⟨_, rfl, rfl, ht⟩) (fun _ h => by cases h) d_Numbers_signed_115
  rw [if_neg s1_6] at h
  by_cases s1_7 : p0 = 7
  · rw [if_pos s1_7] at h
    refine lv_tableIn (off := 115) (tgt := 116) hx hb d_Numbers_signed_1 (by rw [s1_7]; decide) (by rw [s1_7]; decide) (by rw [s1_7]; decide) (by decide) ?_
    refine lv_lload_n hx hb d_Numbers_signed_116 rfl (lv_at hl 1 rfl) ?_
    refine lv_lload_n hx hb d_Numbers_signed_117 rfl (lv_at hl 2 rfl) ?_
    refine W.lcmp hx hb d_Numbers_signed_118 ?_
    refine lv_if_ge (tgt := 126) hx hb d_Numbers_signed_119 (by decide) (fun c7 => ?_) (fun c7 => ?_)
    · rw [if_pos c7] at h
      refine lv_lconst (v := 0) hx hb d_Numbers_signed_126 (by decide) ?_
      obtain rfl := Option.some.inj h
      exact W.lret (v := 0) hx hb hr (fun t ht hW => ⟨_, rfl, rfl, ht⟩) (fun _ h => by cases h) d_Numbers_signed_127
    · rw [if_neg c7] at h
      refine lv_lconst (v := 1) hx hb d_Numbers_signed_122 (by decide) ?_
      refine lv_goto (tgt := 127) hx hb d_Numbers_signed_123 (by decide) ?_
      obtain rfl := Option.some.inj h
      exact W.lret (v := 1) hx hb hr (fun t ht hW => ⟨_, rfl, rfl, ht⟩) (fun _ h => by cases h) d_Numbers_signed_127
  rw [if_neg s1_7] at h
  by_cases s1_8 : p0 = 8
  · rw [if_pos s1_8] at h
    refine lv_tableIn (off := 127) (tgt := 128) hx hb d_Numbers_signed_1 (by rw [s1_8]; decide) (by rw [s1_8]; decide) (by rw [s1_8]; decide) (by decide) ?_
    refine lv_lload_n hx hb d_Numbers_signed_128 rfl (lv_at hl 1 rfl) ?_
    refine lv_lload_n hx hb d_Numbers_signed_129 rfl (lv_at hl 2 rfl) ?_
    refine W.lcmp hx hb d_Numbers_signed_130 ?_
    refine lv_if_le (tgt := 138) hx hb d_Numbers_signed_131 (by decide) (fun c8 => ?_) (fun c8 => ?_)
    · rw [if_pos c8] at h
      refine lv_lconst (v := 0) hx hb d_Numbers_signed_138 (by decide) ?_
      obtain rfl := Option.some.inj h
      exact W.lret (v := 0) hx hb hr (fun t ht hW => ⟨_, rfl, rfl, ht⟩) (fun _ h => by cases h) d_Numbers_signed_139
    · rw [if_neg c8] at h
      refine lv_lconst (v := 1) hx hb d_Numbers_signed_134 (by decide) ?_
      refine lv_goto (tgt := 139) hx hb d_Numbers_signed_135 (by decide) ?_
      obtain rfl := Option.some.inj h
      exact W.lret (v := 1) hx hb hr (fun t ht hW => ⟨_, rfl, rfl, ht⟩) (fun _ h => by cases h) d_Numbers_signed_139
  rw [if_neg s1_8] at h
  by_cases s1_9 : p0 = 9
  · rw [if_pos s1_9] at h
    refine lv_tableIn (off := 139) (tgt := 140) hx hb d_Numbers_signed_1 (by rw [s1_9]; decide) (by rw [s1_9]; decide) (by rw [s1_9]; decide) (by decide) ?_
    refine lv_lload_n hx hb d_Numbers_signed_140 rfl (lv_at hl 1 rfl) ?_
    refine lv_lload_n hx hb d_Numbers_signed_141 rfl (lv_at hl 2 rfl) ?_
    refine W.lcmp hx hb d_Numbers_signed_142 ?_
    refine lv_if_gt (tgt := 150) hx hb d_Numbers_signed_143 (by decide) (fun c9 => ?_) (fun c9 => ?_)
    · rw [if_pos c9] at h
      refine lv_lconst (v := 0) hx hb d_Numbers_signed_150 (by decide) ?_
      obtain rfl := Option.some.inj h
      exact W.lret (v := 0) hx hb hr (fun t ht hW => ⟨_, rfl, rfl, ht⟩) (fun _ h => by cases h) d_Numbers_signed_151
    · rw [if_neg c9] at h
      refine lv_lconst (v := 1) hx hb d_Numbers_signed_146 (by decide) ?_
      refine lv_goto (tgt := 151) hx hb d_Numbers_signed_147 (by decide) ?_
      obtain rfl := Option.some.inj h
      exact W.lret (v := 1) hx hb hr (fun t ht hW => ⟨_, rfl, rfl, ht⟩) (fun _ h => by cases h) d_Numbers_signed_151
  rw [if_neg s1_9] at h
  refine lv_tableOut (tgt := 152) hx hb d_Numbers_signed_1 (by have q0 := lv_neT s1_0 (a := 0) (by decide); have q1 := lv_neT s1_1 (a := 1) (by decide); have q2 := lv_neT s1_2 (a := 2) (by decide); have q3 := lv_neT s1_3 (a := 3) (by decide); have q4 := lv_neT s1_4 (a := 4) (by decide); have q5 := lv_neT s1_5 (a := 5) (by decide); have q6 := lv_neT s1_6 (a := 6) (by decide); have q7 := lv_neT s1_7 (a := 7) (by decide); have q8 := lv_neT s1_8 (a := 8) (by decide); have q9 := lv_neT s1_9 (a := 9) (by decide); omega) (by decide) ?_
  refine lv_lload_n hx hb d_Numbers_signed_152 rfl (lv_at hl 1 rfl) ?_
  refine lv_lload_n hx hb d_Numbers_signed_153 rfl (lv_at hl 2 rfl) ?_
  refine W.lcmp hx hb d_Numbers_signed_154 ?_
  refine lv_if_lt (tgt := 162) hx hb d_Numbers_signed_155 (by decide) (fun c10 => ?_) (fun c10 => ?_)
  · rw [if_pos c10] at h
    refine lv_lconst (v := 0) hx hb d_Numbers_signed_162 (by decide) ?_
    obtain rfl := Option.some.inj h
    exact W.lret (v := 0) hx hb hr (fun t ht hW => ⟨_, rfl, rfl, ht⟩) (fun _ h => by cases h) d_Numbers_signed_163
  · rw [if_neg c10] at h
    refine lv_lconst (v := 1) hx hb d_Numbers_signed_158 (by decide) ?_
    refine lv_goto (tgt := 163) hx hb d_Numbers_signed_159 (by decide) ?_
    obtain rfl := Option.some.inj h
    exact W.lret (v := 1) hx hb hr (fun t ht hW => ⟨_, rfl, rfl, ht⟩) (fun _ h => by cases h) d_Numbers_signed_163

set_option maxHeartbeats 4000000 in
set_option maxRecDepth 100000 in
theorem c_Numbers_unsigned (l : Launch) (dC : Nat → ClassId) (dI : Nat → Nat → Nat) (N : Nat) (p0 : Int32) (p1 : Int64) (p2 : Int64) (z : Int32) (h : m_Numbers_unsigned N p0 p1 p2 = some z) : Met l y_Numbers_unsigned (.code y_Numbers_unsigned b_Numbers_unsigned 5 (some .int) :: lw_g) ({ frames := 0, cells := 0, slots := 0, locals := 0 }) (va_Pc [.int p0, .long p1, .long p2] (fun U => dz_N U ∧ va_P (dC, dI) classes [] U.heap ∧ va_K (dC, dI) classes [] U)) (vp_Si (fun r => r = z)) 0 0 (fun _ => False) := by
  refine Met.ofW (cc := b_Numbers_unsigned) (maxL := 5) (ret := (some .int)) (by decide +kernel) rfl ?_
  intro p e s m args below meth c s₁ B hml hv
  obtain ⟨rfl, hN, hP, hK⟩ := hv
  have hx := B.exec
  have hb := B.bytes
  have hr := B.returns
  have hg : ∀ w ∈ lw_g, w.before _ s = true := fun w hw => atoms_spec (ws := .code y_Numbers_unsigned b_Numbers_unsigned 5 (some .int) :: lw_g) B.pre w (List.mem_cons_of_mem _ hw)
  have hown : s.vm.findClass R_Numbers = some m.cls := findClass_of_methodNamed B.named
  have hlocks := B.notSynchronized
  clear B
  have hP : va_P (dC, dI) classes [] s.heap := hP
  have hl := lv_entry ([.int p0, .long p1, .long p2]) (n := 5) (Nat.le_of_ble_eq_true rfl)
  rw [lg_entry_eq]
  generalize (lg_sl ([.int p0, .long p1, .long p2]) ++ List.replicate (5 - (lg_sl ([.int p0, .long p1, .long p2])).length) Slot.unset).toArray = ls at hl ⊢
  have hl : lv_has ls 5 [(0, .int p0), (1, .long p1), (3, .long p2)] := hl
  unfold m_Numbers_unsigned at h
  refine lv_iload_n hx hb d_Numbers_unsigned_0 rfl (lv_at hl 0 rfl) ?_
  by_cases s1_11 : p0 = 11
  · rw [if_pos s1_11] at h
    refine lv_tableIn (off := 47) (tgt := 48) hx hb d_Numbers_unsigned_1 (by rw [s1_11]; decide) (by rw [s1_11]; decide) (by rw [s1_11]; decide) (by decide) ?_
    refine lv_lload_n hx hb d_Numbers_unsigned_48 rfl (lv_at hl 1 rfl) ?_
    refine lv_lload_n hx hb d_Numbers_unsigned_49 rfl (lv_at hl 2 rfl) ?_
    refine lv_ladd hx hb d_Numbers_unsigned_50 ?_
    refine lv_l2i (v := (p1 + p2).toInt32) hx hb d_Numbers_unsigned_51 rfl ?_
    obtain rfl := Option.some.inj h
    exact W.iret (v := (p1 + p2).toInt32) hx hb hr (fun t ht hW => ⟨_, rfl, rfl, ht⟩) (fun _ h => by cases h) d_Numbers_unsigned_52
  rw [if_neg s1_11] at h
  by_cases s1_12 : p0 = 12
  · rw [if_pos s1_12] at h
    refine lv_tableIn (off := 52) (tgt := 53) hx hb d_Numbers_unsigned_1 (by rw [s1_12]; decide) (by rw [s1_12]; decide) (by rw [s1_12]; decide) (by decide) ?_
    refine lv_lload_n hx hb d_Numbers_unsigned_53 rfl (lv_at hl 1 rfl) ?_
    refine lv_lload_n hx hb d_Numbers_unsigned_54 rfl (lv_at hl 2 rfl) ?_
    refine lv_lsub hx hb d_Numbers_unsigned_55 ?_
    refine lv_l2i (v := (p1 - p2).toInt32) hx hb d_Numbers_unsigned_56 rfl ?_
    obtain rfl := Option.some.inj h
    exact W.iret (v := (p1 - p2).toInt32) hx hb hr (fun t ht hW => ⟨_, rfl, rfl, ht⟩) (fun _ h => by cases h) d_Numbers_unsigned_57
  rw [if_neg s1_12] at h
  by_cases s1_13 : p0 = 13
  · rw [if_pos s1_13] at h
    refine lv_tableIn (off := 57) (tgt := 58) hx hb d_Numbers_unsigned_1 (by rw [s1_13]; decide) (by rw [s1_13]; decide) (by rw [s1_13]; decide) (by decide) ?_
    refine lv_lload_n hx hb d_Numbers_unsigned_58 rfl (lv_at hl 1 rfl) ?_
    refine lv_lload_n hx hb d_Numbers_unsigned_59 rfl (lv_at hl 2 rfl) ?_
    refine lv_lmul hx hb d_Numbers_unsigned_60 ?_
    refine lv_l2i (v := (p1 * p2).toInt32) hx hb d_Numbers_unsigned_61 rfl ?_
    obtain rfl := Option.some.inj h
    exact W.iret (v := (p1 * p2).toInt32) hx hb hr (fun t ht hW => ⟨_, rfl, rfl, ht⟩) (fun _ h => by cases h) d_Numbers_unsigned_62
  rw [if_neg s1_13] at h
  by_cases s1_14 : p0 = 14
  · rw [if_pos s1_14] at h
    refine lv_tableIn (off := 62) (tgt := 63) hx hb d_Numbers_unsigned_1 (by rw [s1_14]; decide) (by rw [s1_14]; decide) (by rw [s1_14]; decide) (by decide) ?_
    refine lv_lload_n hx hb d_Numbers_unsigned_63 rfl (lv_at hl 2 rfl) ?_
    refine lv_lconst (v := 0) hx hb d_Numbers_unsigned_64 (by decide) ?_
    refine W.lcmp hx hb d_Numbers_unsigned_65 ?_
    refine lv_if_ne (tgt := 73) hx hb d_Numbers_unsigned_66 (by decide) (fun c2 => ?_) (fun c2 => ?_)
    · rw [if_neg c2] at h
      refine lv_lload_n hx hb d_Numbers_unsigned_73 rfl (lv_at hl 1 rfl) ?_
      refine lv_lload_n hx hb d_Numbers_unsigned_74 rfl (lv_at hl 2 rfl) ?_
      obtain ⟨i3, h⟩ := dz_oi h
      refine lv_ldiv hx hb d_Numbers_unsigned_75 i3 ?_
      refine lv_l2i (v := (p1 / p2).toInt32) hx hb d_Numbers_unsigned_76 rfl ?_
      obtain rfl := Option.some.inj h
      exact W.iret (v := (p1 / p2).toInt32) hx hb hr (fun t ht hW => ⟨_, rfl, rfl, ht⟩) (fun _ h => by cases h) d_Numbers_unsigned_77
    · rw [if_pos c2] at h
      refine lv_iconst (v := 0) hx hb d_Numbers_unsigned_69 (by decide) ?_
      refine lv_goto (tgt := 77) hx hb d_Numbers_unsigned_70 (by decide) ?_
      obtain rfl := Option.some.inj h
      exact W.iret (v := 0) hx hb hr (fun t ht hW => ⟨_, rfl, rfl, ht⟩) (fun _ h => by cases h) d_Numbers_unsigned_77
  rw [if_neg s1_14] at h
  by_cases s1_15 : p0 = 15
  · rw [if_pos s1_15] at h
    refine lv_tableIn (off := 77) (tgt := 78) hx hb d_Numbers_unsigned_1 (by rw [s1_15]; decide) (by rw [s1_15]; decide) (by rw [s1_15]; decide) (by decide) ?_
    refine lv_lload_n hx hb d_Numbers_unsigned_78 rfl (lv_at hl 2 rfl) ?_
    refine lv_lconst (v := 0) hx hb d_Numbers_unsigned_79 (by decide) ?_
    refine W.lcmp hx hb d_Numbers_unsigned_80 ?_
    refine lv_if_ne (tgt := 88) hx hb d_Numbers_unsigned_81 (by decide) (fun c4 => ?_) (fun c4 => ?_)
    · rw [if_neg c4] at h
      refine lv_lload_n hx hb d_Numbers_unsigned_88 rfl (lv_at hl 1 rfl) ?_
      refine lv_lload_n hx hb d_Numbers_unsigned_89 rfl (lv_at hl 2 rfl) ?_
      obtain ⟨i5, h⟩ := dz_oi h
      refine lv_lrem hx hb d_Numbers_unsigned_90 i5 ?_
      refine lv_l2i (v := (p1 - p1 / p2 * p2).toInt32) hx hb d_Numbers_unsigned_91 rfl ?_
      obtain rfl := Option.some.inj h
      exact W.iret (v := (p1 - p1 / p2 * p2).toInt32) hx hb hr (fun t ht hW => ⟨_, rfl, rfl, ht⟩) (fun _ h => by cases h) d_Numbers_unsigned_92
    · rw [if_pos c4] at h
      refine lv_iconst (v := 0) hx hb d_Numbers_unsigned_84 (by decide) ?_
      refine lv_goto (tgt := 92) hx hb d_Numbers_unsigned_85 (by decide) ?_
      obtain rfl := Option.some.inj h
      exact W.iret (v := 0) hx hb hr (fun t ht hW => ⟨_, rfl, rfl, ht⟩) (fun _ h => by cases h) d_Numbers_unsigned_92
  rw [if_neg s1_15] at h
  by_cases s1_16 : p0 = 16
  · rw [if_pos s1_16] at h
    refine lv_tableIn (off := 92) (tgt := 93) hx hb d_Numbers_unsigned_1 (by rw [s1_16]; decide) (by rw [s1_16]; decide) (by rw [s1_16]; decide) (by decide) ?_
    refine lv_lload_n hx hb d_Numbers_unsigned_93 rfl (lv_at hl 1 rfl) ?_
    refine lv_lload_n hx hb d_Numbers_unsigned_94 rfl (lv_at hl 2 rfl) ?_
    refine W.lcmp hx hb d_Numbers_unsigned_95 ?_
    refine lv_if_ge (tgt := 103) hx hb d_Numbers_unsigned_96 (by decide) (fun c6 => ?_) (fun c6 => ?_)
    · rw [if_pos c6] at h
      refine lv_iconst (v := 0) hx hb d_Numbers_unsigned_103 (by decide) ?_
      obtain rfl := Option.some.inj h
      exact W.iret (v := 0) hx hb hr (fun t ht hW => ⟨_, rfl, rfl, ht⟩) (fun _ h => by cases h) d_Numbers_unsigned_104
    · rw [if_neg c6] at h
      refine lv_iconst (v := 1) hx hb d_Numbers_unsigned_99 (by decide) ?_
      refine lv_goto (tgt := 104) hx hb d_Numbers_unsigned_100 (by decide) ?_
      obtain rfl := Option.some.inj h
      exact W.iret (v := 1) hx hb hr (fun t ht hW => ⟨_, rfl, rfl, ht⟩) (fun _ h => by cases h) d_Numbers_unsigned_104
  rw [if_neg s1_16] at h
  by_cases s1_17 : p0 = 17
  · rw [if_pos s1_17] at h
    refine lv_tableIn (off := 104) (tgt := 105) hx hb d_Numbers_unsigned_1 (by rw [s1_17]; decide) (by rw [s1_17]; decide) (by rw [s1_17]; decide) (by decide) ?_
    refine lv_lload_n hx hb d_Numbers_unsigned_105 rfl (lv_at hl 1 rfl) ?_
    refine lv_lload_n hx hb d_Numbers_unsigned_106 rfl (lv_at hl 2 rfl) ?_
    refine W.lcmp hx hb d_Numbers_unsigned_107 ?_
    refine lv_if_le (tgt := 115) hx hb d_Numbers_unsigned_108 (by decide) (fun c7 => ?_) (fun c7 => ?_)
    · rw [if_pos c7] at h
      refine lv_iconst (v := 0) hx hb d_Numbers_unsigned_115 (by decide) ?_
      obtain rfl := Option.some.inj h
      exact W.iret (v := 0) hx hb hr (fun t ht hW => ⟨_, rfl, rfl, ht⟩) (fun _ h => by cases h) d_Numbers_unsigned_116
    · rw [if_neg c7] at h
      refine lv_iconst (v := 1) hx hb d_Numbers_unsigned_111 (by decide) ?_
      refine lv_goto (tgt := 116) hx hb d_Numbers_unsigned_112 (by decide) ?_
      obtain rfl := Option.some.inj h
      exact W.iret (v := 1) hx hb hr (fun t ht hW => ⟨_, rfl, rfl, ht⟩) (fun _ h => by cases h) d_Numbers_unsigned_116
  rw [if_neg s1_17] at h
  by_cases s1_18 : p0 = 18
  · rw [if_pos s1_18] at h
    refine lv_tableIn (off := 116) (tgt := 117) hx hb d_Numbers_unsigned_1 (by rw [s1_18]; decide) (by rw [s1_18]; decide) (by rw [s1_18]; decide) (by decide) ?_
    refine lv_lload_n hx hb d_Numbers_unsigned_117 rfl (lv_at hl 1 rfl) ?_
    refine lv_lload_n hx hb d_Numbers_unsigned_118 rfl (lv_at hl 2 rfl) ?_
    refine W.lcmp hx hb d_Numbers_unsigned_119 ?_
    refine lv_if_gt (tgt := 127) hx hb d_Numbers_unsigned_120 (by decide) (fun c8 => ?_) (fun c8 => ?_)
    · rw [if_pos c8] at h
      refine lv_iconst (v := 0) hx hb d_Numbers_unsigned_127 (by decide) ?_
      obtain rfl := Option.some.inj h
      exact W.iret (v := 0) hx hb hr (fun t ht hW => ⟨_, rfl, rfl, ht⟩) (fun _ h => by cases h) d_Numbers_unsigned_128
    · rw [if_neg c8] at h
      refine lv_iconst (v := 1) hx hb d_Numbers_unsigned_123 (by decide) ?_
      refine lv_goto (tgt := 128) hx hb d_Numbers_unsigned_124 (by decide) ?_
      obtain rfl := Option.some.inj h
      exact W.iret (v := 1) hx hb hr (fun t ht hW => ⟨_, rfl, rfl, ht⟩) (fun _ h => by cases h) d_Numbers_unsigned_128
  rw [if_neg s1_18] at h
  refine lv_tableOut (tgt := 129) hx hb d_Numbers_unsigned_1 (by have q0 := lv_neT s1_11 (a := 11) (by decide); have q1 := lv_neT s1_12 (a := 12) (by decide); have q2 := lv_neT s1_13 (a := 13) (by decide); have q3 := lv_neT s1_14 (a := 14) (by decide); have q4 := lv_neT s1_15 (a := 15) (by decide); have q5 := lv_neT s1_16 (a := 16) (by decide); have q6 := lv_neT s1_17 (a := 17) (by decide); have q7 := lv_neT s1_18 (a := 18) (by decide); omega) (by decide) ?_
  refine lv_lload_n hx hb d_Numbers_unsigned_129 rfl (lv_at hl 1 rfl) ?_
  refine lv_lload_n hx hb d_Numbers_unsigned_130 rfl (lv_at hl 2 rfl) ?_
  refine W.lcmp hx hb d_Numbers_unsigned_131 ?_
  refine lv_if_lt (tgt := 139) hx hb d_Numbers_unsigned_132 (by decide) (fun c9 => ?_) (fun c9 => ?_)
  · rw [if_pos c9] at h
    refine lv_iconst (v := 0) hx hb d_Numbers_unsigned_139 (by decide) ?_
    obtain rfl := Option.some.inj h
    exact W.iret (v := 0) hx hb hr (fun t ht hW => ⟨_, rfl, rfl, ht⟩) (fun _ h => by cases h) d_Numbers_unsigned_140
  · rw [if_neg c9] at h
    refine lv_iconst (v := 1) hx hb d_Numbers_unsigned_135 (by decide) ?_
    refine lv_goto (tgt := 140) hx hb d_Numbers_unsigned_136 (by decide) ?_
    obtain rfl := Option.some.inj h
    exact W.iret (v := 1) hx hb hr (fun t ht hW => ⟨_, rfl, rfl, ht⟩) (fun _ h => by cases h) d_Numbers_unsigned_140

set_option maxHeartbeats 4000000 in
set_option maxRecDepth 100000 in
theorem l_Numbers_bits_1 {p : Program} {l : Launch} {e : Env} {s : State} {m : MethodId} {args : Array Value} {below : List Frame} {meth : Method} {c : Code} {Q : State → Prop} (dC : Nat → ClassId) (dI : Nat → Nat → Nat) (N : Nat) (p0 : Int32) (p1 : Int32) (p2 : Int32) {ζ : Type} {z : ζ} (hx : p.tables.exec = Jvm.exec) (hb : c.code = b_Numbers_bits) (hml : c.maxLocals = 4) (hown : s.vm.findClass R_Numbers = some m.cls) (hg : ∀ w ∈ lw_g, w.before args s = true) (hN : dz_N s) (hK : va_K (dC, dI) classes [] s) (hP : va_P (dC, dI) classes [] s.heap) {k1_15 : Int32 → Option (ζ)} (hk1_15 : ∀   (y1_0 : Int32)   (ls : Array Slot), k1_15 y1_0 = some z → lv_has ls 4 [(0, .int p0), (1, .int p1), (2, .int p2)] → W p l e ({ frames := 0, cells := 0, slots := 0, locals := 0 } : Room) s m args below meth c s.heap [] 0 0 Q (F0 m 15 ls [.int y1_0])) : ∀     (ls : Array Slot), lm_Numbers_bits_1 N p2 k1_15  = some z → lv_has ls 4 [(0, .int p0), (1, .int p1), (2, .int p2)] → W p l e ({ frames := 0, cells := 0, slots := 0, locals := 0 } : Room) s m args below meth c s.heap [] 0 0 Q (F0 m 0 ls []) := by
  intro ls h hl
  unfold lm_Numbers_bits_1 at h
  refine lv_iload_n hx hb d_Numbers_bits_0 rfl (lv_at hl 2 rfl) ?_
  refine lv_if_lt (tgt := 14) hx hb d_Numbers_bits_1 (by decide) (fun c1 => ?_) (fun c1 => ?_)
  · rw [if_pos c1] at h
    refine lv_iconst (v := 0) hx hb d_Numbers_bits_14 (by decide) ?_
    exact hk1_15 (0 : Int32) _ h (lv_sub hl [0, 1, 2] rfl)
  · rw [if_neg c1] at h
    refine lv_iload_n hx hb d_Numbers_bits_4 rfl (lv_at hl 2 rfl) ?_
    refine lv_bipush (v := 32) hx hb d_Numbers_bits_5 (by decide) ?_
    refine lv_icmp_ge (tgt := 14) hx hb d_Numbers_bits_7 (by decide) (fun c2 => ?_) (fun c2 => ?_)
    · rw [if_pos c2] at h
      refine lv_iconst (v := 0) hx hb d_Numbers_bits_14 (by decide) ?_
      exact hk1_15 (0 : Int32) _ h (lv_sub hl [0, 1, 2] rfl)
    · rw [if_neg c2] at h
      refine lv_iconst (v := 1) hx hb d_Numbers_bits_10 (by decide) ?_
      refine lv_goto (tgt := 15) hx hb d_Numbers_bits_11 (by decide) ?_
      exact hk1_15 (1 : Int32) _ h (lv_sub hl [0, 1, 2] rfl)
set_option maxHeartbeats 4000000 in
set_option maxRecDepth 100000 in
theorem c_Numbers_bits (l : Launch) (dC : Nat → ClassId) (dI : Nat → Nat → Nat) (N : Nat) (p0 : Int32) (p1 : Int32) (p2 : Int32) (z : Int32) (h : m_Numbers_bits N p0 p1 p2 = some z) : Met l y_Numbers_bits (.code y_Numbers_bits b_Numbers_bits 4 (some .int) :: lw_g) ({ frames := 0, cells := 0, slots := 0, locals := 0 }) (va_Pc [.int p0, .int p1, .int p2] (fun U => dz_N U ∧ va_P (dC, dI) classes [] U.heap ∧ va_K (dC, dI) classes [] U)) (vp_Si (fun r => r = z)) 0 0 (fun _ => False) := by
  refine Met.ofW (cc := b_Numbers_bits) (maxL := 4) (ret := (some .int)) (by decide +kernel) rfl ?_
  intro p e s m args below meth c s₁ B hml hv
  obtain ⟨rfl, hN, hP, hK⟩ := hv
  have hx := B.exec
  have hb := B.bytes
  have hr := B.returns
  have hg : ∀ w ∈ lw_g, w.before _ s = true := fun w hw => atoms_spec (ws := .code y_Numbers_bits b_Numbers_bits 4 (some .int) :: lw_g) B.pre w (List.mem_cons_of_mem _ hw)
  have hown : s.vm.findClass R_Numbers = some m.cls := findClass_of_methodNamed B.named
  have hlocks := B.notSynchronized
  clear B
  have hP : va_P (dC, dI) classes [] s.heap := hP
  have hl := lv_entry ([.int p0, .int p1, .int p2]) (n := 4) (Nat.le_of_ble_eq_true rfl)
  rw [lg_entry_eq]
  generalize (lg_sl ([.int p0, .int p1, .int p2]) ++ List.replicate (4 - (lg_sl ([.int p0, .int p1, .int p2])).length) Slot.unset).toArray = ls at hl ⊢
  have hl : lv_has ls 4 [(0, .int p0), (1, .int p1), (2, .int p2)] := hl
  unfold m_Numbers_bits at h
  refine l_Numbers_bits_1 dC dI N p0 p1 p2 hx hb hml hown hg hN hK hP (fun y1_0 ls h hl => ?_)  _ h (lv_sub hl [0, 1, 2] rfl)
  refine lv_istore_n (lv' := [(3, .int y1_0), (0, .int p0), (1, .int p1), (2, .int p2)]) hx hb d_Numbers_bits_15 rfl hl (by decide) rfl (fun ls hl => ?_)
  refine lv_iload_n hx hb d_Numbers_bits_16 rfl (lv_at hl 1 rfl) ?_
  by_cases s3_20 : p0 = 20
  · rw [if_pos s3_20] at h
    refine lv_tableIn (off := 35) (tgt := 52) hx hb d_Numbers_bits_17 (by rw [s3_20]; decide) (by rw [s3_20]; decide) (by rw [s3_20]; decide) (by decide) ?_
    refine lv_iload_n hx hb d_Numbers_bits_52 rfl (lv_at hl 2 rfl) ?_
    refine lv_iload_n hx hb d_Numbers_bits_53 rfl (lv_at hl 3 rfl) ?_
    refine lv_iand hx hb d_Numbers_bits_54 ?_
    obtain rfl := Option.some.inj h
    exact W.iret (v := p1 &&& p2) hx hb hr (fun t ht hW => ⟨_, rfl, rfl, ht⟩) (fun _ h => by cases h) d_Numbers_bits_55
  rw [if_neg s3_20] at h
  by_cases s3_21 : p0 = 21
  · rw [if_pos s3_21] at h
    refine lv_tableIn (off := 39) (tgt := 56) hx hb d_Numbers_bits_17 (by rw [s3_21]; decide) (by rw [s3_21]; decide) (by rw [s3_21]; decide) (by decide) ?_
    refine lv_iload_n hx hb d_Numbers_bits_56 rfl (lv_at hl 2 rfl) ?_
    refine lv_iload_n hx hb d_Numbers_bits_57 rfl (lv_at hl 3 rfl) ?_
    refine lv_ior hx hb d_Numbers_bits_58 ?_
    obtain rfl := Option.some.inj h
    exact W.iret (v := p1 ||| p2) hx hb hr (fun t ht hW => ⟨_, rfl, rfl, ht⟩) (fun _ h => by cases h) d_Numbers_bits_59
  rw [if_neg s3_21] at h
  by_cases s3_22 : p0 = 22
  · rw [if_pos s3_22] at h
    refine lv_tableIn (off := 43) (tgt := 60) hx hb d_Numbers_bits_17 (by rw [s3_22]; decide) (by rw [s3_22]; decide) (by rw [s3_22]; decide) (by decide) ?_
    refine lv_iload_n hx hb d_Numbers_bits_60 rfl (lv_at hl 2 rfl) ?_
    refine lv_iload_n hx hb d_Numbers_bits_61 rfl (lv_at hl 3 rfl) ?_
    refine lv_ixor hx hb d_Numbers_bits_62 ?_
    obtain rfl := Option.some.inj h
    exact W.iret (v := p1 ^^^ p2) hx hb hr (fun t ht hW => ⟨_, rfl, rfl, ht⟩) (fun _ h => by cases h) d_Numbers_bits_63
  rw [if_neg s3_22] at h
  by_cases s3_23 : p0 = 23
  · rw [if_pos s3_23] at h
    refine lv_tableIn (off := 47) (tgt := 64) hx hb d_Numbers_bits_17 (by rw [s3_23]; decide) (by rw [s3_23]; decide) (by rw [s3_23]; decide) (by decide) ?_
    refine lv_iload_n hx hb d_Numbers_bits_64 rfl (lv_at hl 2 rfl) ?_
    refine lv_iconst (v := (-1)) hx hb d_Numbers_bits_65 (by decide) ?_
    refine lv_ixor hx hb d_Numbers_bits_66 ?_
    obtain rfl := Option.some.inj h
    exact W.iret (v := p1 ^^^ (-1)) hx hb hr (fun t ht hW => ⟨_, rfl, rfl, ht⟩) (fun _ h => by cases h) d_Numbers_bits_67
  rw [if_neg s3_23] at h
  by_cases s3_24 : p0 = 24
  · rw [if_pos s3_24] at h
    refine lv_tableIn (off := 51) (tgt := 68) hx hb d_Numbers_bits_17 (by rw [s3_24]; decide) (by rw [s3_24]; decide) (by rw [s3_24]; decide) (by decide) ?_
    refine lv_iload_n hx hb d_Numbers_bits_68 rfl (lv_at hl 0 rfl) ?_
    refine lv_if_eq (tgt := 78) hx hb d_Numbers_bits_69 (by decide) (fun c4 => ?_) (fun c4 => ?_)
    · rw [if_pos c4] at h
      refine lv_iconst (v := 0) hx hb d_Numbers_bits_78 (by decide) ?_
      obtain rfl := Option.some.inj h
      exact W.iret (v := 0) hx hb hr (fun t ht hW => ⟨_, rfl, rfl, ht⟩) (fun _ h => by cases h) d_Numbers_bits_79
    · rw [if_neg c4] at h
      refine lv_iload_n hx hb d_Numbers_bits_72 rfl (lv_at hl 2 rfl) ?_
      refine lv_iload_n hx hb d_Numbers_bits_73 rfl (lv_at hl 3 rfl) ?_
      refine lv_ishl hx hb d_Numbers_bits_74 ?_
      refine lv_goto (tgt := 79) hx hb d_Numbers_bits_75 (by decide) ?_
      obtain rfl := Option.some.inj h
      exact W.iret (v := p1 <<< (p2 &&& 31)) hx hb hr (fun t ht hW => ⟨_, rfl, rfl, ht⟩) (fun _ h => by cases h) d_Numbers_bits_79
  rw [if_neg s3_24] at h
  refine lv_tableOut (tgt := 80) hx hb d_Numbers_bits_17 (by have q0 := lv_neT s3_20 (a := 20) (by decide); have q1 := lv_neT s3_21 (a := 21) (by decide); have q2 := lv_neT s3_22 (a := 22) (by decide); have q3 := lv_neT s3_23 (a := 23) (by decide); have q4 := lv_neT s3_24 (a := 24) (by decide); omega) (by decide) ?_
  refine lv_iload_n hx hb d_Numbers_bits_80 rfl (lv_at hl 0 rfl) ?_
  refine lv_if_eq (tgt := 90) hx hb d_Numbers_bits_81 (by decide) (fun c5 => ?_) (fun c5 => ?_)
  · rw [if_pos c5] at h
    refine lv_iconst (v := 0) hx hb d_Numbers_bits_90 (by decide) ?_
    obtain rfl := Option.some.inj h
    exact W.iret (v := 0) hx hb hr (fun t ht hW => ⟨_, rfl, rfl, ht⟩) (fun _ h => by cases h) d_Numbers_bits_91
  · rw [if_neg c5] at h
    refine lv_iload_n hx hb d_Numbers_bits_84 rfl (lv_at hl 2 rfl) ?_
    refine lv_iload_n hx hb d_Numbers_bits_85 rfl (lv_at hl 3 rfl) ?_
    refine lv_iushr (v := (p1.toUInt32 >>> (p2.toUInt32 &&& Int32.toUInt32 31)).toInt32) hx hb d_Numbers_bits_86 rfl ?_
    refine lv_goto (tgt := 91) hx hb d_Numbers_bits_87 (by decide) ?_
    obtain rfl := Option.some.inj h
    exact W.iret (v := (p1.toUInt32 >>> (p2.toUInt32 &&& Int32.toUInt32 31)).toInt32) hx hb hr (fun t ht hW => ⟨_, rfl, rfl, ht⟩) (fun _ h => by cases h) d_Numbers_bits_91

set_option maxHeartbeats 4000000 in
set_option maxRecDepth 100000 in
theorem l_Numbers_apply_1 {p : Program} {l : Launch} {e : Env} {s : State} {m : MethodId} {args : Array Value} {below : List Frame} {meth : Method} {c : Code} {Q : State → Prop} {A : Nat → Prop} (dC : Nat → ClassId) (dI : Nat → Nat → Nat) (N : Nat) (cL : ClassId) (o_Stacks : Nat) (o_Numbers : Nat) (r_S_values : Nat) (r_S_bases : Nat) (r_S_floors : Nat) (r_S_returns : Nat) (r_S_closures : Nat) (r_S_handlerFrames : Nat) (r_S_handlerPlaces : Nat) (r_S_handlerHeights : Nat) (r_S_handlerDepths : Nat) (S_top : Int32) (S_frames : Int32) (S_handlers : Int32) (n_S_values : Nat) (f_S_values : Nat → Int64) (p0 : Int32) (p1 : Int32) (z2_1 : Int32) (z4_1 : Int32) {ζ : Type} {z : ζ} (hx : p.tables.exec = Jvm.exec) (hb : c.code = b_Numbers_apply) (hml : c.maxLocals = 7) (hown : s.vm.findClass R_Numbers = some m.cls) (hg : ∀ w ∈ lw_g, w.before args s = true) (hN : dz_N s) (hK : va_K (dC, dI) classes [(cL, .long)] s) (hA : ∀ q : Nat, s.heap.size ≤ q → A q) {k1_126 : Int64 → Option (ζ)} (hk1_126 : ∀   (y1_0 : Int64)  (H : Heap) (locs : List Loc) (ls : Array Slot), k1_126 y1_0 = some z → va_P (dC, dI) classes [(o_Stacks, .inr (2, [.ref r_S_values, .int S_top, .ref r_S_bases, .ref r_S_floors, .ref r_S_returns, .ref r_S_closures, .int S_frames, .ref r_S_handlerFrames, .ref r_S_handlerPlaces, .ref r_S_handlerHeights, .ref r_S_handlerDepths, .int S_handlers])), (o_Numbers, .inr (6, [.ref o_Stacks])), (r_S_values, .inl (cL, n_S_values, .inr (.inl f_S_values)))] H → va_D A [(o_Stacks, .inr (2, [.ref r_S_values, .int S_top, .ref r_S_bases, .ref r_S_floors, .ref r_S_returns, .ref r_S_closures, .int S_frames, .ref r_S_handlerFrames, .ref r_S_handlerPlaces, .ref r_S_handlerHeights, .ref r_S_handlerDepths, .int S_handlers])), (o_Numbers, .inr (6, [.ref o_Stacks])), (r_S_values, .inl (cL, n_S_values, .inr (.inl f_S_values)))] → va_S A s.heap H locs → lv_has ls 7 [(4, .int z4_1), (3, .int z2_1), (0, .ref o_Numbers), (1, .int p0), (2, .int p1)] → W p l e ({ frames := 2, cells := 0, slots := 0, locals := 49 } : Room) s m args below meth c H locs 0 0 Q (F0 m 126 ls [.long y1_0])) : ∀    (H : Heap) (locs : List Loc) (ls : Array Slot), lm_Numbers_apply_1 N p0 z2_1 z4_1 k1_126  = some z → va_P (dC, dI) classes [(o_Stacks, .inr (2, [.ref r_S_values, .int S_top, .ref r_S_bases, .ref r_S_floors, .ref r_S_returns, .ref r_S_closures, .int S_frames, .ref r_S_handlerFrames, .ref r_S_handlerPlaces, .ref r_S_handlerHeights, .ref r_S_handlerDepths, .int S_handlers])), (o_Numbers, .inr (6, [.ref o_Stacks])), (r_S_values, .inl (cL, n_S_values, .inr (.inl f_S_values)))] H → va_D A [(o_Stacks, .inr (2, [.ref r_S_values, .int S_top, .ref r_S_bases, .ref r_S_floors, .ref r_S_returns, .ref r_S_closures, .int S_frames, .ref r_S_handlerFrames, .ref r_S_handlerPlaces, .ref r_S_handlerHeights, .ref r_S_handlerDepths, .int S_handlers])), (o_Numbers, .inr (6, [.ref o_Stacks])), (r_S_values, .inl (cL, n_S_values, .inr (.inl f_S_values)))] → va_S A s.heap H locs → lv_has ls 7 [(4, .int z4_1), (3, .int z2_1), (0, .ref o_Numbers), (1, .int p0), (2, .int p1)] → W p l e ({ frames := 2, cells := 0, slots := 0, locals := 49 } : Room) s m args below meth c H locs 0 0 Q (F0 m 57 ls []) := by
  intro H locs ls h hP hD hS hl
  unfold lm_Numbers_apply_1 at h
  refine lv_iload_n hx hb d_Numbers_apply_57 rfl (lv_at hl 3 rfl) ?_
  refine lv_bipush (v := 10) hx hb d_Numbers_apply_58 (by decide) ?_
  refine lv_icmp_gt (tgt := 75) hx hb d_Numbers_apply_60 (by decide) (fun c6 => ?_) (fun c6 => ?_)
  · rw [if_pos c6] at h
    refine lv_iload_n hx hb d_Numbers_apply_75 rfl (lv_at hl 3 rfl) ?_
    refine lv_bipush (v := 26) hx hb d_Numbers_apply_76 (by decide) ?_
    refine lv_icmp_ne (tgt := 91) hx hb d_Numbers_apply_78 (by decide) (fun c7 => ?_) (fun c7 => ?_)
    · rw [if_neg c7] at h
      refine lv_iload_n hx hb d_Numbers_apply_91 rfl (lv_at hl 3 rfl) ?_
      refine lv_bipush (v := 19) hx hb d_Numbers_apply_92 (by decide) ?_
      refine lv_icmp_gt (tgt := 118) hx hb d_Numbers_apply_94 (by decide) (fun c8 => ?_) (fun c8 => ?_)
      · rw [if_pos c8] at h
        refine lv_iload_n hx hb d_Numbers_apply_118 rfl (lv_at hl 3 rfl) ?_
        refine lv_iload hx hb d_Numbers_apply_119 (lv_at hl 0 rfl) ?_
        refine lv_iload_n hx hb d_Numbers_apply_121 rfl (lv_at hl 1 rfl) ?_
        obtain ⟨z9_1, hc9, h⟩ := dz_ob h
        try dsimp only at h
        have hPc := hP.sub (ws' := []) [] rfl
        have hKc := hK.sub (tys' := []) [] rfl
        refine vp_callSi (va_Run.run (va_runS (As := [.int p0, .int z4_1, .int z2_1]) (rest := []) ⟨hx, hb, hml, hown, hg⟩ (c_Numbers_bits l dC dI N p0 z4_1 z2_1 z9_1 hc9) (va_cwS 3 hg (gd_S k299 k300 k301 k298) rfl rfl rfl (by decide +kernel) ⟨Nat.le_of_ble_eq_true rfl, Nat.le_of_ble_eq_true rfl⟩) ⟨dz_blindR, fun U hU hW => ⟨rfl, dz_Nw hW hN, by rw [hU]; exact hPc, va_K.moved hW.alike hKc⟩⟩ rfl rfl hl.1 rfl (lv_room (Nat.le_of_ble_eq_true rfl)) d_Numbers_apply_122 ⟨Nat.le_of_ble_eq_true rfl, Nat.le_of_ble_eq_true rfl⟩)) (fun r9 hw => ?_)
        have hw : z9_1 = r9 := hw.symm
        subst hw
        refine lv_i2l (v := z9_1.toInt64) hx hb d_Numbers_apply_125 rfl ?_
        exact hk1_126 z9_1.toInt64 _ _ _ h (hP.sub [0, 1, 2] rfl) (hD.sub [0, 1, 2] (by decide) rfl) hS (lv_sub hl [0, 1, 2, 3, 4] rfl)
      · rw [if_neg c8] at h
        refine lv_iload_n hx hb d_Numbers_apply_97 rfl (lv_at hl 3 rfl) ?_
        refine lv_iload hx hb d_Numbers_apply_98 (lv_at hl 0 rfl) ?_
        refine lv_i2l (v := z4_1.toInt64) hx hb d_Numbers_apply_100 rfl ?_
        refine lv_ldc2 (v := 4294967295) hx hb hown (hg _ k295) d_Numbers_apply_101 ?_
        refine lv_land hx hb d_Numbers_apply_104 ?_
        refine lv_iload_n hx hb d_Numbers_apply_105 rfl (lv_at hl 1 rfl) ?_
        refine lv_i2l (v := z2_1.toInt64) hx hb d_Numbers_apply_106 rfl ?_
        refine lv_ldc2 (v := 4294967295) hx hb hown (hg _ k295) d_Numbers_apply_107 ?_
        refine lv_land hx hb d_Numbers_apply_110 ?_
        obtain ⟨z10_1, hc10, h⟩ := dz_ob h
        try dsimp only at h
        have hPc := hP.sub (ws' := []) [] rfl
        have hKc := hK.sub (tys' := []) [] rfl
        refine vp_callSi (va_Run.run (va_runS (As := [.int p0, .long (z4_1.toInt64 &&& 4294967295), .long (z2_1.toInt64 &&& 4294967295)]) (rest := []) ⟨hx, hb, hml, hown, hg⟩ (c_Numbers_unsigned l dC dI N p0 (z4_1.toInt64 &&& 4294967295) (z2_1.toInt64 &&& 4294967295) z10_1 hc10) (va_cwS 3 hg (gd_S k303 k304 k301 k302) rfl rfl rfl (by decide +kernel) ⟨Nat.le_of_ble_eq_true rfl, Nat.le_of_ble_eq_true rfl⟩) ⟨dz_blindR, fun U hU hW => ⟨rfl, dz_Nw hW hN, by rw [hU]; exact hPc, va_K.moved hW.alike hKc⟩⟩ rfl rfl hl.1 rfl (lv_room (Nat.le_of_ble_eq_true rfl)) d_Numbers_apply_111 ⟨Nat.le_of_ble_eq_true rfl, Nat.le_of_ble_eq_true rfl⟩)) (fun r10 hw => ?_)
        have hw : z10_1 = r10 := hw.symm
        subst hw
        refine lv_i2l (v := z10_1.toInt64) hx hb d_Numbers_apply_114 rfl ?_
        refine lv_goto (tgt := 126) hx hb d_Numbers_apply_115 (by decide) ?_
        exact hk1_126 z10_1.toInt64 _ _ _ h (hP.sub [0, 1, 2] rfl) (hD.sub [0, 1, 2] (by decide) rfl) hS (lv_sub hl [0, 1, 2, 3, 4] rfl)
    · rw [if_pos c7] at h
      refine lv_iload hx hb d_Numbers_apply_81 (lv_at hl 0 rfl) ?_
      refine lv_i2l (v := z4_1.toInt64) hx hb d_Numbers_apply_83 rfl ?_
      refine lv_ldc2 (v := 4294967295) hx hb hown (hg _ k295) d_Numbers_apply_84 ?_
      refine lv_land hx hb d_Numbers_apply_87 ?_
      refine lv_goto (tgt := 126) hx hb d_Numbers_apply_88 (by decide) ?_
      exact hk1_126 (z4_1.toInt64 &&& 4294967295) _ _ _ h (hP.sub [0, 1, 2] rfl) (hD.sub [0, 1, 2] (by decide) rfl) hS (lv_sub hl [0, 1, 2, 3, 4] rfl)
  · rw [if_neg c6] at h
    refine lv_iload_n hx hb d_Numbers_apply_63 rfl (lv_at hl 3 rfl) ?_
    refine lv_iload hx hb d_Numbers_apply_64 (lv_at hl 0 rfl) ?_
    refine lv_i2l (v := z4_1.toInt64) hx hb d_Numbers_apply_66 rfl ?_
    refine lv_iload_n hx hb d_Numbers_apply_67 rfl (lv_at hl 1 rfl) ?_
    refine lv_i2l (v := z2_1.toInt64) hx hb d_Numbers_apply_68 rfl ?_
    obtain ⟨z11_1, hc11, h⟩ := dz_ob h
    try dsimp only at h
    have hPc := hP.sub (ws' := []) [] rfl
    have hKc := hK.sub (tys' := []) [] rfl
    refine vp_callSl (va_Run.run (va_runS (As := [.int p0, .long z4_1.toInt64, .long z2_1.toInt64]) (rest := []) ⟨hx, hb, hml, hown, hg⟩ (c_Numbers_signed l dC dI N p0 z4_1.toInt64 z2_1.toInt64 z11_1 hc11) (va_cwS 3 hg (gd_S k306 k307 k301 k305) rfl rfl rfl (by decide +kernel) ⟨Nat.le_of_ble_eq_true rfl, Nat.le_of_ble_eq_true rfl⟩) ⟨dz_blindR, fun U hU hW => ⟨rfl, dz_Nw hW hN, by rw [hU]; exact hPc, va_K.moved hW.alike hKc⟩⟩ rfl rfl hl.1 rfl (lv_room (Nat.le_of_ble_eq_true rfl)) d_Numbers_apply_69 ⟨Nat.le_of_ble_eq_true rfl, Nat.le_of_ble_eq_true rfl⟩)) (fun r11 hw => ?_)
    have hw : z11_1 = r11 := hw.symm
    subst hw
    refine lv_goto (tgt := 126) hx hb d_Numbers_apply_72 (by decide) ?_
    exact hk1_126 z11_1 _ _ _ h (hP.sub [0, 1, 2] rfl) (hD.sub [0, 1, 2] (by decide) rfl) hS (lv_sub hl [0, 1, 2, 3, 4] rfl)
set_option maxHeartbeats 4000000 in
set_option maxRecDepth 100000 in
theorem l_Numbers_apply_2 {p : Program} {l : Launch} {e : Env} {s : State} {m : MethodId} {args : Array Value} {below : List Frame} {meth : Method} {c : Code} {Q : State → Prop} {A : Nat → Prop} (dC : Nat → ClassId) (dI : Nat → Nat → Nat) (N : Nat) (cL : ClassId) (o_Stacks : Nat) (o_Numbers : Nat) (r_S_values : Nat) (r_S_bases : Nat) (r_S_floors : Nat) (r_S_returns : Nat) (r_S_closures : Nat) (r_S_handlerFrames : Nat) (r_S_handlerPlaces : Nat) (r_S_handlerHeights : Nat) (r_S_handlerDepths : Nat) (S_top : Int32) (S_frames : Int32) (S_handlers : Int32) (n_S_values : Nat) (f_S_values : Nat → Int64) (p0 : Int32) (p1 : Int32) (z2_1 : Int32) (z4_1 : Int32) {ζ : Type} {z : ζ} (hx : p.tables.exec = Jvm.exec) (hb : c.code = b_Numbers_apply) (hml : c.maxLocals = 7) (hown : s.vm.findClass R_Numbers = some m.cls) (hg : ∀ w ∈ lw_g, w.before args s = true) (hN : dz_N s) (hK : va_K (dC, dI) classes [(cL, .long)] s) (hA : ∀ q : Nat, s.heap.size ≤ q → A q) {k2_126 : Int64 → Option (ζ)} (hk2_126 : ∀   (y2_0 : Int64)  (H : Heap) (locs : List Loc) (ls : Array Slot), k2_126 y2_0 = some z → va_P (dC, dI) classes [(o_Stacks, .inr (2, [.ref r_S_values, .int S_top, .ref r_S_bases, .ref r_S_floors, .ref r_S_returns, .ref r_S_closures, .int S_frames, .ref r_S_handlerFrames, .ref r_S_handlerPlaces, .ref r_S_handlerHeights, .ref r_S_handlerDepths, .int S_handlers])), (o_Numbers, .inr (6, [.ref o_Stacks])), (r_S_values, .inl (cL, n_S_values, .inr (.inl f_S_values)))] H → va_D A [(o_Stacks, .inr (2, [.ref r_S_values, .int S_top, .ref r_S_bases, .ref r_S_floors, .ref r_S_returns, .ref r_S_closures, .int S_frames, .ref r_S_handlerFrames, .ref r_S_handlerPlaces, .ref r_S_handlerHeights, .ref r_S_handlerDepths, .int S_handlers])), (o_Numbers, .inr (6, [.ref o_Stacks])), (r_S_values, .inl (cL, n_S_values, .inr (.inl f_S_values)))] → va_S A s.heap H locs → lv_has ls 7 [(4, .int z4_1), (3, .int z2_1), (0, .ref o_Numbers), (1, .int p0), (2, .int p1)] → W p l e ({ frames := 2, cells := 0, slots := 0, locals := 49 } : Room) s m args below meth c H locs 0 0 Q (F0 m 126 ls [.long y2_0])) : ∀    (H : Heap) (locs : List Loc) (ls : Array Slot), lm_Numbers_apply_2 N p0 z2_1 z4_1 k2_126  = some z → va_P (dC, dI) classes [(o_Stacks, .inr (2, [.ref r_S_values, .int S_top, .ref r_S_bases, .ref r_S_floors, .ref r_S_returns, .ref r_S_closures, .int S_frames, .ref r_S_handlerFrames, .ref r_S_handlerPlaces, .ref r_S_handlerHeights, .ref r_S_handlerDepths, .int S_handlers])), (o_Numbers, .inr (6, [.ref o_Stacks])), (r_S_values, .inl (cL, n_S_values, .inr (.inl f_S_values)))] H → va_D A [(o_Stacks, .inr (2, [.ref r_S_values, .int S_top, .ref r_S_bases, .ref r_S_floors, .ref r_S_returns, .ref r_S_closures, .int S_frames, .ref r_S_handlerFrames, .ref r_S_handlerPlaces, .ref r_S_handlerHeights, .ref r_S_handlerDepths, .int S_handlers])), (o_Numbers, .inr (6, [.ref o_Stacks])), (r_S_values, .inl (cL, n_S_values, .inr (.inl f_S_values)))] → va_S A s.heap H locs → lv_has ls 7 [(4, .int z4_1), (3, .int z2_1), (0, .ref o_Numbers), (1, .int p0), (2, .int p1)] → W p l e ({ frames := 2, cells := 0, slots := 0, locals := 49 } : Room) s m args below meth c H locs 0 0 Q (F0 m 57 ls []) := by
  intro H locs ls h hP hD hS hl
  unfold lm_Numbers_apply_2 at h
  refine lv_iload_n hx hb d_Numbers_apply_57 rfl (lv_at hl 3 rfl) ?_
  refine lv_bipush (v := 10) hx hb d_Numbers_apply_58 (by decide) ?_
  refine lv_icmp_gt (tgt := 75) hx hb d_Numbers_apply_60 (by decide) (fun c19 => ?_) (fun c19 => ?_)
  · rw [if_pos c19] at h
    refine lv_iload_n hx hb d_Numbers_apply_75 rfl (lv_at hl 3 rfl) ?_
    refine lv_bipush (v := 26) hx hb d_Numbers_apply_76 (by decide) ?_
    refine lv_icmp_ne (tgt := 91) hx hb d_Numbers_apply_78 (by decide) (fun c20 => ?_) (fun c20 => ?_)
    · rw [if_neg c20] at h
      refine lv_iload_n hx hb d_Numbers_apply_91 rfl (lv_at hl 3 rfl) ?_
      refine lv_bipush (v := 19) hx hb d_Numbers_apply_92 (by decide) ?_
      refine lv_icmp_gt (tgt := 118) hx hb d_Numbers_apply_94 (by decide) (fun c21 => ?_) (fun c21 => ?_)
      · rw [if_pos c21] at h
        refine lv_iload_n hx hb d_Numbers_apply_118 rfl (lv_at hl 3 rfl) ?_
        refine lv_iload hx hb d_Numbers_apply_119 (lv_at hl 0 rfl) ?_
        refine lv_iload_n hx hb d_Numbers_apply_121 rfl (lv_at hl 1 rfl) ?_
        obtain ⟨z22_1, hc22, h⟩ := dz_ob h
        try dsimp only at h
        have hPc := hP.sub (ws' := []) [] rfl
        have hKc := hK.sub (tys' := []) [] rfl
        refine vp_callSi (va_Run.run (va_runS (As := [.int p0, .int z4_1, .int z2_1]) (rest := []) ⟨hx, hb, hml, hown, hg⟩ (c_Numbers_bits l dC dI N p0 z4_1 z2_1 z22_1 hc22) (va_cwS 3 hg (gd_S k299 k300 k301 k298) rfl rfl rfl (by decide +kernel) ⟨Nat.le_of_ble_eq_true rfl, Nat.le_of_ble_eq_true rfl⟩) ⟨dz_blindR, fun U hU hW => ⟨rfl, dz_Nw hW hN, by rw [hU]; exact hPc, va_K.moved hW.alike hKc⟩⟩ rfl rfl hl.1 rfl (lv_room (Nat.le_of_ble_eq_true rfl)) d_Numbers_apply_122 ⟨Nat.le_of_ble_eq_true rfl, Nat.le_of_ble_eq_true rfl⟩)) (fun r22 hw => ?_)
        have hw : z22_1 = r22 := hw.symm
        subst hw
        refine lv_i2l (v := z22_1.toInt64) hx hb d_Numbers_apply_125 rfl ?_
        exact hk2_126 z22_1.toInt64 _ _ _ h (hP.sub [0, 1, 2] rfl) (hD.sub [0, 1, 2] (by decide) rfl) hS (lv_sub hl [0, 1, 2, 3, 4] rfl)
      · rw [if_neg c21] at h
        refine lv_iload_n hx hb d_Numbers_apply_97 rfl (lv_at hl 3 rfl) ?_
        refine lv_iload hx hb d_Numbers_apply_98 (lv_at hl 0 rfl) ?_
        refine lv_i2l (v := z4_1.toInt64) hx hb d_Numbers_apply_100 rfl ?_
        refine lv_ldc2 (v := 4294967295) hx hb hown (hg _ k295) d_Numbers_apply_101 ?_
        refine lv_land hx hb d_Numbers_apply_104 ?_
        refine lv_iload_n hx hb d_Numbers_apply_105 rfl (lv_at hl 1 rfl) ?_
        refine lv_i2l (v := z2_1.toInt64) hx hb d_Numbers_apply_106 rfl ?_
        refine lv_ldc2 (v := 4294967295) hx hb hown (hg _ k295) d_Numbers_apply_107 ?_
        refine lv_land hx hb d_Numbers_apply_110 ?_
        obtain ⟨z23_1, hc23, h⟩ := dz_ob h
        try dsimp only at h
        have hPc := hP.sub (ws' := []) [] rfl
        have hKc := hK.sub (tys' := []) [] rfl
        refine vp_callSi (va_Run.run (va_runS (As := [.int p0, .long (z4_1.toInt64 &&& 4294967295), .long (z2_1.toInt64 &&& 4294967295)]) (rest := []) ⟨hx, hb, hml, hown, hg⟩ (c_Numbers_unsigned l dC dI N p0 (z4_1.toInt64 &&& 4294967295) (z2_1.toInt64 &&& 4294967295) z23_1 hc23) (va_cwS 3 hg (gd_S k303 k304 k301 k302) rfl rfl rfl (by decide +kernel) ⟨Nat.le_of_ble_eq_true rfl, Nat.le_of_ble_eq_true rfl⟩) ⟨dz_blindR, fun U hU hW => ⟨rfl, dz_Nw hW hN, by rw [hU]; exact hPc, va_K.moved hW.alike hKc⟩⟩ rfl rfl hl.1 rfl (lv_room (Nat.le_of_ble_eq_true rfl)) d_Numbers_apply_111 ⟨Nat.le_of_ble_eq_true rfl, Nat.le_of_ble_eq_true rfl⟩)) (fun r23 hw => ?_)
        have hw : z23_1 = r23 := hw.symm
        subst hw
        refine lv_i2l (v := z23_1.toInt64) hx hb d_Numbers_apply_114 rfl ?_
        refine lv_goto (tgt := 126) hx hb d_Numbers_apply_115 (by decide) ?_
        exact hk2_126 z23_1.toInt64 _ _ _ h (hP.sub [0, 1, 2] rfl) (hD.sub [0, 1, 2] (by decide) rfl) hS (lv_sub hl [0, 1, 2, 3, 4] rfl)
    · rw [if_pos c20] at h
      refine lv_iload hx hb d_Numbers_apply_81 (lv_at hl 0 rfl) ?_
      refine lv_i2l (v := z4_1.toInt64) hx hb d_Numbers_apply_83 rfl ?_
      refine lv_ldc2 (v := 4294967295) hx hb hown (hg _ k295) d_Numbers_apply_84 ?_
      refine lv_land hx hb d_Numbers_apply_87 ?_
      refine lv_goto (tgt := 126) hx hb d_Numbers_apply_88 (by decide) ?_
      exact hk2_126 (z4_1.toInt64 &&& 4294967295) _ _ _ h (hP.sub [0, 1, 2] rfl) (hD.sub [0, 1, 2] (by decide) rfl) hS (lv_sub hl [0, 1, 2, 3, 4] rfl)
  · rw [if_neg c19] at h
    refine lv_iload_n hx hb d_Numbers_apply_63 rfl (lv_at hl 3 rfl) ?_
    refine lv_iload hx hb d_Numbers_apply_64 (lv_at hl 0 rfl) ?_
    refine lv_i2l (v := z4_1.toInt64) hx hb d_Numbers_apply_66 rfl ?_
    refine lv_iload_n hx hb d_Numbers_apply_67 rfl (lv_at hl 1 rfl) ?_
    refine lv_i2l (v := z2_1.toInt64) hx hb d_Numbers_apply_68 rfl ?_
    obtain ⟨z24_1, hc24, h⟩ := dz_ob h
    try dsimp only at h
    have hPc := hP.sub (ws' := []) [] rfl
    have hKc := hK.sub (tys' := []) [] rfl
    refine vp_callSl (va_Run.run (va_runS (As := [.int p0, .long z4_1.toInt64, .long z2_1.toInt64]) (rest := []) ⟨hx, hb, hml, hown, hg⟩ (c_Numbers_signed l dC dI N p0 z4_1.toInt64 z2_1.toInt64 z24_1 hc24) (va_cwS 3 hg (gd_S k306 k307 k301 k305) rfl rfl rfl (by decide +kernel) ⟨Nat.le_of_ble_eq_true rfl, Nat.le_of_ble_eq_true rfl⟩) ⟨dz_blindR, fun U hU hW => ⟨rfl, dz_Nw hW hN, by rw [hU]; exact hPc, va_K.moved hW.alike hKc⟩⟩ rfl rfl hl.1 rfl (lv_room (Nat.le_of_ble_eq_true rfl)) d_Numbers_apply_69 ⟨Nat.le_of_ble_eq_true rfl, Nat.le_of_ble_eq_true rfl⟩)) (fun r24 hw => ?_)
    have hw : z24_1 = r24 := hw.symm
    subst hw
    refine lv_goto (tgt := 126) hx hb d_Numbers_apply_72 (by decide) ?_
    exact hk2_126 z24_1 _ _ _ h (hP.sub [0, 1, 2] rfl) (hD.sub [0, 1, 2] (by decide) rfl) hS (lv_sub hl [0, 1, 2, 3, 4] rfl)
set_option maxHeartbeats 4000000 in
set_option maxRecDepth 100000 in
theorem c_Numbers_apply (l : Launch) (dC : Nat → ClassId) (dI : Nat → Nat → Nat) (N : Nat) (cL : ClassId) (o_Stacks : Nat) (o_Numbers : Nat) (r_S_values : Nat) (r_S_bases : Nat) (r_S_floors : Nat) (r_S_returns : Nat) (r_S_closures : Nat) (r_S_handlerFrames : Nat) (r_S_handlerPlaces : Nat) (r_S_handlerHeights : Nat) (r_S_handlerDepths : Nat) (S_top : Int32) (S_frames : Int32) (S_handlers : Int32) (n_S_values : Nat) (f_S_values : Nat → Int64) (p0 : Int32) (p1 : Int32) (sz : Nat) (z : Int32 × (Nat → Int64) × Int32) (h : m_Numbers_apply N S_top S_frames S_handlers n_S_values f_S_values p0 p1 = some z) : Met l y_Numbers_apply (.code y_Numbers_apply b_Numbers_apply 7 (some .int) :: lw_g) ({ frames := 2, cells := 0, slots := 0, locals := 49 }) (va_Pc [.ref o_Numbers, .int p0, .int p1] (fun U => dz_N U ∧ U.heap.size = sz ∧ va_P (dC, dI) classes [(o_Stacks, .inr (2, [.ref r_S_values, .int S_top, .ref r_S_bases, .ref r_S_floors, .ref r_S_returns, .ref r_S_closures, .int S_frames, .ref r_S_handlerFrames, .ref r_S_handlerPlaces, .ref r_S_handlerHeights, .ref r_S_handlerDepths, .int S_handlers])), (o_Numbers, .inr (6, [.ref o_Stacks])), (r_S_values, .inl (cL, n_S_values, .inr (.inl f_S_values)))] U.heap ∧ va_K (dC, dI) classes [(cL, .long)] U ∧ va_D (fun _ => True) [(o_Stacks, .inr (2, [.ref r_S_values, .int S_top, .ref r_S_bases, .ref r_S_floors, .ref r_S_returns, .ref r_S_closures, .int S_frames, .ref r_S_handlerFrames, .ref r_S_handlerPlaces, .ref r_S_handlerHeights, .ref r_S_handlerDepths, .int S_handlers])), (o_Numbers, .inr (6, [.ref o_Stacks])), (r_S_values, .inl (cL, n_S_values, .inr (.inl f_S_values)))])) (va_Qi (fun (r : Int32) (_ : Unit) => r = z.1) (fun (u : Unit) t => va_P (dC, dI) classes [(o_Stacks, .inr (2, [.ref r_S_values, .int z.2.2, .ref r_S_bases, .ref r_S_floors, .ref r_S_returns, .ref r_S_closures, .int S_frames, .ref r_S_handlerFrames, .ref r_S_handlerPlaces, .ref r_S_handlerHeights, .ref r_S_handlerDepths, .int S_handlers])), (o_Numbers, .inr (6, [.ref o_Stacks])), (r_S_values, .inl (cL, n_S_values, .inr (.inl z.2.1)))] t.heap ∧ va_K (dC, dI) classes [(cL, .long)] t ∧ va_D (va_A [(o_Stacks, .inr (2, [.ref r_S_values, .int S_top, .ref r_S_bases, .ref r_S_floors, .ref r_S_returns, .ref r_S_closures, .int S_frames, .ref r_S_handlerFrames, .ref r_S_handlerPlaces, .ref r_S_handlerHeights, .ref r_S_handlerDepths, .int S_handlers])), (o_Numbers, .inr (6, [.ref o_Stacks])), (r_S_values, .inl (cL, n_S_values, .inr (.inl f_S_values)))] sz) [(o_Stacks, .inr (2, [.ref r_S_values, .int z.2.2, .ref r_S_bases, .ref r_S_floors, .ref r_S_returns, .ref r_S_closures, .int S_frames, .ref r_S_handlerFrames, .ref r_S_handlerPlaces, .ref r_S_handlerHeights, .ref r_S_handlerDepths, .int S_handlers])), (o_Numbers, .inr (6, [.ref o_Stacks])), (r_S_values, .inl (cL, n_S_values, .inr (.inl z.2.1)))]) (va_A [(o_Stacks, .inr (2, [.ref r_S_values, .int S_top, .ref r_S_bases, .ref r_S_floors, .ref r_S_returns, .ref r_S_closures, .int S_frames, .ref r_S_handlerFrames, .ref r_S_handlerPlaces, .ref r_S_handlerHeights, .ref r_S_handlerDepths, .int S_handlers])), (o_Numbers, .inr (6, [.ref o_Stacks])), (r_S_values, .inl (cL, n_S_values, .inr (.inl f_S_values)))] sz)) 0 0 (va_A [(o_Stacks, .inr (2, [.ref r_S_values, .int S_top, .ref r_S_bases, .ref r_S_floors, .ref r_S_returns, .ref r_S_closures, .int S_frames, .ref r_S_handlerFrames, .ref r_S_handlerPlaces, .ref r_S_handlerHeights, .ref r_S_handlerDepths, .int S_handlers])), (o_Numbers, .inr (6, [.ref o_Stacks])), (r_S_values, .inl (cL, n_S_values, .inr (.inl f_S_values)))] sz) := by
  refine Met.ofW (cc := b_Numbers_apply) (maxL := 7) (ret := (some .int)) (by decide +kernel) rfl ?_
  intro p e s m args below meth c s₁ B hml hv
  obtain ⟨rfl, hN, hsz, hP, hK, hD0⟩ := hv
  have hx := B.exec
  have hb := B.bytes
  have hr := B.returns
  have hg : ∀ w ∈ lw_g, w.before _ s = true := fun w hw => atoms_spec (ws := .code y_Numbers_apply b_Numbers_apply 7 (some .int) :: lw_g) B.pre w (List.mem_cons_of_mem _ hw)
  have hown : s.vm.findClass R_Numbers = some m.cls := findClass_of_methodNamed B.named
  have hlocks := B.notSynchronized
  clear B
  subst hsz
  have hD := hD0.self (sz := s.heap.size)
  generalize hAe : va_A [(o_Stacks, .inr (2, [.ref r_S_values, .int S_top, .ref r_S_bases, .ref r_S_floors, .ref r_S_returns, .ref r_S_closures, .int S_frames, .ref r_S_handlerFrames, .ref r_S_handlerPlaces, .ref r_S_handlerHeights, .ref r_S_handlerDepths, .int S_handlers])), (o_Numbers, .inr (6, [.ref o_Stacks])), (r_S_values, .inl (cL, n_S_values, .inr (.inl f_S_values)))] s.heap.size = A at hD ⊢
  have hA : ∀ q : Nat, s.heap.size ≤ q → A q := fun q h => by rw [← hAe]; exact Or.inr h
  have hS : va_S A s.heap s.heap [] := va_S.rf
  have hP : va_P (dC, dI) classes [(o_Stacks, .inr (2, [.ref r_S_values, .int S_top, .ref r_S_bases, .ref r_S_floors, .ref r_S_returns, .ref r_S_closures, .int S_frames, .ref r_S_handlerFrames, .ref r_S_handlerPlaces, .ref r_S_handlerHeights, .ref r_S_handlerDepths, .int S_handlers])), (o_Numbers, .inr (6, [.ref o_Stacks])), (r_S_values, .inl (cL, n_S_values, .inr (.inl f_S_values)))] s.heap := hP
  have hl := lv_entry ([.ref o_Numbers, .int p0, .int p1]) (n := 7) (Nat.le_of_ble_eq_true rfl)
  rw [lg_entry_eq]
  generalize (lg_sl ([.ref o_Numbers, .int p0, .int p1]) ++ List.replicate (7 - (lg_sl ([.ref o_Numbers, .int p0, .int p1])).length) Slot.unset).toArray = ls at hl ⊢
  have hl : lv_has ls 7 [(0, .ref o_Numbers), (1, .int p0), (2, .int p1)] := hl
  unfold m_Numbers_apply at h
  refine lv_aload_n hx hb d_Numbers_apply_0 rfl (lv_at hl 0 rfl) ?_
  refine va_get (D := (dC, dI)) (ci := 6) (v := .ref o_Stacks) (C := R_Numbers) (T := F_Numbers) (N := 1) hx hb hg i_Numbers hown hK hP 1 rfl rfl 0 (by decide) (hg _ k294) (fun _ h9 => h9) rfl d_Numbers_apply_1 ?_
  refine lv_iconst (v := 0) hx hb d_Numbers_apply_4 (by decide) ?_
  obtain ⟨z1_1, hc1, h⟩ := dz_ob h
  try dsimp only at h
  have hPc := hP.sub (ws' := [(o_Stacks, .inr (2, [.ref r_S_values, .int S_top, .ref r_S_bases, .ref r_S_floors, .ref r_S_returns, .ref r_S_closures, .int S_frames, .ref r_S_handlerFrames, .ref r_S_handlerPlaces, .ref r_S_handlerHeights, .ref r_S_handlerDepths, .int S_handlers])), (r_S_values, .inl (cL, n_S_values, .inr (.inl f_S_values)))]) [0, 2] rfl
  have hKc := hK.sub (tys' := [(cL, .long)]) [0] rfl
  refine vp_callSl (va_Run.run (va_runV (As := [.int 0]) (rest := []) ⟨hx, hb, hml, hown, hg⟩ (c_Stacks_peek l dC dI N cL o_Stacks r_S_values r_S_bases r_S_floors r_S_returns r_S_closures r_S_handlerFrames r_S_handlerPlaces r_S_handlerHeights r_S_handlerDepths S_top S_frames S_handlers n_S_values f_S_values (0 : Int32) z1_1 hc1) (cwV 1 hg (gd_V k296 k88 k89 k64 k86) rfl rfl rfl (by decide +kernel) ⟨Nat.le_of_ble_eq_true rfl, Nat.le_of_ble_eq_true rfl⟩) ⟨dz_blindR, va_recv hKc hPc (ci := 2) (q0 := 0) rfl rfl, fun U hU hW => ⟨rfl, dz_Nw hW hN, by rw [hU]; exact hPc, va_K.moved hW.alike hKc⟩⟩ rfl rfl hl.1 rfl (lv_room (Nat.le_of_ble_eq_true rfl)) d_Numbers_apply_5 ⟨Nat.le_of_ble_eq_true rfl, Nat.le_of_ble_eq_true rfl⟩)) (fun r1 hw => ?_)
  have hw : z1_1 = r1 := hw.symm
  subst hw
  obtain ⟨z2_1, hc2, h⟩ := dz_ob h
  try dsimp only at h
  have hPc := hP.sub (ws' := []) [] rfl
  have hKc := hK.sub (tys' := []) [] rfl
  refine vp_callSi (va_Run.run (va_runS (As := [.long z1_1]) (rest := []) ⟨hx, hb, hml, hown, hg⟩ (c_Value_number l dC dI N z1_1 z2_1 hc2) (va_cwS 1 hg (gd_S k297 k139 k122 k137) rfl rfl rfl (by decide +kernel) ⟨Nat.le_of_ble_eq_true rfl, Nat.le_of_ble_eq_true rfl⟩) ⟨dz_blindR, fun U hU hW => ⟨rfl, dz_Nw hW hN, by rw [hU]; exact hPc, va_K.moved hW.alike hKc⟩⟩ rfl rfl hl.1 rfl (lv_room (Nat.le_of_ble_eq_true rfl)) d_Numbers_apply_8 ⟨Nat.le_of_ble_eq_true rfl, Nat.le_of_ble_eq_true rfl⟩)) (fun r2 hw => ?_)
  have hw : z2_1 = r2 := hw.symm
  subst hw
  refine lv_istore_n (lv' := [(3, .int z2_1), (0, .ref o_Numbers), (1, .int p0), (2, .int p1)]) hx hb d_Numbers_apply_11 rfl hl (by decide) rfl (fun ls hl => ?_)
  refine lv_aload_n hx hb d_Numbers_apply_12 rfl (lv_at hl 1 rfl) ?_
  refine va_get (D := (dC, dI)) (ci := 6) (v := .ref o_Stacks) (C := R_Numbers) (T := F_Numbers) (N := 1) hx hb hg i_Numbers hown hK hP 1 rfl rfl 0 (by decide) (hg _ k294) (fun _ h9 => h9) rfl d_Numbers_apply_13 ?_
  refine lv_iload_n hx hb d_Numbers_apply_16 rfl (lv_at hl 3 rfl) ?_
  refine lv_iconst (v := 1) hx hb d_Numbers_apply_17 (by decide) ?_
  refine lv_isub hx hb d_Numbers_apply_18 ?_
  obtain ⟨z3_1, hc3, h⟩ := dz_ob h
  try dsimp only at h
  have hPc := hP.sub (ws' := [(o_Stacks, .inr (2, [.ref r_S_values, .int S_top, .ref r_S_bases, .ref r_S_floors, .ref r_S_returns, .ref r_S_closures, .int S_frames, .ref r_S_handlerFrames, .ref r_S_handlerPlaces, .ref r_S_handlerHeights, .ref r_S_handlerDepths, .int S_handlers])), (r_S_values, .inl (cL, n_S_values, .inr (.inl f_S_values)))]) [0, 2] rfl
  have hKc := hK.sub (tys' := [(cL, .long)]) [0] rfl
  refine vp_callSl (va_Run.run (va_runV (As := [.int (p1 - 1)]) (rest := []) ⟨hx, hb, hml, hown, hg⟩ (c_Stacks_peek l dC dI N cL o_Stacks r_S_values r_S_bases r_S_floors r_S_returns r_S_closures r_S_handlerFrames r_S_handlerPlaces r_S_handlerHeights r_S_handlerDepths S_top S_frames S_handlers n_S_values f_S_values (p1 - 1) z3_1 hc3) (cwV 1 hg (gd_V k296 k88 k89 k64 k86) rfl rfl rfl (by decide +kernel) ⟨Nat.le_of_ble_eq_true rfl, Nat.le_of_ble_eq_true rfl⟩) ⟨dz_blindR, va_recv hKc hPc (ci := 2) (q0 := 0) rfl rfl, fun U hU hW => ⟨rfl, dz_Nw hW hN, by rw [hU]; exact hPc, va_K.moved hW.alike hKc⟩⟩ rfl rfl hl.1 rfl (lv_room (Nat.le_of_ble_eq_true rfl)) d_Numbers_apply_19 ⟨Nat.le_of_ble_eq_true rfl, Nat.le_of_ble_eq_true rfl⟩)) (fun r3 hw => ?_)
  have hw : z3_1 = r3 := hw.symm
  subst hw
  obtain ⟨z4_1, hc4, h⟩ := dz_ob h
  try dsimp only at h
  have hPc := hP.sub (ws' := []) [] rfl
  have hKc := hK.sub (tys' := []) [] rfl
  refine vp_callSi (va_Run.run (va_runS (As := [.long z3_1]) (rest := []) ⟨hx, hb, hml, hown, hg⟩ (c_Value_number l dC dI N z3_1 z4_1 hc4) (va_cwS 1 hg (gd_S k297 k139 k122 k137) rfl rfl rfl (by decide +kernel) ⟨Nat.le_of_ble_eq_true rfl, Nat.le_of_ble_eq_true rfl⟩) ⟨dz_blindR, fun U hU hW => ⟨rfl, dz_Nw hW hN, by rw [hU]; exact hPc, va_K.moved hW.alike hKc⟩⟩ rfl rfl hl.1 rfl (lv_room (Nat.le_of_ble_eq_true rfl)) d_Numbers_apply_22 ⟨Nat.le_of_ble_eq_true rfl, Nat.le_of_ble_eq_true rfl⟩)) (fun r4 hw => ?_)
  have hw : z4_1 = r4 := hw.symm
  subst hw
  refine lv_istore (lv' := [(4, .int z4_1), (3, .int z2_1), (0, .ref o_Numbers), (1, .int p0), (2, .int p1)]) hx hb d_Numbers_apply_25 hl (by decide) rfl (fun ls hl => ?_)
  refine lv_iload_n hx hb d_Numbers_apply_27 rfl (lv_at hl 1 rfl) ?_
  refine lv_if_ne (tgt := 57) hx hb d_Numbers_apply_28 (by decide) (fun c5 => ?_) (fun c5 => ?_)
  · rw [if_neg c5] at h
    refine l_Numbers_apply_1 dC dI N cL o_Stacks o_Numbers r_S_values r_S_bases r_S_floors r_S_returns r_S_closures r_S_handlerFrames r_S_handlerPlaces r_S_handlerHeights r_S_handlerDepths S_top S_frames S_handlers n_S_values f_S_values p0 p1 z2_1 z4_1 hx hb hml hown hg hN hK hA (fun y1_0 H locs ls h hP hD hS hl => ?_)  _ _ _ h (hP.sub [0, 1, 2] rfl) (hD.sub [0, 1, 2] (by decide) rfl) hS (lv_sub hl [0, 1, 2, 3, 4] rfl)
    refine lv_lstore (lv' := [(5, .long y1_0), (4, .int z4_1), (3, .int z2_1), (0, .ref o_Numbers), (1, .int p0), (2, .int p1)]) hx hb d_Numbers_apply_126 hl (by decide) rfl (fun ls hl => ?_)
    refine lv_lload hx hb d_Numbers_apply_128 (lv_at hl 0 rfl) ?_
    refine lv_lload hx hb d_Numbers_apply_130 (lv_at hl 0 rfl) ?_
    refine lv_l2i (v := y1_0.toInt32) hx hb d_Numbers_apply_132 rfl ?_
    refine lv_i2l (v := y1_0.toInt32.toInt64) hx hb d_Numbers_apply_133 rfl ?_
    refine W.lcmp hx hb d_Numbers_apply_134 ?_
    refine lv_if_eq (tgt := 141) hx hb d_Numbers_apply_135 (by decide) (fun c12 => ?_) (fun c12 => ?_)
    · rw [if_pos c12] at h
      refine lv_aload_n hx hb d_Numbers_apply_141 rfl (lv_at hl 3 rfl) ?_
      refine va_get (D := (dC, dI)) (ci := 6) (v := .ref o_Stacks) (C := R_Numbers) (T := F_Numbers) (N := 1) hx hb hg i_Numbers hown hK hP 1 rfl rfl 0 (by decide) (hg _ k294) (fun _ h9 => h9) rfl d_Numbers_apply_142 ?_
      refine lv_iload_n hx hb d_Numbers_apply_145 rfl (lv_at hl 5 rfl) ?_
      refine lv_lload hx hb d_Numbers_apply_146 (lv_at hl 0 rfl) ?_
      refine lv_l2i (v := y1_0.toInt32) hx hb d_Numbers_apply_148 rfl ?_
      obtain ⟨z13_1, hc13, h⟩ := dz_ob h
      try dsimp only at h
      have hPc := hP.sub (ws' := []) [] rfl
      have hKc := hK.sub (tys' := []) [] rfl
      refine vp_callSl (va_Run.run (va_runS (As := [.int y1_0.toInt32]) (rest := [.int p1, .ref o_Stacks]) ⟨hx, hb, hml, hown, hg⟩ (c_Value_scalar l dC dI N y1_0.toInt32 z13_1 hc13) (va_cwS 1 hg (gd_S k308 k247 k122 k245) rfl rfl rfl (by decide +kernel) ⟨Nat.le_of_ble_eq_true rfl, Nat.le_of_ble_eq_true rfl⟩) ⟨dz_blindR, fun U hU hW => ⟨rfl, dz_Nw hW hN, by rw [hU]; exact hPc, va_K.moved hW.alike hKc⟩⟩ rfl rfl hl.1 rfl (lv_room (Nat.le_of_ble_eq_true rfl)) d_Numbers_apply_149 ⟨Nat.le_of_ble_eq_true rfl, Nat.le_of_ble_eq_true rfl⟩)) (fun r13 hw => ?_)
      have hw : z13_1 = r13 := hw.symm
      subst hw
      obtain ⟨⟨z14_1, z14_2, z14_3⟩, hc14, h⟩ := dz_ob h
      try dsimp only at h
      have hPc := hP.sub (ws' := [(o_Stacks, .inr (2, [.ref r_S_values, .int S_top, .ref r_S_bases, .ref r_S_floors, .ref r_S_returns, .ref r_S_closures, .int S_frames, .ref r_S_handlerFrames, .ref r_S_handlerPlaces, .ref r_S_handlerHeights, .ref r_S_handlerDepths, .int S_handlers])), (r_S_values, .inl (cL, n_S_values, .inr (.inl f_S_values)))]) [0, 2] rfl
      have hKc := hK.sub (tys' := [(cL, .long)]) [0] rfl
      have hDc := hD.sub (ws' := [(o_Stacks, .inr (2, [.ref r_S_values, .int S_top, .ref r_S_bases, .ref r_S_floors, .ref r_S_returns, .ref r_S_closures, .int S_frames, .ref r_S_handlerFrames, .ref r_S_handlerPlaces, .ref r_S_handlerHeights, .ref r_S_handlerDepths, .int S_handlers])), (r_S_values, .inl (cL, n_S_values, .inr (.inl f_S_values)))]) [0, 2] (by decide) rfl
      have hFc := va_free (wc := [(o_Stacks, .inr (2, [.ref r_S_values, .int S_top, .ref r_S_bases, .ref r_S_floors, .ref r_S_returns, .ref r_S_closures, .int S_frames, .ref r_S_handlerFrames, .ref r_S_handlerPlaces, .ref r_S_handlerHeights, .ref r_S_handlerDepths, .int S_handlers])), (r_S_values, .inl (cL, n_S_values, .inr (.inl f_S_values)))]) hD hS hA [0, 2] rfl
      refine va_calli (va_runV (As := [.int p1, .long z13_1]) (rest := []) ⟨hx, hb, hml, hown, hg⟩ (c_Stacks_replace l dC dI N cL o_Stacks r_S_values r_S_bases r_S_floors r_S_returns r_S_closures r_S_handlerFrames r_S_handlerPlaces r_S_handlerHeights r_S_handlerDepths S_top S_frames S_handlers n_S_values f_S_values p1 z13_1 H.size (z14_1, z14_2, z14_3) hc14) (cwV 2 hg (gd_V k309 k93 k94 k64 k91) rfl rfl rfl (by decide +kernel) ⟨Nat.le_of_ble_eq_true rfl, Nat.le_of_ble_eq_true rfl⟩) ⟨dz_blind, va_recv hKc hPc (ci := 2) (q0 := 0) rfl rfl, fun U hU hW => ⟨rfl, dz_Nw hW hN, by rw [hU], by rw [hU]; exact hPc, va_K.moved hW.alike hKc, hDc.weaken (fun _ _ _ _ => trivial)⟩⟩ rfl rfl hl.1 rfl (lv_room (Nat.le_of_ble_eq_true rfl)) d_Numbers_apply_152 ⟨Nat.le_of_ble_eq_true rfl, Nat.le_of_ble_eq_true rfl⟩) hS (fun q _ h => hFc q h) hFc (fun r14 u14 t14 H1 locs ht hvm hw hB hz1 hk1 hS => ?_)
      obtain ⟨hP1, hK1, hD1⟩ := hB
      rw [ht] at hP1
      obtain ⟨hP, hD⟩ := va_join (wr := [(o_Numbers, .inr (6, [.ref o_Stacks]))]) (w1 := [(o_Stacks, .inr (2, [.ref r_S_values, .int z14_3, .ref r_S_bases, .ref r_S_floors, .ref r_S_returns, .ref r_S_closures, .int S_frames, .ref r_S_handlerFrames, .ref r_S_handlerPlaces, .ref r_S_handlerHeights, .ref r_S_handlerDepths, .int S_handlers])), (r_S_values, .inl (cL, n_S_values, .inr (.inl z14_2)))]) hP hD [0, 2] [1] rfl rfl (by decide) (by decide) hk1 hFc hP1 hD1
      have hw : z14_1 = r14 := hw.symm
      subst hw
      generalize H1 = H at hP hS ⊢
      have hP : va_P (dC, dI) classes [(o_Numbers, .inr (6, [.ref o_Stacks])), (o_Stacks, .inr (2, [.ref r_S_values, .int z14_3, .ref r_S_bases, .ref r_S_floors, .ref r_S_returns, .ref r_S_closures, .int S_frames, .ref r_S_handlerFrames, .ref r_S_handlerPlaces, .ref r_S_handlerHeights, .ref r_S_handlerDepths, .int S_handlers])), (r_S_values, .inl (cL, n_S_values, .inr (.inl z14_2)))] H := hP
      have hD : va_D A [(o_Numbers, .inr (6, [.ref o_Stacks])), (o_Stacks, .inr (2, [.ref r_S_values, .int z14_3, .ref r_S_bases, .ref r_S_floors, .ref r_S_returns, .ref r_S_closures, .int S_frames, .ref r_S_handlerFrames, .ref r_S_handlerPlaces, .ref r_S_handlerHeights, .ref r_S_handlerDepths, .int S_handlers])), (r_S_values, .inl (cL, n_S_values, .inr (.inl z14_2)))] := hD
      obtain rfl := Option.some.inj h
      have hP9 := hP.sub (ws' := [(o_Stacks, .inr (2, [.ref r_S_values, .int z14_3, .ref r_S_bases, .ref r_S_floors, .ref r_S_returns, .ref r_S_closures, .int S_frames, .ref r_S_handlerFrames, .ref r_S_handlerPlaces, .ref r_S_handlerHeights, .ref r_S_handlerDepths, .int S_handlers])), (o_Numbers, .inr (6, [.ref o_Stacks])), (r_S_values, .inl (cL, n_S_values, .inr (.inl z14_2)))]) [1, 0, 2] rfl
      have hD9 := hD.sub (ws' := [(o_Stacks, .inr (2, [.ref r_S_values, .int z14_3, .ref r_S_bases, .ref r_S_floors, .ref r_S_returns, .ref r_S_closures, .int S_frames, .ref r_S_handlerFrames, .ref r_S_handlerPlaces, .ref r_S_handlerHeights, .ref r_S_handlerDepths, .int S_handlers])), (o_Numbers, .inr (6, [.ref o_Stacks])), (r_S_values, .inl (cL, n_S_values, .inr (.inl z14_2)))]) [1, 0, 2] (by decide) rfl
      have hK9 := hK.sub (tys' := [(cL, .long)]) [0] rfl
      exact W.iret (v := z14_1) hx hb hr (fun t ht hW => ⟨⟨z14_1, (), rfl, rfl, by rw [ht]; exact hP9, va_K.moved hW.alike hK9, hD9⟩, hS.F ht⟩) hS.2.2 d_Numbers_apply_155
    · rw [if_neg c12] at h
      refine lv_bipush (v := 18) hx hb d_Numbers_apply_138 (by decide) ?_
      obtain rfl := Option.some.inj h
      have hP9 := hP.sub (ws' := [(o_Stacks, .inr (2, [.ref r_S_values, .int S_top, .ref r_S_bases, .ref r_S_floors, .ref r_S_returns, .ref r_S_closures, .int S_frames, .ref r_S_handlerFrames, .ref r_S_handlerPlaces, .ref r_S_handlerHeights, .ref r_S_handlerDepths, .int S_handlers])), (o_Numbers, .inr (6, [.ref o_Stacks])), (r_S_values, .inl (cL, n_S_values, .inr (.inl f_S_values)))]) [0, 1, 2] rfl
      have hD9 := hD.sub (ws' := [(o_Stacks, .inr (2, [.ref r_S_values, .int S_top, .ref r_S_bases, .ref r_S_floors, .ref r_S_returns, .ref r_S_closures, .int S_frames, .ref r_S_handlerFrames, .ref r_S_handlerPlaces, .ref r_S_handlerHeights, .ref r_S_handlerDepths, .int S_handlers])), (o_Numbers, .inr (6, [.ref o_Stacks])), (r_S_values, .inl (cL, n_S_values, .inr (.inl f_S_values)))]) [0, 1, 2] (by decide) rfl
      have hK9 := hK.sub (tys' := [(cL, .long)]) [0] rfl
      exact W.iret (v := 18) hx hb hr (fun t ht hW => ⟨⟨18, (), rfl, rfl, by rw [ht]; exact hP9, va_K.moved hW.alike hK9, hD9⟩, hS.F ht⟩) hS.2.2 d_Numbers_apply_140
  · rw [if_pos c5] at h
    refine lv_iload_n hx hb d_Numbers_apply_31 rfl (lv_at hl 3 rfl) ?_
    refine lv_iconst (v := 5) hx hb d_Numbers_apply_32 (by decide) ?_
    refine lv_icmp_eq (tgt := 54) hx hb d_Numbers_apply_33 (by decide) (fun c15 => ?_) (fun c15 => ?_)
    · rw [if_pos c15] at h
      refine lv_bipush (v := 19) hx hb d_Numbers_apply_54 (by decide) ?_
      obtain rfl := Option.some.inj h
      have hP9 := hP.sub (ws' := [(o_Stacks, .inr (2, [.ref r_S_values, .int S_top, .ref r_S_bases, .ref r_S_floors, .ref r_S_returns, .ref r_S_closures, .int S_frames, .ref r_S_handlerFrames, .ref r_S_handlerPlaces, .ref r_S_handlerHeights, .ref r_S_handlerDepths, .int S_handlers])), (o_Numbers, .inr (6, [.ref o_Stacks])), (r_S_values, .inl (cL, n_S_values, .inr (.inl f_S_values)))]) [0, 1, 2] rfl
      have hD9 := hD.sub (ws' := [(o_Stacks, .inr (2, [.ref r_S_values, .int S_top, .ref r_S_bases, .ref r_S_floors, .ref r_S_returns, .ref r_S_closures, .int S_frames, .ref r_S_handlerFrames, .ref r_S_handlerPlaces, .ref r_S_handlerHeights, .ref r_S_handlerDepths, .int S_handlers])), (o_Numbers, .inr (6, [.ref o_Stacks])), (r_S_values, .inl (cL, n_S_values, .inr (.inl f_S_values)))]) [0, 1, 2] (by decide) rfl
      have hK9 := hK.sub (tys' := [(cL, .long)]) [0] rfl
      exact W.iret (v := 19) hx hb hr (fun t ht hW => ⟨⟨19, (), rfl, rfl, by rw [ht]; exact hP9, va_K.moved hW.alike hK9, hD9⟩, hS.F ht⟩) hS.2.2 d_Numbers_apply_56
    · rw [if_neg c15] at h
      refine lv_iload_n hx hb d_Numbers_apply_36 rfl (lv_at hl 3 rfl) ?_
      refine lv_bipush (v := 6) hx hb d_Numbers_apply_37 (by decide) ?_
      refine lv_icmp_eq (tgt := 54) hx hb d_Numbers_apply_39 (by decide) (fun c16 => ?_) (fun c16 => ?_)
      · rw [if_pos c16] at h
        refine lv_bipush (v := 19) hx hb d_Numbers_apply_54 (by decide) ?_
        obtain rfl := Option.some.inj h
        have hP9 := hP.sub (ws' := [(o_Stacks, .inr (2, [.ref r_S_values, .int S_top, .ref r_S_bases, .ref r_S_floors, .ref r_S_returns, .ref r_S_closures, .int S_frames, .ref r_S_handlerFrames, .ref r_S_handlerPlaces, .ref r_S_handlerHeights, .ref r_S_handlerDepths, .int S_handlers])), (o_Numbers, .inr (6, [.ref o_Stacks])), (r_S_values, .inl (cL, n_S_values, .inr (.inl f_S_values)))]) [0, 1, 2] rfl
        have hD9 := hD.sub (ws' := [(o_Stacks, .inr (2, [.ref r_S_values, .int S_top, .ref r_S_bases, .ref r_S_floors, .ref r_S_returns, .ref r_S_closures, .int S_frames, .ref r_S_handlerFrames, .ref r_S_handlerPlaces, .ref r_S_handlerHeights, .ref r_S_handlerDepths, .int S_handlers])), (o_Numbers, .inr (6, [.ref o_Stacks])), (r_S_values, .inl (cL, n_S_values, .inr (.inl f_S_values)))]) [0, 1, 2] (by decide) rfl
        have hK9 := hK.sub (tys' := [(cL, .long)]) [0] rfl
        exact W.iret (v := 19) hx hb hr (fun t ht hW => ⟨⟨19, (), rfl, rfl, by rw [ht]; exact hP9, va_K.moved hW.alike hK9, hD9⟩, hS.F ht⟩) hS.2.2 d_Numbers_apply_56
      · rw [if_neg c16] at h
        refine lv_iload_n hx hb d_Numbers_apply_42 rfl (lv_at hl 3 rfl) ?_
        refine lv_bipush (v := 14) hx hb d_Numbers_apply_43 (by decide) ?_
        refine lv_icmp_eq (tgt := 54) hx hb d_Numbers_apply_45 (by decide) (fun c17 => ?_) (fun c17 => ?_)
        · rw [if_pos c17] at h
          refine lv_bipush (v := 19) hx hb d_Numbers_apply_54 (by decide) ?_
          obtain rfl := Option.some.inj h
          have hP9 := hP.sub (ws' := [(o_Stacks, .inr (2, [.ref r_S_values, .int S_top, .ref r_S_bases, .ref r_S_floors, .ref r_S_returns, .ref r_S_closures, .int S_frames, .ref r_S_handlerFrames, .ref r_S_handlerPlaces, .ref r_S_handlerHeights, .ref r_S_handlerDepths, .int S_handlers])), (o_Numbers, .inr (6, [.ref o_Stacks])), (r_S_values, .inl (cL, n_S_values, .inr (.inl f_S_values)))]) [0, 1, 2] rfl
          have hD9 := hD.sub (ws' := [(o_Stacks, .inr (2, [.ref r_S_values, .int S_top, .ref r_S_bases, .ref r_S_floors, .ref r_S_returns, .ref r_S_closures, .int S_frames, .ref r_S_handlerFrames, .ref r_S_handlerPlaces, .ref r_S_handlerHeights, .ref r_S_handlerDepths, .int S_handlers])), (o_Numbers, .inr (6, [.ref o_Stacks])), (r_S_values, .inl (cL, n_S_values, .inr (.inl f_S_values)))]) [0, 1, 2] (by decide) rfl
          have hK9 := hK.sub (tys' := [(cL, .long)]) [0] rfl
          exact W.iret (v := 19) hx hb hr (fun t ht hW => ⟨⟨19, (), rfl, rfl, by rw [ht]; exact hP9, va_K.moved hW.alike hK9, hD9⟩, hS.F ht⟩) hS.2.2 d_Numbers_apply_56
        · rw [if_neg c17] at h
          refine lv_iload_n hx hb d_Numbers_apply_48 rfl (lv_at hl 3 rfl) ?_
          refine lv_bipush (v := 15) hx hb d_Numbers_apply_49 (by decide) ?_
          refine lv_icmp_ne (tgt := 57) hx hb d_Numbers_apply_51 (by decide) (fun c18 => ?_) (fun c18 => ?_)
          · rw [if_neg c18] at h
            refine l_Numbers_apply_2 dC dI N cL o_Stacks o_Numbers r_S_values r_S_bases r_S_floors r_S_returns r_S_closures r_S_handlerFrames r_S_handlerPlaces r_S_handlerHeights r_S_handlerDepths S_top S_frames S_handlers n_S_values f_S_values p0 p1 z2_1 z4_1 hx hb hml hown hg hN hK hA (fun y2_0 H locs ls h hP hD hS hl => ?_)  _ _ _ h (hP.sub [0, 1, 2] rfl) (hD.sub [0, 1, 2] (by decide) rfl) hS (lv_sub hl [0, 1, 2, 3, 4] rfl)
            refine lv_lstore (lv' := [(5, .long y2_0), (4, .int z4_1), (3, .int z2_1), (0, .ref o_Numbers), (1, .int p0), (2, .int p1)]) hx hb d_Numbers_apply_126 hl (by decide) rfl (fun ls hl => ?_)
            refine lv_lload hx hb d_Numbers_apply_128 (lv_at hl 0 rfl) ?_
            refine lv_lload hx hb d_Numbers_apply_130 (lv_at hl 0 rfl) ?_
            refine lv_l2i (v := y2_0.toInt32) hx hb d_Numbers_apply_132 rfl ?_
            refine lv_i2l (v := y2_0.toInt32.toInt64) hx hb d_Numbers_apply_133 rfl ?_
            refine W.lcmp hx hb d_Numbers_apply_134 ?_
            refine lv_if_eq (tgt := 141) hx hb d_Numbers_apply_135 (by decide) (fun c25 => ?_) (fun c25 => ?_)
            · rw [if_pos c25] at h
              refine lv_aload_n hx hb d_Numbers_apply_141 rfl (lv_at hl 3 rfl) ?_
              refine va_get (D := (dC, dI)) (ci := 6) (v := .ref o_Stacks) (C := R_Numbers) (T := F_Numbers) (N := 1) hx hb hg i_Numbers hown hK hP 1 rfl rfl 0 (by decide) (hg _ k294) (fun _ h9 => h9) rfl d_Numbers_apply_142 ?_
              refine lv_iload_n hx hb d_Numbers_apply_145 rfl (lv_at hl 5 rfl) ?_
              refine lv_lload hx hb d_Numbers_apply_146 (lv_at hl 0 rfl) ?_
              refine lv_l2i (v := y2_0.toInt32) hx hb d_Numbers_apply_148 rfl ?_
              obtain ⟨z26_1, hc26, h⟩ := dz_ob h
              try dsimp only at h
              have hPc := hP.sub (ws' := []) [] rfl
              have hKc := hK.sub (tys' := []) [] rfl
              refine vp_callSl (va_Run.run (va_runS (As := [.int y2_0.toInt32]) (rest := [.int p1, .ref o_Stacks]) ⟨hx, hb, hml, hown, hg⟩ (c_Value_scalar l dC dI N y2_0.toInt32 z26_1 hc26) (va_cwS 1 hg (gd_S k308 k247 k122 k245) rfl rfl rfl (by decide +kernel) ⟨Nat.le_of_ble_eq_true rfl, Nat.le_of_ble_eq_true rfl⟩) ⟨dz_blindR, fun U hU hW => ⟨rfl, dz_Nw hW hN, by rw [hU]; exact hPc, va_K.moved hW.alike hKc⟩⟩ rfl rfl hl.1 rfl (lv_room (Nat.le_of_ble_eq_true rfl)) d_Numbers_apply_149 ⟨Nat.le_of_ble_eq_true rfl, Nat.le_of_ble_eq_true rfl⟩)) (fun r26 hw => ?_)
              have hw : z26_1 = r26 := hw.symm
              subst hw
              obtain ⟨⟨z27_1, z27_2, z27_3⟩, hc27, h⟩ := dz_ob h
              try dsimp only at h
              have hPc := hP.sub (ws' := [(o_Stacks, .inr (2, [.ref r_S_values, .int S_top, .ref r_S_bases, .ref r_S_floors, .ref r_S_returns, .ref r_S_closures, .int S_frames, .ref r_S_handlerFrames, .ref r_S_handlerPlaces, .ref r_S_handlerHeights, .ref r_S_handlerDepths, .int S_handlers])), (r_S_values, .inl (cL, n_S_values, .inr (.inl f_S_values)))]) [0, 2] rfl
              have hKc := hK.sub (tys' := [(cL, .long)]) [0] rfl
              have hDc := hD.sub (ws' := [(o_Stacks, .inr (2, [.ref r_S_values, .int S_top, .ref r_S_bases, .ref r_S_floors, .ref r_S_returns, .ref r_S_closures, .int S_frames, .ref r_S_handlerFrames, .ref r_S_handlerPlaces, .ref r_S_handlerHeights, .ref r_S_handlerDepths, .int S_handlers])), (r_S_values, .inl (cL, n_S_values, .inr (.inl f_S_values)))]) [0, 2] (by decide) rfl
              have hFc := va_free (wc := [(o_Stacks, .inr (2, [.ref r_S_values, .int S_top, .ref r_S_bases, .ref r_S_floors, .ref r_S_returns, .ref r_S_closures, .int S_frames, .ref r_S_handlerFrames, .ref r_S_handlerPlaces, .ref r_S_handlerHeights, .ref r_S_handlerDepths, .int S_handlers])), (r_S_values, .inl (cL, n_S_values, .inr (.inl f_S_values)))]) hD hS hA [0, 2] rfl
              refine va_calli (va_runV (As := [.int p1, .long z26_1]) (rest := []) ⟨hx, hb, hml, hown, hg⟩ (c_Stacks_replace l dC dI N cL o_Stacks r_S_values r_S_bases r_S_floors r_S_returns r_S_closures r_S_handlerFrames r_S_handlerPlaces r_S_handlerHeights r_S_handlerDepths S_top S_frames S_handlers n_S_values f_S_values p1 z26_1 H.size (z27_1, z27_2, z27_3) hc27) (cwV 2 hg (gd_V k309 k93 k94 k64 k91) rfl rfl rfl (by decide +kernel) ⟨Nat.le_of_ble_eq_true rfl, Nat.le_of_ble_eq_true rfl⟩) ⟨dz_blind, va_recv hKc hPc (ci := 2) (q0 := 0) rfl rfl, fun U hU hW => ⟨rfl, dz_Nw hW hN, by rw [hU], by rw [hU]; exact hPc, va_K.moved hW.alike hKc, hDc.weaken (fun _ _ _ _ => trivial)⟩⟩ rfl rfl hl.1 rfl (lv_room (Nat.le_of_ble_eq_true rfl)) d_Numbers_apply_152 ⟨Nat.le_of_ble_eq_true rfl, Nat.le_of_ble_eq_true rfl⟩) hS (fun q _ h => hFc q h) hFc (fun r27 u27 t27 H1 locs ht hvm hw hB hz1 hk1 hS => ?_)
              obtain ⟨hP1, hK1, hD1⟩ := hB
              rw [ht] at hP1
              obtain ⟨hP, hD⟩ := va_join (wr := [(o_Numbers, .inr (6, [.ref o_Stacks]))]) (w1 := [(o_Stacks, .inr (2, [.ref r_S_values, .int z27_3, .ref r_S_bases, .ref r_S_floors, .ref r_S_returns, .ref r_S_closures, .int S_frames, .ref r_S_handlerFrames, .ref r_S_handlerPlaces, .ref r_S_handlerHeights, .ref r_S_handlerDepths, .int S_handlers])), (r_S_values, .inl (cL, n_S_values, .inr (.inl z27_2)))]) hP hD [0, 2] [1] rfl rfl (by decide) (by decide) hk1 hFc hP1 hD1
              have hw : z27_1 = r27 := hw.symm
              subst hw
              generalize H1 = H at hP hS ⊢
              have hP : va_P (dC, dI) classes [(o_Numbers, .inr (6, [.ref o_Stacks])), (o_Stacks, .inr (2, [.ref r_S_values, .int z27_3, .ref r_S_bases, .ref r_S_floors, .ref r_S_returns, .ref r_S_closures, .int S_frames, .ref r_S_handlerFrames, .ref r_S_handlerPlaces, .ref r_S_handlerHeights, .ref r_S_handlerDepths, .int S_handlers])), (r_S_values, .inl (cL, n_S_values, .inr (.inl z27_2)))] H := hP
              have hD : va_D A [(o_Numbers, .inr (6, [.ref o_Stacks])), (o_Stacks, .inr (2, [.ref r_S_values, .int z27_3, .ref r_S_bases, .ref r_S_floors, .ref r_S_returns, .ref r_S_closures, .int S_frames, .ref r_S_handlerFrames, .ref r_S_handlerPlaces, .ref r_S_handlerHeights, .ref r_S_handlerDepths, .int S_handlers])), (r_S_values, .inl (cL, n_S_values, .inr (.inl z27_2)))] := hD
              obtain rfl := Option.some.inj h
              have hP9 := hP.sub (ws' := [(o_Stacks, .inr (2, [.ref r_S_values, .int z27_3, .ref r_S_bases, .ref r_S_floors, .ref r_S_returns, .ref r_S_closures, .int S_frames, .ref r_S_handlerFrames, .ref r_S_handlerPlaces, .ref r_S_handlerHeights, .ref r_S_handlerDepths, .int S_handlers])), (o_Numbers, .inr (6, [.ref o_Stacks])), (r_S_values, .inl (cL, n_S_values, .inr (.inl z27_2)))]) [1, 0, 2] rfl
              have hD9 := hD.sub (ws' := [(o_Stacks, .inr (2, [.ref r_S_values, .int z27_3, .ref r_S_bases, .ref r_S_floors, .ref r_S_returns, .ref r_S_closures, .int S_frames, .ref r_S_handlerFrames, .ref r_S_handlerPlaces, .ref r_S_handlerHeights, .ref r_S_handlerDepths, .int S_handlers])), (o_Numbers, .inr (6, [.ref o_Stacks])), (r_S_values, .inl (cL, n_S_values, .inr (.inl z27_2)))]) [1, 0, 2] (by decide) rfl
              have hK9 := hK.sub (tys' := [(cL, .long)]) [0] rfl
              exact W.iret (v := z27_1) hx hb hr (fun t ht hW => ⟨⟨z27_1, (), rfl, rfl, by rw [ht]; exact hP9, va_K.moved hW.alike hK9, hD9⟩, hS.F ht⟩) hS.2.2 d_Numbers_apply_155
            · rw [if_neg c25] at h
              refine lv_bipush (v := 18) hx hb d_Numbers_apply_138 (by decide) ?_
              obtain rfl := Option.some.inj h
              have hP9 := hP.sub (ws' := [(o_Stacks, .inr (2, [.ref r_S_values, .int S_top, .ref r_S_bases, .ref r_S_floors, .ref r_S_returns, .ref r_S_closures, .int S_frames, .ref r_S_handlerFrames, .ref r_S_handlerPlaces, .ref r_S_handlerHeights, .ref r_S_handlerDepths, .int S_handlers])), (o_Numbers, .inr (6, [.ref o_Stacks])), (r_S_values, .inl (cL, n_S_values, .inr (.inl f_S_values)))]) [0, 1, 2] rfl
              have hD9 := hD.sub (ws' := [(o_Stacks, .inr (2, [.ref r_S_values, .int S_top, .ref r_S_bases, .ref r_S_floors, .ref r_S_returns, .ref r_S_closures, .int S_frames, .ref r_S_handlerFrames, .ref r_S_handlerPlaces, .ref r_S_handlerHeights, .ref r_S_handlerDepths, .int S_handlers])), (o_Numbers, .inr (6, [.ref o_Stacks])), (r_S_values, .inl (cL, n_S_values, .inr (.inl f_S_values)))]) [0, 1, 2] (by decide) rfl
              have hK9 := hK.sub (tys' := [(cL, .long)]) [0] rfl
              exact W.iret (v := 18) hx hb hr (fun t ht hW => ⟨⟨18, (), rfl, rfl, by rw [ht]; exact hP9, va_K.moved hW.alike hK9, hD9⟩, hS.F ht⟩) hS.2.2 d_Numbers_apply_140
          · rw [if_pos c18] at h
            refine lv_bipush (v := 19) hx hb d_Numbers_apply_54 (by decide) ?_
            obtain rfl := Option.some.inj h
            have hP9 := hP.sub (ws' := [(o_Stacks, .inr (2, [.ref r_S_values, .int S_top, .ref r_S_bases, .ref r_S_floors, .ref r_S_returns, .ref r_S_closures, .int S_frames, .ref r_S_handlerFrames, .ref r_S_handlerPlaces, .ref r_S_handlerHeights, .ref r_S_handlerDepths, .int S_handlers])), (o_Numbers, .inr (6, [.ref o_Stacks])), (r_S_values, .inl (cL, n_S_values, .inr (.inl f_S_values)))]) [0, 1, 2] rfl
            have hD9 := hD.sub (ws' := [(o_Stacks, .inr (2, [.ref r_S_values, .int S_top, .ref r_S_bases, .ref r_S_floors, .ref r_S_returns, .ref r_S_closures, .int S_frames, .ref r_S_handlerFrames, .ref r_S_handlerPlaces, .ref r_S_handlerHeights, .ref r_S_handlerDepths, .int S_handlers])), (o_Numbers, .inr (6, [.ref o_Stacks])), (r_S_values, .inl (cL, n_S_values, .inr (.inl f_S_values)))]) [0, 1, 2] (by decide) rfl
            have hK9 := hK.sub (tys' := [(cL, .long)]) [0] rfl
            exact W.iret (v := 19) hx hb hr (fun t ht hW => ⟨⟨19, (), rfl, rfl, by rw [ht]; exact hP9, va_K.moved hW.alike hK9, hD9⟩, hS.F ht⟩) hS.2.2 d_Numbers_apply_56
