theorem d_Model_handle_0 : decode b_Model_handle 0 = .ok (.aload_n 0, 1) := by decide +kernel
theorem d_Model_handle_1 : decode b_Model_handle 1 = .ok (.getfield 182, 3) := by decide +kernel
theorem d_Model_handle_4 : decode b_Model_handle 4 = .ok (.sipush 1024, 3) := by decide +kernel
theorem d_Model_handle_7 : decode b_Model_handle 7 = .ok (.if_icmp .ne 5, 3) := by decide +kernel
theorem d_Model_handle_10 : decode b_Model_handle 10 = .ok (.iconst 3, 1) := by decide +kernel
theorem d_Model_handle_11 : decode b_Model_handle 11 = .ok (.ireturn, 1) := by decide +kernel
theorem d_Model_handle_12 : decode b_Model_handle 12 = .ok (.aload_n 0, 1) := by decide +kernel
theorem d_Model_handle_13 : decode b_Model_handle 13 = .ok (.getfield 69, 3) := by decide +kernel
theorem d_Model_handle_16 : decode b_Model_handle 16 = .ok (.aload_n 0, 1) := by decide +kernel
theorem d_Model_handle_17 : decode b_Model_handle 17 = .ok (.getfield 182, 3) := by decide +kernel
theorem d_Model_handle_20 : decode b_Model_handle 20 = .ok (.aload_n 0, 1) := by decide +kernel
theorem d_Model_handle_21 : decode b_Model_handle 21 = .ok (.getfield 142, 3) := by decide +kernel
theorem d_Model_handle_24 : decode b_Model_handle 24 = .ok (.iconst 1, 1) := by decide +kernel
theorem d_Model_handle_25 : decode b_Model_handle 25 = .ok (.isub, 1) := by decide +kernel
theorem d_Model_handle_26 : decode b_Model_handle 26 = .ok (.iastore, 1) := by decide +kernel
theorem d_Model_handle_27 : decode b_Model_handle 27 = .ok (.aload_n 0, 1) := by decide +kernel
theorem d_Model_handle_28 : decode b_Model_handle 28 = .ok (.getfield 72, 3) := by decide +kernel
theorem d_Model_handle_31 : decode b_Model_handle 31 = .ok (.aload_n 0, 1) := by decide +kernel
theorem d_Model_handle_32 : decode b_Model_handle 32 = .ok (.getfield 182, 3) := by decide +kernel
theorem d_Model_handle_35 : decode b_Model_handle 35 = .ok (.iload_n 1, 1) := by decide +kernel
theorem d_Model_handle_36 : decode b_Model_handle 36 = .ok (.iastore, 1) := by decide +kernel
theorem d_Model_handle_37 : decode b_Model_handle 37 = .ok (.aload_n 0, 1) := by decide +kernel
theorem d_Model_handle_38 : decode b_Model_handle 38 = .ok (.getfield 75, 3) := by decide +kernel
theorem d_Model_handle_41 : decode b_Model_handle 41 = .ok (.aload_n 0, 1) := by decide +kernel
theorem d_Model_handle_42 : decode b_Model_handle 42 = .ok (.getfield 182, 3) := by decide +kernel
theorem d_Model_handle_45 : decode b_Model_handle 45 = .ok (.aload_n 0, 1) := by decide +kernel
theorem d_Model_handle_46 : decode b_Model_handle 46 = .ok (.invokevirtual 218, 3) := by decide +kernel
theorem d_Model_handle_49 : decode b_Model_handle 49 = .ok (.iastore, 1) := by decide +kernel
theorem d_Model_handle_50 : decode b_Model_handle 50 = .ok (.aload_n 0, 1) := by decide +kernel
theorem d_Model_handle_51 : decode b_Model_handle 51 = .ok (.getfield 78, 3) := by decide +kernel
theorem d_Model_handle_54 : decode b_Model_handle 54 = .ok (.aload_n 0, 1) := by decide +kernel
theorem d_Model_handle_55 : decode b_Model_handle 55 = .ok (.getfield 182, 3) := by decide +kernel
theorem d_Model_handle_58 : decode b_Model_handle 58 = .ok (.aload_n 0, 1) := by decide +kernel
theorem d_Model_handle_59 : decode b_Model_handle 59 = .ok (.getfield 194, 3) := by decide +kernel
theorem d_Model_handle_62 : decode b_Model_handle 62 = .ok (.iastore, 1) := by decide +kernel
theorem d_Model_handle_63 : decode b_Model_handle 63 = .ok (.aload_n 0, 1) := by decide +kernel
theorem d_Model_handle_64 : decode b_Model_handle 64 = .ok (.dup, 1) := by decide +kernel
theorem d_Model_handle_65 : decode b_Model_handle 65 = .ok (.getfield 182, 3) := by decide +kernel
theorem d_Model_handle_68 : decode b_Model_handle 68 = .ok (.iconst 1, 1) := by decide +kernel
theorem d_Model_handle_69 : decode b_Model_handle 69 = .ok (.iadd, 1) := by decide +kernel
theorem d_Model_handle_70 : decode b_Model_handle 70 = .ok (.putfield 182, 3) := by decide +kernel
theorem d_Model_handle_73 : decode b_Model_handle 73 = .ok (.iconst 5, 1) := by decide +kernel
theorem d_Model_handle_74 : decode b_Model_handle 74 = .ok (.ireturn, 1) := by decide +kernel
theorem d_Model_isName_0 : decode b_Model_isName 0 = .ok (.aload_n 0, 1) := by decide +kernel
theorem d_Model_isName_1 : decode b_Model_isName 1 = .ok (.getfield 63, 3) := by decide +kernel
theorem d_Model_isName_4 : decode b_Model_isName 4 = .ok (.aload_n 0, 1) := by decide +kernel
theorem d_Model_isName_5 : decode b_Model_isName 5 = .ok (.getfield 135, 3) := by decide +kernel
theorem d_Model_isName_8 : decode b_Model_isName 8 = .ok (.iload_n 1, 1) := by decide +kernel
theorem d_Model_isName_9 : decode b_Model_isName 9 = .ok (.isub, 1) := by decide +kernel
theorem d_Model_isName_10 : decode b_Model_isName 10 = .ok (.iaload, 1) := by decide +kernel
theorem d_Model_isName_11 : decode b_Model_isName 11 = .ok (.sipush 255, 3) := by decide +kernel
theorem d_Model_isName_14 : decode b_Model_isName 14 = .ok (.iand, 1) := by decide +kernel
theorem d_Model_isName_15 : decode b_Model_isName 15 = .ok (.iconst 1, 1) := by decide +kernel
theorem d_Model_isName_16 : decode b_Model_isName 16 = .ok (.if_icmp .ne 7, 3) := by decide +kernel
theorem d_Model_isName_19 : decode b_Model_isName 19 = .ok (.iconst 1, 1) := by decide +kernel
theorem d_Model_isName_20 : decode b_Model_isName 20 = .ok (.goto 4, 3) := by decide +kernel
theorem d_Model_isName_23 : decode b_Model_isName 23 = .ok (.iconst 0, 1) := by decide +kernel
theorem d_Model_isName_24 : decode b_Model_isName 24 = .ok (.ireturn, 1) := by decide +kernel
theorem d_Model_raise_0 : decode b_Model_raise 0 = .ok (.aload_n 0, 1) := by decide +kernel
theorem d_Model_raise_1 : decode b_Model_raise 1 = .ok (.getfield 182, 3) := by decide +kernel
theorem d_Model_raise_4 : decode b_Model_raise 4 = .ok (.ifCond .ne 36, 3) := by decide +kernel
theorem d_Model_raise_7 : decode b_Model_raise 7 = .ok (.aload_n 0, 1) := by decide +kernel
theorem d_Model_raise_8 : decode b_Model_raise 8 = .ok (.dup, 1) := by decide +kernel
theorem d_Model_raise_9 : decode b_Model_raise 9 = .ok (.getfield 135, 3) := by decide +kernel
theorem d_Model_raise_12 : decode b_Model_raise 12 = .ok (.iload_n 1, 1) := by decide +kernel
theorem d_Model_raise_13 : decode b_Model_raise 13 = .ok (.isub, 1) := by decide +kernel
theorem d_Model_raise_14 : decode b_Model_raise 14 = .ok (.putfield 135, 3) := by decide +kernel
theorem d_Model_raise_17 : decode b_Model_raise 17 = .ok (.aload_n 0, 1) := by decide +kernel
theorem d_Model_raise_18 : decode b_Model_raise 18 = .ok (.iload_n 2, 1) := by decide +kernel
theorem d_Model_raise_19 : decode b_Model_raise 19 = .ok (.putfield 145, 3) := by decide +kernel
theorem d_Model_raise_22 : decode b_Model_raise 22 = .ok (.aload_n 0, 1) := by decide +kernel
theorem d_Model_raise_23 : decode b_Model_raise 23 = .ok (.iload_n 3, 1) := by decide +kernel
theorem d_Model_raise_24 : decode b_Model_raise 24 = .ok (.putfield 148, 3) := by decide +kernel
theorem d_Model_raise_27 : decode b_Model_raise 27 = .ok (.aload_n 0, 1) := by decide +kernel
theorem d_Model_raise_28 : decode b_Model_raise 28 = .ok (.dup, 1) := by decide +kernel
theorem d_Model_raise_29 : decode b_Model_raise 29 = .ok (.getfield 185, 3) := by decide +kernel
theorem d_Model_raise_32 : decode b_Model_raise 32 = .ok (.iload 4, 2) := by decide +kernel
theorem d_Model_raise_34 : decode b_Model_raise 34 = .ok (.iadd, 1) := by decide +kernel
theorem d_Model_raise_35 : decode b_Model_raise 35 = .ok (.putfield 185, 3) := by decide +kernel
theorem d_Model_raise_38 : decode b_Model_raise 38 = .ok (.iconst 1, 1) := by decide +kernel
theorem d_Model_raise_39 : decode b_Model_raise 39 = .ok (.ireturn, 1) := by decide +kernel
theorem d_Model_raise_40 : decode b_Model_raise 40 = .ok (.aload_n 0, 1) := by decide +kernel
theorem d_Model_raise_41 : decode b_Model_raise 41 = .ok (.getfield 182, 3) := by decide +kernel
theorem d_Model_raise_44 : decode b_Model_raise 44 = .ok (.iconst 1, 1) := by decide +kernel
theorem d_Model_raise_45 : decode b_Model_raise 45 = .ok (.isub, 1) := by decide +kernel
theorem d_Model_raise_46 : decode b_Model_raise 46 = .ok (.istore 5, 2) := by decide +kernel
theorem d_Model_raise_48 : decode b_Model_raise 48 = .ok (.aload_n 0, 1) := by decide +kernel
theorem d_Model_raise_49 : decode b_Model_raise 49 = .ok (.getfield 69, 3) := by decide +kernel
theorem d_Model_raise_52 : decode b_Model_raise 52 = .ok (.iload 5, 2) := by decide +kernel
theorem d_Model_raise_54 : decode b_Model_raise 54 = .ok (.iaload, 1) := by decide +kernel
theorem d_Model_raise_55 : decode b_Model_raise 55 = .ok (.istore 6, 2) := by decide +kernel
theorem d_Model_raise_57 : decode b_Model_raise 57 = .ok (.aload_n 0, 1) := by decide +kernel
theorem d_Model_raise_58 : decode b_Model_raise 58 = .ok (.getfield 53, 3) := by decide +kernel
theorem d_Model_raise_61 : decode b_Model_raise 61 = .ok (.iload 6, 2) := by decide +kernel
theorem d_Model_raise_63 : decode b_Model_raise 63 = .ok (.iaload, 1) := by decide +kernel
theorem d_Model_raise_64 : decode b_Model_raise 64 = .ok (.aload_n 0, 1) := by decide +kernel
theorem d_Model_raise_65 : decode b_Model_raise 65 = .ok (.getfield 56, 3) := by decide +kernel
theorem d_Model_raise_68 : decode b_Model_raise 68 = .ok (.iload 6, 2) := by decide +kernel
theorem d_Model_raise_70 : decode b_Model_raise 70 = .ok (.iaload, 1) := by decide +kernel
theorem d_Model_raise_71 : decode b_Model_raise 71 = .ok (.iadd, 1) := by decide +kernel
theorem d_Model_raise_72 : decode b_Model_raise 72 = .ok (.aload_n 0, 1) := by decide +kernel
theorem d_Model_raise_73 : decode b_Model_raise 73 = .ok (.getfield 75, 3) := by decide +kernel
theorem d_Model_raise_76 : decode b_Model_raise 76 = .ok (.iload 5, 2) := by decide +kernel
theorem d_Model_raise_78 : decode b_Model_raise 78 = .ok (.iaload, 1) := by decide +kernel
theorem d_Model_raise_79 : decode b_Model_raise 79 = .ok (.iadd, 1) := by decide +kernel
theorem d_Model_raise_80 : decode b_Model_raise 80 = .ok (.istore 7, 2) := by decide +kernel
theorem d_Model_raise_82 : decode b_Model_raise 82 = .ok (.iload 6, 2) := by decide +kernel
theorem d_Model_raise_84 : decode b_Model_raise 84 = .ok (.aload_n 0, 1) := by decide +kernel
theorem d_Model_raise_85 : decode b_Model_raise 85 = .ok (.getfield 142, 3) := by decide +kernel
theorem d_Model_raise_88 : decode b_Model_raise 88 = .ok (.iconst 1, 1) := by decide +kernel
theorem d_Model_raise_89 : decode b_Model_raise 89 = .ok (.isub, 1) := by decide +kernel
theorem d_Model_raise_90 : decode b_Model_raise 90 = .ok (.if_icmp .ne 12, 3) := by decide +kernel
theorem d_Model_raise_93 : decode b_Model_raise 93 = .ok (.aload_n 0, 1) := by decide +kernel
theorem d_Model_raise_94 : decode b_Model_raise 94 = .ok (.getfield 135, 3) := by decide +kernel
theorem d_Model_raise_97 : decode b_Model_raise 97 = .ok (.iload_n 1, 1) := by decide +kernel
theorem d_Model_raise_98 : decode b_Model_raise 98 = .ok (.isub, 1) := by decide +kernel
theorem d_Model_raise_99 : decode b_Model_raise 99 = .ok (.goto 12, 3) := by decide +kernel
theorem d_Model_raise_102 : decode b_Model_raise 102 = .ok (.aload_n 0, 1) := by decide +kernel
theorem d_Model_raise_103 : decode b_Model_raise 103 = .ok (.getfield 53, 3) := by decide +kernel
theorem d_Model_raise_106 : decode b_Model_raise 106 = .ok (.iload 6, 2) := by decide +kernel
theorem d_Model_raise_108 : decode b_Model_raise 108 = .ok (.iconst 1, 1) := by decide +kernel
theorem d_Model_raise_109 : decode b_Model_raise 109 = .ok (.iadd, 1) := by decide +kernel
theorem d_Model_raise_110 : decode b_Model_raise 110 = .ok (.iaload, 1) := by decide +kernel
theorem d_Model_raise_111 : decode b_Model_raise 111 = .ok (.istore 8, 2) := by decide +kernel
theorem d_Model_raise_113 : decode b_Model_raise 113 = .ok (.iload 8, 2) := by decide +kernel
theorem d_Model_raise_115 : decode b_Model_raise 115 = .ok (.iload 7, 2) := by decide +kernel
theorem d_Model_raise_117 : decode b_Model_raise 117 = .ok (.if_icmp .ge 5, 3) := by decide +kernel
theorem d_Model_raise_120 : decode b_Model_raise 120 = .ok (.iconst 4, 1) := by decide +kernel
theorem d_Model_raise_121 : decode b_Model_raise 121 = .ok (.ireturn, 1) := by decide +kernel
theorem d_Model_raise_122 : decode b_Model_raise 122 = .ok (.aload_n 0, 1) := by decide +kernel
theorem d_Model_raise_123 : decode b_Model_raise 123 = .ok (.iload 5, 2) := by decide +kernel
theorem d_Model_raise_125 : decode b_Model_raise 125 = .ok (.putfield 182, 3) := by decide +kernel
theorem d_Model_raise_128 : decode b_Model_raise 128 = .ok (.aload_n 0, 1) := by decide +kernel
theorem d_Model_raise_129 : decode b_Model_raise 129 = .ok (.iload 6, 2) := by decide +kernel
theorem d_Model_raise_131 : decode b_Model_raise 131 = .ok (.iconst 1, 1) := by decide +kernel
theorem d_Model_raise_132 : decode b_Model_raise 132 = .ok (.iadd, 1) := by decide +kernel
theorem d_Model_raise_133 : decode b_Model_raise 133 = .ok (.putfield 142, 3) := by decide +kernel
theorem d_Model_raise_136 : decode b_Model_raise 136 = .ok (.aload_n 0, 1) := by decide +kernel
theorem d_Model_raise_137 : decode b_Model_raise 137 = .ok (.iload 7, 2) := by decide +kernel
theorem d_Model_raise_139 : decode b_Model_raise 139 = .ok (.putfield 135, 3) := by decide +kernel
theorem d_Model_raise_142 : decode b_Model_raise 142 = .ok (.aload_n 0, 1) := by decide +kernel
theorem d_Model_raise_143 : decode b_Model_raise 143 = .ok (.aload_n 0, 1) := by decide +kernel
theorem d_Model_raise_144 : decode b_Model_raise 144 = .ok (.getfield 78, 3) := by decide +kernel
theorem d_Model_raise_147 : decode b_Model_raise 147 = .ok (.iload 5, 2) := by decide +kernel
theorem d_Model_raise_149 : decode b_Model_raise 149 = .ok (.iaload, 1) := by decide +kernel
theorem d_Model_raise_150 : decode b_Model_raise 150 = .ok (.putfield 194, 3) := by decide +kernel
theorem d_Model_raise_153 : decode b_Model_raise 153 = .ok (.aload_n 0, 1) := by decide +kernel
theorem d_Model_raise_154 : decode b_Model_raise 154 = .ok (.aload_n 0, 1) := by decide +kernel
theorem d_Model_raise_155 : decode b_Model_raise 155 = .ok (.getfield 72, 3) := by decide +kernel
theorem d_Model_raise_158 : decode b_Model_raise 158 = .ok (.iload 5, 2) := by decide +kernel
theorem d_Model_raise_160 : decode b_Model_raise 160 = .ok (.iaload, 1) := by decide +kernel
theorem d_Model_raise_161 : decode b_Model_raise 161 = .ok (.putfield 185, 3) := by decide +kernel
theorem d_Model_raise_164 : decode b_Model_raise 164 = .ok (.aload_n 0, 1) := by decide +kernel
theorem d_Model_raise_165 : decode b_Model_raise 165 = .ok (.iconst 0, 1) := by decide +kernel
theorem d_Model_raise_166 : decode b_Model_raise 166 = .ok (.iload_n 2, 1) := by decide +kernel
theorem d_Model_raise_167 : decode b_Model_raise 167 = .ok (.iload_n 3, 1) := by decide +kernel
theorem d_Model_raise_168 : decode b_Model_raise 168 = .ok (.invokevirtual 207, 3) := by decide +kernel
theorem d_Model_raise_171 : decode b_Model_raise 171 = .ok (.ireturn, 1) := by decide +kernel
theorem d_Model_name_0 : decode b_Model_name 0 = .ok (.iload_n 1, 1) := by decide +kernel
theorem d_Model_name_1 : decode b_Model_name 1 = .ok (.ifCond .lt 10, 3) := by decide +kernel
theorem d_Model_name_4 : decode b_Model_name 4 = .ok (.iload_n 1, 1) := by decide +kernel
theorem d_Model_name_5 : decode b_Model_name 5 = .ok (.ldc_w 324, 3) := by decide +kernel
theorem d_Model_name_8 : decode b_Model_name 8 = .ok (.if_icmp .le 5, 3) := by decide +kernel
theorem d_Model_name_11 : decode b_Model_name 11 = .ok (.iconst 4, 1) := by decide +kernel
theorem d_Model_name_12 : decode b_Model_name 12 = .ok (.ireturn, 1) := by decide +kernel
theorem d_Model_name_13 : decode b_Model_name 13 = .ok (.aload_n 0, 1) := by decide +kernel
theorem d_Model_name_14 : decode b_Model_name 14 = .ok (.getfield 135, 3) := by decide +kernel
theorem d_Model_name_17 : decode b_Model_name 17 = .ok (.ldc 62, 2) := by decide +kernel
theorem d_Model_name_19 : decode b_Model_name 19 = .ok (.if_icmp .ne 5, 3) := by decide +kernel
theorem d_Model_name_22 : decode b_Model_name 22 = .ok (.iconst 3, 1) := by decide +kernel
theorem d_Model_name_23 : decode b_Model_name 23 = .ok (.ireturn, 1) := by decide +kernel
theorem d_Model_name_24 : decode b_Model_name 24 = .ok (.aload_n 0, 1) := by decide +kernel
theorem d_Model_name_25 : decode b_Model_name 25 = .ok (.dup, 1) := by decide +kernel
theorem d_Model_name_26 : decode b_Model_name 26 = .ok (.getfield 325, 3) := by decide +kernel
theorem d_Model_name_29 : decode b_Model_name 29 = .ok (.iconst 1, 1) := by decide +kernel
theorem d_Model_name_30 : decode b_Model_name 30 = .ok (.iadd, 1) := by decide +kernel
theorem d_Model_name_31 : decode b_Model_name 31 = .ok (.putfield 325, 3) := by decide +kernel
theorem d_Model_name_34 : decode b_Model_name 34 = .ok (.aload_n 0, 1) := by decide +kernel
theorem d_Model_name_35 : decode b_Model_name 35 = .ok (.iconst 0, 1) := by decide +kernel
theorem d_Model_name_36 : decode b_Model_name 36 = .ok (.iconst 1, 1) := by decide +kernel
theorem d_Model_name_37 : decode b_Model_name 37 = .ok (.iload_n 1, 1) := by decide +kernel
theorem d_Model_name_38 : decode b_Model_name 38 = .ok (.bipush 8, 2) := by decide +kernel
theorem d_Model_name_40 : decode b_Model_name 40 = .ok (.ishl, 1) := by decide +kernel
theorem d_Model_name_41 : decode b_Model_name 41 = .ok (.ior, 1) := by decide +kernel
theorem d_Model_name_42 : decode b_Model_name 42 = .ok (.aload_n 0, 1) := by decide +kernel
theorem d_Model_name_43 : decode b_Model_name 43 = .ok (.getfield 325, 3) := by decide +kernel
theorem d_Model_name_46 : decode b_Model_name 46 = .ok (.invokevirtual 207, 3) := by decide +kernel
theorem d_Model_name_49 : decode b_Model_name 49 = .ok (.ireturn, 1) := by decide +kernel
theorem d_Model_packet_0 : decode b_Model_packet 0 = .ok (.aload_n 0, 1) := by decide +kernel
theorem d_Model_packet_1 : decode b_Model_packet 1 = .ok (.iconst 2, 1) := by decide +kernel
theorem d_Model_packet_2 : decode b_Model_packet 2 = .ok (.invokevirtual 283, 3) := by decide +kernel
theorem d_Model_packet_5 : decode b_Model_packet 5 = .ok (.ifCond .ne 5, 3) := by decide +kernel
theorem d_Model_packet_8 : decode b_Model_packet 8 = .ok (.iconst 4, 1) := by decide +kernel
theorem d_Model_packet_9 : decode b_Model_packet 9 = .ok (.ireturn, 1) := by decide +kernel
theorem d_Model_packet_10 : decode b_Model_packet 10 = .ok (.aload_n 0, 1) := by decide +kernel
theorem d_Model_packet_11 : decode b_Model_packet 11 = .ok (.iconst 2, 1) := by decide +kernel
theorem d_Model_packet_12 : decode b_Model_packet 12 = .ok (.invokevirtual 167, 3) := by decide +kernel
theorem d_Model_packet_15 : decode b_Model_packet 15 = .ok (.ifCond .ne 5, 3) := by decide +kernel
theorem d_Model_packet_18 : decode b_Model_packet 18 = .ok (.iconst 3, 1) := by decide +kernel
theorem d_Model_packet_19 : decode b_Model_packet 19 = .ok (.ireturn, 1) := by decide +kernel
theorem d_Model_packet_20 : decode b_Model_packet 20 = .ok (.aload_n 0, 1) := by decide +kernel
theorem d_Model_packet_21 : decode b_Model_packet 21 = .ok (.bipush 7, 2) := by decide +kernel
theorem d_Model_packet_23 : decode b_Model_packet 23 = .ok (.aload_n 0, 1) := by decide +kernel
theorem d_Model_packet_24 : decode b_Model_packet 24 = .ok (.getfield 63, 3) := by decide +kernel
theorem d_Model_packet_27 : decode b_Model_packet 27 = .ok (.aload_n 0, 1) := by decide +kernel
theorem d_Model_packet_28 : decode b_Model_packet 28 = .ok (.getfield 135, 3) := by decide +kernel
theorem d_Model_packet_31 : decode b_Model_packet 31 = .ok (.iconst 2, 1) := by decide +kernel
theorem d_Model_packet_32 : decode b_Model_packet 32 = .ok (.isub, 1) := by decide +kernel
theorem d_Model_packet_33 : decode b_Model_packet 33 = .ok (.iaload, 1) := by decide +kernel
theorem d_Model_packet_34 : decode b_Model_packet 34 = .ok (.bipush 8, 2) := by decide +kernel
theorem d_Model_packet_36 : decode b_Model_packet 36 = .ok (.iushr, 1) := by decide +kernel
theorem d_Model_packet_37 : decode b_Model_packet 37 = .ok (.aload_n 0, 1) := by decide +kernel
theorem d_Model_packet_38 : decode b_Model_packet 38 = .ok (.getfield 66, 3) := by decide +kernel
theorem d_Model_packet_41 : decode b_Model_packet 41 = .ok (.aload_n 0, 1) := by decide +kernel
theorem d_Model_packet_42 : decode b_Model_packet 42 = .ok (.getfield 135, 3) := by decide +kernel
theorem d_Model_packet_45 : decode b_Model_packet 45 = .ok (.iconst 2, 1) := by decide +kernel
theorem d_Model_packet_46 : decode b_Model_packet 46 = .ok (.isub, 1) := by decide +kernel
theorem d_Model_packet_47 : decode b_Model_packet 47 = .ok (.iaload, 1) := by decide +kernel
theorem d_Model_packet_48 : decode b_Model_packet 48 = .ok (.iconst 2, 1) := by decide +kernel
theorem d_Model_packet_49 : decode b_Model_packet 49 = .ok (.invokevirtual 318, 3) := by decide +kernel
theorem d_Model_packet_52 : decode b_Model_packet 52 = .ok (.istore_n 1, 1) := by decide +kernel
theorem d_Model_packet_53 : decode b_Model_packet 53 = .ok (.aload_n 0, 1) := by decide +kernel
theorem d_Model_packet_54 : decode b_Model_packet 54 = .ok (.getfield 10, 3) := by decide +kernel
theorem d_Model_packet_57 : decode b_Model_packet 57 = .ok (.iload_n 1, 1) := by decide +kernel
theorem d_Model_packet_58 : decode b_Model_packet 58 = .ok (.iconst 1, 1) := by decide +kernel
theorem d_Model_packet_59 : decode b_Model_packet 59 = .ok (.iadd, 1) := by decide +kernel
theorem d_Model_packet_60 : decode b_Model_packet 60 = .ok (.aload_n 0, 1) := by decide +kernel
theorem d_Model_packet_61 : decode b_Model_packet 61 = .ok (.getfield 63, 3) := by decide +kernel
theorem d_Model_packet_64 : decode b_Model_packet 64 = .ok (.aload_n 0, 1) := by decide +kernel
theorem d_Model_packet_65 : decode b_Model_packet 65 = .ok (.getfield 135, 3) := by decide +kernel
theorem d_Model_packet_68 : decode b_Model_packet 68 = .ok (.iconst 1, 1) := by decide +kernel
theorem d_Model_packet_69 : decode b_Model_packet 69 = .ok (.isub, 1) := by decide +kernel
theorem d_Model_packet_70 : decode b_Model_packet 70 = .ok (.iaload, 1) := by decide +kernel
theorem d_Model_packet_71 : decode b_Model_packet 71 = .ok (.iastore, 1) := by decide +kernel
theorem d_Model_packet_72 : decode b_Model_packet 72 = .ok (.aload_n 0, 1) := by decide +kernel
theorem d_Model_packet_73 : decode b_Model_packet 73 = .ok (.getfield 14, 3) := by decide +kernel
theorem d_Model_packet_76 : decode b_Model_packet 76 = .ok (.iload_n 1, 1) := by decide +kernel
theorem d_Model_packet_77 : decode b_Model_packet 77 = .ok (.iconst 1, 1) := by decide +kernel
theorem d_Model_packet_78 : decode b_Model_packet 78 = .ok (.iadd, 1) := by decide +kernel
theorem d_Model_packet_79 : decode b_Model_packet 79 = .ok (.aload_n 0, 1) := by decide +kernel
theorem d_Model_packet_80 : decode b_Model_packet 80 = .ok (.getfield 66, 3) := by decide +kernel
theorem d_Model_packet_83 : decode b_Model_packet 83 = .ok (.aload_n 0, 1) := by decide +kernel
theorem d_Model_packet_84 : decode b_Model_packet 84 = .ok (.getfield 135, 3) := by decide +kernel
theorem d_Model_packet_87 : decode b_Model_packet 87 = .ok (.iconst 1, 1) := by decide +kernel
theorem d_Model_packet_88 : decode b_Model_packet 88 = .ok (.isub, 1) := by decide +kernel
theorem d_Model_packet_89 : decode b_Model_packet 89 = .ok (.iaload, 1) := by decide +kernel
theorem d_Model_packet_90 : decode b_Model_packet 90 = .ok (.iastore, 1) := by decide +kernel
theorem d_Model_packet_91 : decode b_Model_packet 91 = .ok (.aload_n 0, 1) := by decide +kernel
theorem d_Model_packet_92 : decode b_Model_packet 92 = .ok (.iconst 2, 1) := by decide +kernel
theorem d_Model_packet_93 : decode b_Model_packet 93 = .ok (.iconst 2, 1) := by decide +kernel
theorem d_Model_packet_94 : decode b_Model_packet 94 = .ok (.iload_n 1, 1) := by decide +kernel
theorem d_Model_packet_95 : decode b_Model_packet 95 = .ok (.invokevirtual 207, 3) := by decide +kernel
theorem d_Model_packet_98 : decode b_Model_packet 98 = .ok (.ireturn, 1) := by decide +kernel
theorem d_Model_areSame_0 : decode b_Model_areSame 0 = .ok (.iload_n 0, 1) := by decide +kernel
theorem d_Model_areSame_1 : decode b_Model_areSame 1 = .ok (.sipush 255, 3) := by decide +kernel
theorem d_Model_areSame_4 : decode b_Model_areSame 4 = .ok (.iand, 1) := by decide +kernel
theorem d_Model_areSame_5 : decode b_Model_areSame 5 = .ok (.iload_n 2, 1) := by decide +kernel
theorem d_Model_areSame_6 : decode b_Model_areSame 6 = .ok (.sipush 255, 3) := by decide +kernel
theorem d_Model_areSame_9 : decode b_Model_areSame 9 = .ok (.iand, 1) := by decide +kernel
theorem d_Model_areSame_10 : decode b_Model_areSame 10 = .ok (.if_icmp .ne 12, 3) := by decide +kernel
theorem d_Model_areSame_13 : decode b_Model_areSame 13 = .ok (.iload_n 1, 1) := by decide +kernel
theorem d_Model_areSame_14 : decode b_Model_areSame 14 = .ok (.iload_n 3, 1) := by decide +kernel
theorem d_Model_areSame_15 : decode b_Model_areSame 15 = .ok (.if_icmp .ne 7, 3) := by decide +kernel
theorem d_Model_areSame_18 : decode b_Model_areSame 18 = .ok (.iconst 1, 1) := by decide +kernel
theorem d_Model_areSame_19 : decode b_Model_areSame 19 = .ok (.goto 4, 3) := by decide +kernel
theorem d_Model_areSame_22 : decode b_Model_areSame 22 = .ok (.iconst 0, 1) := by decide +kernel
theorem d_Model_areSame_23 : decode b_Model_areSame 23 = .ok (.ireturn, 1) := by decide +kernel
theorem d_Model_isSame_0 : decode b_Model_isSame 0 = .ok (.aload_n 0, 1) := by decide +kernel
theorem d_Model_isSame_1 : decode b_Model_isSame 1 = .ok (.getfield 63, 3) := by decide +kernel
theorem d_Model_isSame_4 : decode b_Model_isSame 4 = .ok (.aload_n 0, 1) := by decide +kernel
theorem d_Model_isSame_5 : decode b_Model_isSame 5 = .ok (.getfield 135, 3) := by decide +kernel
theorem d_Model_isSame_8 : decode b_Model_isSame 8 = .ok (.iload_n 1, 1) := by decide +kernel
theorem d_Model_isSame_9 : decode b_Model_isSame 9 = .ok (.isub, 1) := by decide +kernel
theorem d_Model_isSame_10 : decode b_Model_isSame 10 = .ok (.iaload, 1) := by decide +kernel
theorem d_Model_isSame_11 : decode b_Model_isSame 11 = .ok (.aload_n 0, 1) := by decide +kernel
theorem d_Model_isSame_12 : decode b_Model_isSame 12 = .ok (.getfield 66, 3) := by decide +kernel
theorem d_Model_isSame_15 : decode b_Model_isSame 15 = .ok (.aload_n 0, 1) := by decide +kernel
theorem d_Model_isSame_16 : decode b_Model_isSame 16 = .ok (.getfield 135, 3) := by decide +kernel
theorem d_Model_isSame_19 : decode b_Model_isSame 19 = .ok (.iload_n 1, 1) := by decide +kernel
theorem d_Model_isSame_20 : decode b_Model_isSame 20 = .ok (.isub, 1) := by decide +kernel
theorem d_Model_isSame_21 : decode b_Model_isSame 21 = .ok (.iaload, 1) := by decide +kernel
theorem d_Model_isSame_22 : decode b_Model_isSame 22 = .ok (.aload_n 0, 1) := by decide +kernel
theorem d_Model_isSame_23 : decode b_Model_isSame 23 = .ok (.getfield 63, 3) := by decide +kernel
theorem d_Model_isSame_26 : decode b_Model_isSame 26 = .ok (.aload_n 0, 1) := by decide +kernel
theorem d_Model_isSame_27 : decode b_Model_isSame 27 = .ok (.getfield 135, 3) := by decide +kernel
theorem d_Model_isSame_30 : decode b_Model_isSame 30 = .ok (.iload_n 2, 1) := by decide +kernel
theorem d_Model_isSame_31 : decode b_Model_isSame 31 = .ok (.isub, 1) := by decide +kernel
theorem d_Model_isSame_32 : decode b_Model_isSame 32 = .ok (.iaload, 1) := by decide +kernel
theorem d_Model_isSame_33 : decode b_Model_isSame 33 = .ok (.aload_n 0, 1) := by decide +kernel
theorem d_Model_isSame_34 : decode b_Model_isSame 34 = .ok (.getfield 66, 3) := by decide +kernel
theorem d_Model_isSame_37 : decode b_Model_isSame 37 = .ok (.aload_n 0, 1) := by decide +kernel
theorem d_Model_isSame_38 : decode b_Model_isSame 38 = .ok (.getfield 135, 3) := by decide +kernel
theorem d_Model_isSame_41 : decode b_Model_isSame 41 = .ok (.iload_n 2, 1) := by decide +kernel
theorem d_Model_isSame_42 : decode b_Model_isSame 42 = .ok (.isub, 1) := by decide +kernel
theorem d_Model_isSame_43 : decode b_Model_isSame 43 = .ok (.iaload, 1) := by decide +kernel
theorem d_Model_isSame_44 : decode b_Model_isSame 44 = .ok (.invokestatic 328, 3) := by decide +kernel
theorem d_Model_isSame_47 : decode b_Model_isSame 47 = .ok (.ireturn, 1) := by decide +kernel
theorem d_Model_byteAt_0 : decode b_Model_byteAt 0 = .ok (.aload_n 0, 1) := by decide +kernel
theorem d_Model_byteAt_1 : decode b_Model_byteAt 1 = .ok (.getfield 14, 3) := by decide +kernel
theorem d_Model_byteAt_4 : decode b_Model_byteAt 4 = .ok (.iload_n 1, 1) := by decide +kernel
theorem d_Model_byteAt_5 : decode b_Model_byteAt 5 = .ok (.iconst 1, 1) := by decide +kernel
theorem d_Model_byteAt_6 : decode b_Model_byteAt 6 = .ok (.iadd, 1) := by decide +kernel
theorem d_Model_byteAt_7 : decode b_Model_byteAt 7 = .ok (.iload_n 2, 1) := by decide +kernel
theorem d_Model_byteAt_8 : decode b_Model_byteAt 8 = .ok (.iconst 4, 1) := by decide +kernel
theorem d_Model_byteAt_9 : decode b_Model_byteAt 9 = .ok (.idiv, 1) := by decide +kernel
theorem d_Model_byteAt_10 : decode b_Model_byteAt 10 = .ok (.iadd, 1) := by decide +kernel
theorem d_Model_byteAt_11 : decode b_Model_byteAt 11 = .ok (.iaload, 1) := by decide +kernel
theorem d_Model_byteAt_12 : decode b_Model_byteAt 12 = .ok (.bipush 8, 2) := by decide +kernel
theorem d_Model_byteAt_14 : decode b_Model_byteAt 14 = .ok (.iload_n 2, 1) := by decide +kernel
theorem d_Model_byteAt_15 : decode b_Model_byteAt 15 = .ok (.iconst 4, 1) := by decide +kernel
theorem d_Model_byteAt_16 : decode b_Model_byteAt 16 = .ok (.irem, 1) := by decide +kernel
theorem d_Model_byteAt_17 : decode b_Model_byteAt 17 = .ok (.imul, 1) := by decide +kernel
theorem d_Model_byteAt_18 : decode b_Model_byteAt 18 = .ok (.iushr, 1) := by decide +kernel
theorem d_Model_byteAt_19 : decode b_Model_byteAt 19 = .ok (.sipush 255, 3) := by decide +kernel
theorem d_Model_byteAt_22 : decode b_Model_byteAt 22 = .ok (.iand, 1) := by decide +kernel
theorem d_Model_byteAt_23 : decode b_Model_byteAt 23 = .ok (.ireturn, 1) := by decide +kernel
theorem d_Model_compare_0 : decode b_Model_compare 0 = .ok (.aload_n 0, 1) := by decide +kernel
theorem d_Model_compare_1 : decode b_Model_compare 1 = .ok (.getfield 14, 3) := by decide +kernel
theorem d_Model_compare_4 : decode b_Model_compare 4 = .ok (.iload_n 1, 1) := by decide +kernel
theorem d_Model_compare_5 : decode b_Model_compare 5 = .ok (.iaload, 1) := by decide +kernel
theorem d_Model_compare_6 : decode b_Model_compare 6 = .ok (.aload_n 0, 1) := by decide +kernel
theorem d_Model_compare_7 : decode b_Model_compare 7 = .ok (.getfield 14, 3) := by decide +kernel
theorem d_Model_compare_10 : decode b_Model_compare 10 = .ok (.iload_n 2, 1) := by decide +kernel
theorem d_Model_compare_11 : decode b_Model_compare 11 = .ok (.iaload, 1) := by decide +kernel
theorem d_Model_compare_12 : decode b_Model_compare 12 = .ok (.if_icmp .ge 12, 3) := by decide +kernel
theorem d_Model_compare_15 : decode b_Model_compare 15 = .ok (.aload_n 0, 1) := by decide +kernel
theorem d_Model_compare_16 : decode b_Model_compare 16 = .ok (.getfield 14, 3) := by decide +kernel
theorem d_Model_compare_19 : decode b_Model_compare 19 = .ok (.iload_n 1, 1) := by decide +kernel
theorem d_Model_compare_20 : decode b_Model_compare 20 = .ok (.iaload, 1) := by decide +kernel
theorem d_Model_compare_21 : decode b_Model_compare 21 = .ok (.goto 9, 3) := by decide +kernel
theorem d_Model_compare_24 : decode b_Model_compare 24 = .ok (.aload_n 0, 1) := by decide +kernel
theorem d_Model_compare_25 : decode b_Model_compare 25 = .ok (.getfield 14, 3) := by decide +kernel
theorem d_Model_compare_28 : decode b_Model_compare 28 = .ok (.iload_n 2, 1) := by decide +kernel
theorem d_Model_compare_29 : decode b_Model_compare 29 = .ok (.iaload, 1) := by decide +kernel
theorem d_Model_compare_30 : decode b_Model_compare 30 = .ok (.istore_n 3, 1) := by decide +kernel
theorem d_Model_compare_31 : decode b_Model_compare 31 = .ok (.iconst 0, 1) := by decide +kernel
theorem d_Model_compare_32 : decode b_Model_compare 32 = .ok (.istore 4, 2) := by decide +kernel
theorem d_Model_compare_34 : decode b_Model_compare 34 = .ok (.iload 4, 2) := by decide +kernel
theorem d_Model_compare_36 : decode b_Model_compare 36 = .ok (.iload_n 3, 1) := by decide +kernel
theorem d_Model_compare_37 : decode b_Model_compare 37 = .ok (.if_icmp .ge 42, 3) := by decide +kernel
theorem d_Model_compare_40 : decode b_Model_compare 40 = .ok (.aload_n 0, 1) := by decide +kernel
theorem d_Model_compare_41 : decode b_Model_compare 41 = .ok (.iload_n 1, 1) := by decide +kernel
theorem d_Model_compare_42 : decode b_Model_compare 42 = .ok (.iload 4, 2) := by decide +kernel
theorem d_Model_compare_44 : decode b_Model_compare 44 = .ok (.invokevirtual 350, 3) := by decide +kernel
theorem d_Model_compare_47 : decode b_Model_compare 47 = .ok (.aload_n 0, 1) := by decide +kernel
theorem d_Model_compare_48 : decode b_Model_compare 48 = .ok (.iload_n 2, 1) := by decide +kernel
theorem d_Model_compare_49 : decode b_Model_compare 49 = .ok (.iload 4, 2) := by decide +kernel
theorem d_Model_compare_51 : decode b_Model_compare 51 = .ok (.invokevirtual 350, 3) := by decide +kernel
theorem d_Model_compare_54 : decode b_Model_compare 54 = .ok (.if_icmp .eq 19, 3) := by decide +kernel
theorem d_Model_compare_57 : decode b_Model_compare 57 = .ok (.aload_n 0, 1) := by decide +kernel
theorem d_Model_compare_58 : decode b_Model_compare 58 = .ok (.iload_n 1, 1) := by decide +kernel
theorem d_Model_compare_59 : decode b_Model_compare 59 = .ok (.iload 4, 2) := by decide +kernel
theorem d_Model_compare_61 : decode b_Model_compare 61 = .ok (.invokevirtual 350, 3) := by decide +kernel
theorem d_Model_compare_64 : decode b_Model_compare 64 = .ok (.aload_n 0, 1) := by decide +kernel
theorem d_Model_compare_65 : decode b_Model_compare 65 = .ok (.iload_n 2, 1) := by decide +kernel
theorem d_Model_compare_66 : decode b_Model_compare 66 = .ok (.iload 4, 2) := by decide +kernel
theorem d_Model_compare_68 : decode b_Model_compare 68 = .ok (.invokevirtual 350, 3) := by decide +kernel
theorem d_Model_compare_71 : decode b_Model_compare 71 = .ok (.isub, 1) := by decide +kernel
theorem d_Model_compare_72 : decode b_Model_compare 72 = .ok (.ireturn, 1) := by decide +kernel
theorem d_Model_compare_73 : decode b_Model_compare 73 = .ok (.iinc 4 1, 3) := by decide +kernel
theorem d_Model_compare_76 : decode b_Model_compare 76 = .ok (.goto (-42), 3) := by decide +kernel
theorem d_Model_compare_79 : decode b_Model_compare 79 = .ok (.aload_n 0, 1) := by decide +kernel
theorem d_Model_compare_80 : decode b_Model_compare 80 = .ok (.getfield 14, 3) := by decide +kernel
theorem d_Model_compare_83 : decode b_Model_compare 83 = .ok (.iload_n 1, 1) := by decide +kernel
theorem d_Model_compare_84 : decode b_Model_compare 84 = .ok (.iaload, 1) := by decide +kernel
theorem d_Model_compare_85 : decode b_Model_compare 85 = .ok (.aload_n 0, 1) := by decide +kernel
theorem d_Model_compare_86 : decode b_Model_compare 86 = .ok (.getfield 14, 3) := by decide +kernel
theorem d_Model_compare_89 : decode b_Model_compare 89 = .ok (.iload_n 2, 1) := by decide +kernel
theorem d_Model_compare_90 : decode b_Model_compare 90 = .ok (.iaload, 1) := by decide +kernel
theorem d_Model_compare_91 : decode b_Model_compare 91 = .ok (.isub, 1) := by decide +kernel
theorem d_Model_compare_92 : decode b_Model_compare 92 = .ok (.ireturn, 1) := by decide +kernel
theorem d_Model_leader_0 : decode b_Model_leader 0 = .ok (.iload_n 1, 1) := by decide +kernel
theorem d_Model_leader_1 : decode b_Model_leader 1 = .ok (.istore_n 2, 1) := by decide +kernel
theorem d_Model_leader_2 : decode b_Model_leader 2 = .ok (.aload_n 0, 1) := by decide +kernel
theorem d_Model_leader_3 : decode b_Model_leader 3 = .ok (.getfield 17, 3) := by decide +kernel
theorem d_Model_leader_6 : decode b_Model_leader 6 = .ok (.iload_n 2, 1) := by decide +kernel
theorem d_Model_leader_7 : decode b_Model_leader 7 = .ok (.iaload, 1) := by decide +kernel
theorem d_Model_leader_8 : decode b_Model_leader 8 = .ok (.ifCond .lt 13, 3) := by decide +kernel
theorem d_Model_leader_11 : decode b_Model_leader 11 = .ok (.aload_n 0, 1) := by decide +kernel
theorem d_Model_leader_12 : decode b_Model_leader 12 = .ok (.getfield 17, 3) := by decide +kernel
theorem d_Model_leader_15 : decode b_Model_leader 15 = .ok (.iload_n 2, 1) := by decide +kernel
theorem d_Model_leader_16 : decode b_Model_leader 16 = .ok (.iaload, 1) := by decide +kernel
theorem d_Model_leader_17 : decode b_Model_leader 17 = .ok (.istore_n 2, 1) := by decide +kernel
theorem d_Model_leader_18 : decode b_Model_leader 18 = .ok (.goto (-16), 3) := by decide +kernel
theorem d_Model_leader_21 : decode b_Model_leader 21 = .ok (.iload_n 2, 1) := by decide +kernel
theorem d_Model_leader_22 : decode b_Model_leader 22 = .ok (.ireturn, 1) := by decide +kernel
theorem d_Model_compareLater_0 : decode b_Model_compareLater 0 = .ok (.aload_n 0, 1) := by decide +kernel
theorem d_Model_compareLater_1 : decode b_Model_compareLater 1 = .ok (.getfield 96, 3) := by decide +kernel
theorem d_Model_compareLater_4 : decode b_Model_compareLater 4 = .ok (.aload_n 0, 1) := by decide +kernel
theorem d_Model_compareLater_5 : decode b_Model_compareLater 5 = .ok (.getfield 332, 3) := by decide +kernel
theorem d_Model_compareLater_8 : decode b_Model_compareLater 8 = .ok (.iload_n 1, 1) := by decide +kernel
theorem d_Model_compareLater_9 : decode b_Model_compareLater 9 = .ok (.iastore, 1) := by decide +kernel
theorem d_Model_compareLater_10 : decode b_Model_compareLater 10 = .ok (.aload_n 0, 1) := by decide +kernel
theorem d_Model_compareLater_11 : decode b_Model_compareLater 11 = .ok (.getfield 96, 3) := by decide +kernel
theorem d_Model_compareLater_14 : decode b_Model_compareLater 14 = .ok (.aload_n 0, 1) := by decide +kernel
theorem d_Model_compareLater_15 : decode b_Model_compareLater 15 = .ok (.getfield 332, 3) := by decide +kernel
theorem d_Model_compareLater_18 : decode b_Model_compareLater 18 = .ok (.iconst 1, 1) := by decide +kernel
theorem d_Model_compareLater_19 : decode b_Model_compareLater 19 = .ok (.iadd, 1) := by decide +kernel
theorem d_Model_compareLater_20 : decode b_Model_compareLater 20 = .ok (.iload_n 2, 1) := by decide +kernel
theorem d_Model_compareLater_21 : decode b_Model_compareLater 21 = .ok (.iastore, 1) := by decide +kernel
theorem d_Model_compareLater_22 : decode b_Model_compareLater 22 = .ok (.aload_n 0, 1) := by decide +kernel
theorem d_Model_compareLater_23 : decode b_Model_compareLater 23 = .ok (.getfield 96, 3) := by decide +kernel
theorem d_Model_compareLater_26 : decode b_Model_compareLater 26 = .ok (.aload_n 0, 1) := by decide +kernel
theorem d_Model_compareLater_27 : decode b_Model_compareLater 27 = .ok (.getfield 332, 3) := by decide +kernel
theorem d_Model_compareLater_30 : decode b_Model_compareLater 30 = .ok (.iconst 2, 1) := by decide +kernel
theorem d_Model_compareLater_31 : decode b_Model_compareLater 31 = .ok (.iadd, 1) := by decide +kernel
theorem d_Model_compareLater_32 : decode b_Model_compareLater 32 = .ok (.iload_n 3, 1) := by decide +kernel
theorem d_Model_compareLater_33 : decode b_Model_compareLater 33 = .ok (.iastore, 1) := by decide +kernel
theorem d_Model_compareLater_34 : decode b_Model_compareLater 34 = .ok (.aload_n 0, 1) := by decide +kernel
theorem d_Model_compareLater_35 : decode b_Model_compareLater 35 = .ok (.dup, 1) := by decide +kernel
theorem d_Model_compareLater_36 : decode b_Model_compareLater 36 = .ok (.getfield 332, 3) := by decide +kernel
theorem d_Model_compareLater_39 : decode b_Model_compareLater 39 = .ok (.iconst 3, 1) := by decide +kernel
theorem d_Model_compareLater_40 : decode b_Model_compareLater 40 = .ok (.iadd, 1) := by decide +kernel
theorem d_Model_compareLater_41 : decode b_Model_compareLater 41 = .ok (.putfield 332, 3) := by decide +kernel
theorem d_Model_compareLater_44 : decode b_Model_compareLater 44 = .ok (.return_, 1) := by decide +kernel
theorem d_Model_meets_0 : decode b_Model_meets 0 = .ok (.iload_n 1, 1) := by decide +kernel
theorem d_Model_meets_1 : decode b_Model_meets 1 = .ok (.iload_n 2, 1) := by decide +kernel
theorem d_Model_meets_2 : decode b_Model_meets 2 = .ok (.iload_n 3, 1) := by decide +kernel
theorem d_Model_meets_3 : decode b_Model_meets 3 = .ok (.iload 4, 2) := by decide +kernel
theorem d_Model_meets_5 : decode b_Model_meets 5 = .ok (.invokestatic 328, 3) := by decide +kernel
theorem d_Model_meets_8 : decode b_Model_meets 8 = .ok (.ifCond .eq 5, 3) := by decide +kernel
theorem d_Model_meets_11 : decode b_Model_meets 11 = .ok (.iconst 1, 1) := by decide +kernel
theorem d_Model_meets_12 : decode b_Model_meets 12 = .ok (.ireturn, 1) := by decide +kernel
theorem d_Model_meets_13 : decode b_Model_meets 13 = .ok (.iload_n 1, 1) := by decide +kernel
theorem d_Model_meets_14 : decode b_Model_meets 14 = .ok (.iconst 2, 1) := by decide +kernel
theorem d_Model_meets_15 : decode b_Model_meets 15 = .ok (.if_icmp .ne 22, 3) := by decide +kernel
theorem d_Model_meets_18 : decode b_Model_meets 18 = .ok (.iload_n 3, 1) := by decide +kernel
theorem d_Model_meets_19 : decode b_Model_meets 19 = .ok (.iconst 2, 1) := by decide +kernel
theorem d_Model_meets_20 : decode b_Model_meets 20 = .ok (.if_icmp .ne 17, 3) := by decide +kernel
theorem d_Model_meets_23 : decode b_Model_meets 23 = .ok (.aload_n 0, 1) := by decide +kernel
theorem d_Model_meets_24 : decode b_Model_meets 24 = .ok (.iload_n 2, 1) := by decide +kernel
theorem d_Model_meets_25 : decode b_Model_meets 25 = .ok (.invokevirtual 102, 3) := by decide +kernel
theorem d_Model_meets_28 : decode b_Model_meets 28 = .ok (.aload_n 0, 1) := by decide +kernel
theorem d_Model_meets_29 : decode b_Model_meets 29 = .ok (.iload 4, 2) := by decide +kernel
theorem d_Model_meets_31 : decode b_Model_meets 31 = .ok (.invokevirtual 102, 3) := by decide +kernel
theorem d_Model_meets_34 : decode b_Model_meets 34 = .ok (.if_icmp .eq 5, 3) := by decide +kernel
theorem d_Model_meets_37 : decode b_Model_meets 37 = .ok (.iconst 0, 1) := by decide +kernel
theorem d_Model_meets_38 : decode b_Model_meets 38 = .ok (.ireturn, 1) := by decide +kernel
theorem d_Model_meets_39 : decode b_Model_meets 39 = .ok (.aload_n 0, 1) := by decide +kernel
theorem d_Model_meets_40 : decode b_Model_meets 40 = .ok (.iload_n 2, 1) := by decide +kernel
theorem d_Model_meets_41 : decode b_Model_meets 41 = .ok (.invokevirtual 102, 3) := by decide +kernel
theorem d_Model_meets_44 : decode b_Model_meets 44 = .ok (.istore 5, 2) := by decide +kernel
theorem d_Model_meets_46 : decode b_Model_meets 46 = .ok (.iload 5, 2) := by decide +kernel
theorem d_Model_meets_48 : decode b_Model_meets 48 = .ok (.bipush 6, 2) := by decide +kernel
theorem d_Model_meets_50 : decode b_Model_meets 50 = .ok (.if_icmp .ne 19, 3) := by decide +kernel
theorem d_Model_meets_53 : decode b_Model_meets 53 = .ok (.aload_n 0, 1) := by decide +kernel
theorem d_Model_meets_54 : decode b_Model_meets 54 = .ok (.iload_n 2, 1) := by decide +kernel
theorem d_Model_meets_55 : decode b_Model_meets 55 = .ok (.iload 4, 2) := by decide +kernel
theorem d_Model_meets_57 : decode b_Model_meets 57 = .ok (.invokevirtual 344, 3) := by decide +kernel
theorem d_Model_meets_60 : decode b_Model_meets 60 = .ok (.ifCond .ne 7, 3) := by decide +kernel
theorem d_Model_meets_63 : decode b_Model_meets 63 = .ok (.iconst 1, 1) := by decide +kernel
theorem d_Model_meets_64 : decode b_Model_meets 64 = .ok (.goto 4, 3) := by decide +kernel
theorem d_Model_meets_67 : decode b_Model_meets 67 = .ok (.iconst 0, 1) := by decide +kernel
theorem d_Model_meets_68 : decode b_Model_meets 68 = .ok (.ireturn, 1) := by decide +kernel
theorem d_Model_meets_69 : decode b_Model_meets 69 = .ok (.iload 5, 2) := by decide +kernel
theorem d_Model_meets_71 : decode b_Model_meets 71 = .ok (.iconst 2, 1) := by decide +kernel
theorem d_Model_meets_72 : decode b_Model_meets 72 = .ok (.if_icmp .eq 9, 3) := by decide +kernel
theorem d_Model_meets_75 : decode b_Model_meets 75 = .ok (.iload 5, 2) := by decide +kernel
theorem d_Model_meets_77 : decode b_Model_meets 77 = .ok (.iconst 3, 1) := by decide +kernel
theorem d_Model_meets_78 : decode b_Model_meets 78 = .ok (.if_icmp .ne 41, 3) := by decide +kernel
theorem d_Model_meets_81 : decode b_Model_meets 81 = .ok (.aload_n 0, 1) := by decide +kernel
theorem d_Model_meets_82 : decode b_Model_meets 82 = .ok (.getfield 10, 3) := by decide +kernel
theorem d_Model_meets_85 : decode b_Model_meets 85 = .ok (.iload_n 2, 1) := by decide +kernel
theorem d_Model_meets_86 : decode b_Model_meets 86 = .ok (.iaload, 1) := by decide +kernel
theorem d_Model_meets_87 : decode b_Model_meets 87 = .ok (.aload_n 0, 1) := by decide +kernel
theorem d_Model_meets_88 : decode b_Model_meets 88 = .ok (.getfield 10, 3) := by decide +kernel
theorem d_Model_meets_91 : decode b_Model_meets 91 = .ok (.iload 4, 2) := by decide +kernel
theorem d_Model_meets_93 : decode b_Model_meets 93 = .ok (.iaload, 1) := by decide +kernel
theorem d_Model_meets_94 : decode b_Model_meets 94 = .ok (.if_icmp .ne 25, 3) := by decide +kernel
theorem d_Model_meets_97 : decode b_Model_meets 97 = .ok (.iload 5, 2) := by decide +kernel
theorem d_Model_meets_99 : decode b_Model_meets 99 = .ok (.iconst 3, 1) := by decide +kernel
theorem d_Model_meets_100 : decode b_Model_meets 100 = .ok (.if_icmp .ne 21, 3) := by decide +kernel
theorem d_Model_meets_103 : decode b_Model_meets 103 = .ok (.aload_n 0, 1) := by decide +kernel
theorem d_Model_meets_104 : decode b_Model_meets 104 = .ok (.getfield 14, 3) := by decide +kernel
theorem d_Model_meets_107 : decode b_Model_meets 107 = .ok (.iload_n 2, 1) := by decide +kernel
theorem d_Model_meets_108 : decode b_Model_meets 108 = .ok (.iaload, 1) := by decide +kernel
theorem d_Model_meets_109 : decode b_Model_meets 109 = .ok (.aload_n 0, 1) := by decide +kernel
theorem d_Model_meets_110 : decode b_Model_meets 110 = .ok (.getfield 14, 3) := by decide +kernel
theorem d_Model_meets_113 : decode b_Model_meets 113 = .ok (.iload 4, 2) := by decide +kernel
theorem d_Model_meets_115 : decode b_Model_meets 115 = .ok (.iaload, 1) := by decide +kernel
theorem d_Model_meets_116 : decode b_Model_meets 116 = .ok (.if_icmp .eq 5, 3) := by decide +kernel
theorem d_Model_meets_119 : decode b_Model_meets 119 = .ok (.iconst 0, 1) := by decide +kernel
theorem d_Model_meets_120 : decode b_Model_meets 120 = .ok (.ireturn, 1) := by decide +kernel
theorem d_Model_meets_121 : decode b_Model_meets 121 = .ok (.aload_n 0, 1) := by decide +kernel
theorem d_Model_meets_122 : decode b_Model_meets 122 = .ok (.iload_n 2, 1) := by decide +kernel
theorem d_Model_meets_123 : decode b_Model_meets 123 = .ok (.invokevirtual 347, 3) := by decide +kernel
theorem d_Model_meets_126 : decode b_Model_meets 126 = .ok (.istore 6, 2) := by decide +kernel
theorem d_Model_meets_128 : decode b_Model_meets 128 = .ok (.aload_n 0, 1) := by decide +kernel
theorem d_Model_meets_129 : decode b_Model_meets 129 = .ok (.iload 4, 2) := by decide +kernel
theorem d_Model_meets_131 : decode b_Model_meets 131 = .ok (.invokevirtual 347, 3) := by decide +kernel
theorem d_Model_meets_134 : decode b_Model_meets 134 = .ok (.istore 7, 2) := by decide +kernel
theorem d_Model_meets_136 : decode b_Model_meets 136 = .ok (.iload 6, 2) := by decide +kernel
theorem d_Model_meets_138 : decode b_Model_meets 138 = .ok (.iload 7, 2) := by decide +kernel
theorem d_Model_meets_140 : decode b_Model_meets 140 = .ok (.if_icmp .eq 41, 3) := by decide +kernel
theorem d_Model_meets_143 : decode b_Model_meets 143 = .ok (.aload_n 0, 1) := by decide +kernel
theorem d_Model_meets_144 : decode b_Model_meets 144 = .ok (.getfield 17, 3) := by decide +kernel
theorem d_Model_meets_147 : decode b_Model_meets 147 = .ok (.iload 6, 2) := by decide +kernel
theorem d_Model_meets_149 : decode b_Model_meets 149 = .ok (.iload 7, 2) := by decide +kernel
theorem d_Model_meets_151 : decode b_Model_meets 151 = .ok (.iastore, 1) := by decide +kernel
theorem d_Model_meets_152 : decode b_Model_meets 152 = .ok (.aload_n 0, 1) := by decide +kernel
theorem d_Model_meets_153 : decode b_Model_meets 153 = .ok (.getfield 99, 3) := by decide +kernel
theorem d_Model_meets_156 : decode b_Model_meets 156 = .ok (.aload_n 0, 1) := by decide +kernel
theorem d_Model_meets_157 : decode b_Model_meets 157 = .ok (.getfield 341, 3) := by decide +kernel
theorem d_Model_meets_160 : decode b_Model_meets 160 = .ok (.iload 6, 2) := by decide +kernel
theorem d_Model_meets_162 : decode b_Model_meets 162 = .ok (.iastore, 1) := by decide +kernel
theorem d_Model_meets_163 : decode b_Model_meets 163 = .ok (.aload_n 0, 1) := by decide +kernel
theorem d_Model_meets_164 : decode b_Model_meets 164 = .ok (.dup, 1) := by decide +kernel
theorem d_Model_meets_165 : decode b_Model_meets 165 = .ok (.getfield 341, 3) := by decide +kernel
theorem d_Model_meets_168 : decode b_Model_meets 168 = .ok (.iconst 1, 1) := by decide +kernel
theorem d_Model_meets_169 : decode b_Model_meets 169 = .ok (.iadd, 1) := by decide +kernel
theorem d_Model_meets_170 : decode b_Model_meets 170 = .ok (.putfield 341, 3) := by decide +kernel
theorem d_Model_meets_173 : decode b_Model_meets 173 = .ok (.aload_n 0, 1) := by decide +kernel
theorem d_Model_meets_174 : decode b_Model_meets 174 = .ok (.iload_n 2, 1) := by decide +kernel
theorem d_Model_meets_175 : decode b_Model_meets 175 = .ok (.iload 4, 2) := by decide +kernel
theorem d_Model_meets_177 : decode b_Model_meets 177 = .ok (.iconst 1, 1) := by decide +kernel
theorem d_Model_meets_178 : decode b_Model_meets 178 = .ok (.invokevirtual 338, 3) := by decide +kernel
theorem d_Model_meets_181 : decode b_Model_meets 181 = .ok (.iconst 1, 1) := by decide +kernel
theorem d_Model_meets_182 : decode b_Model_meets 182 = .ok (.ireturn, 1) := by decide +kernel
theorem k825 : Cond.fieldLink R_Model 72 "CellEngineModel" "handlerPlaces" "[I" ∈ lw_g := kg (List.mem_append_right _ (List.mem_of_getElem? (i := 1051) (by decide +kernel))) rfl
theorem k826 : Cond.fieldLink R_Model 75 "CellEngineModel" "handlerHeights" "[I" ∈ lw_g := kg (List.mem_append_right _ (List.mem_of_getElem? (i := 1052) (by decide +kernel))) rfl
theorem k827 : Cond.fieldLink R_Model 78 "CellEngineModel" "handlerDepths" "[I" ∈ lw_g := kg (List.mem_append_right _ (List.mem_of_getElem? (i := 1053) (by decide +kernel))) rfl
theorem k828 : Cond.code y_Model_height b_Model_height 1 (some .int) ∈ lw_g := kg (List.mem_append_right _ (List.mem_of_getElem? (i := 1228) (by decide +kernel))) rfl
theorem k829 : Cond.methodLink R_Model 218 y_Model_height ∈ lw_g := kg (List.mem_append_right _ (List.mem_of_getElem? (i := 1225) (by decide +kernel))) rfl
theorem k830 : Cond.instanceMethod y_Model_height ∈ lw_g := kg (List.mem_append_right _ (List.mem_of_getElem? (i := 1227) (by decide +kernel))) rfl
theorem k831 : Cond.selects R_Model y_Model_height y_Model_height ∈ lw_g := kg (List.mem_append_left _ (List.mem_of_getElem? (i := 42) (by decide +kernel))) rfl
theorem k832 : Cond.constant R_Model 324 65535 ∈ lw_g := kg (List.mem_append_right _ (List.mem_of_getElem? (i := 1380) (by decide +kernel))) rfl
theorem k833 : Cond.fieldLink R_Model 325 "CellEngineModel" "namesMade" "I" ∈ lw_g := kg (List.mem_append_right _ (List.mem_of_getElem? (i := 1023) (by decide +kernel))) rfl
theorem k834 : Cond.code y_Model_isName b_Model_isName 2 (some .boolean) ∈ lw_g := kg (List.mem_append_right _ (List.mem_of_getElem? (i := 1371) (by decide +kernel))) rfl
theorem k835 : Cond.methodLink R_Model 283 y_Model_isName ∈ lw_g := kg (List.mem_append_right _ (List.mem_of_getElem? (i := 1368) (by decide +kernel))) rfl
theorem k836 : Cond.instanceMethod y_Model_isName ∈ lw_g := kg (List.mem_append_right _ (List.mem_of_getElem? (i := 1370) (by decide +kernel))) rfl
theorem k837 : Cond.selects R_Model y_Model_isName y_Model_isName ∈ lw_g := kg (List.mem_append_left _ (List.mem_of_getElem? (i := 77) (by decide +kernel))) rfl
theorem k838 : Cond.code y_Model_areSame b_Model_areSame 4 (some .boolean) ∈ lw_g := kg (List.mem_append_right _ (List.mem_of_getElem? (i := 1391) (by decide +kernel))) rfl
theorem k839 : Cond.methodLink R_Model 328 y_Model_areSame ∈ lw_g := kg (List.mem_append_right _ (List.mem_of_getElem? (i := 1389) (by decide +kernel))) rfl
theorem k840 : Cond.static y_Model_areSame ∈ lw_g := kg (List.mem_append_right _ (List.mem_of_getElem? (i := 1390) (by decide +kernel))) rfl
theorem k841 : Cond.code y_Model_byteAt b_Model_byteAt 3 (some .int) ∈ lw_g := kg (List.mem_append_right _ (List.mem_of_getElem? (i := 1407) (by decide +kernel))) rfl
theorem k842 : Cond.methodLink R_Model 350 y_Model_byteAt ∈ lw_g := kg (List.mem_append_right _ (List.mem_of_getElem? (i := 1404) (by decide +kernel))) rfl
theorem k843 : Cond.instanceMethod y_Model_byteAt ∈ lw_g := kg (List.mem_append_right _ (List.mem_of_getElem? (i := 1406) (by decide +kernel))) rfl
theorem k844 : Cond.selects R_Model y_Model_byteAt y_Model_byteAt ∈ lw_g := kg (List.mem_append_left _ (List.mem_of_getElem? (i := 85) (by decide +kernel))) rfl
theorem k845 : Cond.fieldLink R_Model 96 "CellEngineModel" "pairs" "[I" ∈ lw_g := kg (List.mem_append_right _ (List.mem_of_getElem? (i := 1065) (by decide +kernel))) rfl
theorem k846 : Cond.fieldLink R_Model 332 "CellEngineModel" "paired" "I" ∈ lw_g := kg (List.mem_append_right _ (List.mem_of_getElem? (i := 1066) (by decide +kernel))) rfl
theorem k847 : Cond.fieldLink R_Model 99 "CellEngineModel" "joined" "[I" ∈ lw_g := kg (List.mem_append_right _ (List.mem_of_getElem? (i := 1067) (by decide +kernel))) rfl
theorem k848 : Cond.fieldLink R_Model 341 "CellEngineModel" "joins" "I" ∈ lw_g := kg (List.mem_append_right _ (List.mem_of_getElem? (i := 1068) (by decide +kernel))) rfl
theorem k849 : Cond.code y_Model_leader b_Model_leader 3 (some .int) ∈ lw_g := kg (List.mem_append_right _ (List.mem_of_getElem? (i := 1411) (by decide +kernel))) rfl
theorem k850 : Cond.methodLink R_Model 347 y_Model_leader ∈ lw_g := kg (List.mem_append_right _ (List.mem_of_getElem? (i := 1408) (by decide +kernel))) rfl
theorem k851 : Cond.instanceMethod y_Model_leader ∈ lw_g := kg (List.mem_append_right _ (List.mem_of_getElem? (i := 1410) (by decide +kernel))) rfl
theorem k852 : Cond.selects R_Model y_Model_leader y_Model_leader ∈ lw_g := kg (List.mem_append_left _ (List.mem_of_getElem? (i := 86) (by decide +kernel))) rfl
theorem k853 : Cond.code y_Model_compareLater b_Model_compareLater 4 none ∈ lw_g := kg (List.mem_append_right _ (List.mem_of_getElem? (i := 1415) (by decide +kernel))) rfl
theorem k854 : Cond.methodLink R_Model 338 y_Model_compareLater ∈ lw_g := kg (List.mem_append_right _ (List.mem_of_getElem? (i := 1412) (by decide +kernel))) rfl
theorem k855 : Cond.instanceMethod y_Model_compareLater ∈ lw_g := kg (List.mem_append_right _ (List.mem_of_getElem? (i := 1414) (by decide +kernel))) rfl
theorem k856 : Cond.selects R_Model y_Model_compareLater y_Model_compareLater ∈ lw_g := kg (List.mem_append_left _ (List.mem_of_getElem? (i := 87) (by decide +kernel))) rfl
theorem k857 : Cond.code y_Model_compare b_Model_compare 5 (some .int) ∈ lw_g := kg (List.mem_append_right _ (List.mem_of_getElem? (i := 1403) (by decide +kernel))) rfl
theorem k858 : Cond.methodLink R_Model 344 y_Model_compare ∈ lw_g := kg (List.mem_append_right _ (List.mem_of_getElem? (i := 1400) (by decide +kernel))) rfl
theorem k859 : Cond.instanceMethod y_Model_compare ∈ lw_g := kg (List.mem_append_right _ (List.mem_of_getElem? (i := 1402) (by decide +kernel))) rfl
theorem k860 : Cond.selects R_Model y_Model_compare y_Model_compare ∈ lw_g := kg (List.mem_append_left _ (List.mem_of_getElem? (i := 84) (by decide +kernel))) rfl
set_option maxHeartbeats 4000000 in
set_option maxRecDepth 100000 in
theorem c_Model_handle (l : Launch) (dC : Nat → ClassId) (dI : Nat → Nat → Nat) (N : Nat) (cB : ClassId) (cI : ClassId) (o_Model : Nat) (r : Nat → Nat) (I : Nat → Int32) (F : Nat → Nat → Int32) (p0 : Int32) (sz : Nat) (z : Int32 × (Nat → Nat → Int32) × (Nat → Int32)) (h : m_Model_handle N I F p0 = some z) : Met l y_Model_handle (.code y_Model_handle b_Model_handle 2 (some .int) :: lw_g) ({ frames := 1, cells := 0, slots := 0, locals := 20 }) (va_Pc [.ref o_Model, .int p0] (fun U => dz_N U ∧ U.heap.size = sz ∧ va_P (dC, dI) classes (wD cB cI o_Model r I F) U.heap ∧ va_K (dC, dI) classes [(cB, .byte), (cI, .int)] U ∧ va_D (fun _ => True) (wD cB cI o_Model r I F))) (va_Qi (fun (r : Int32) (_ : Unit) => r = z.1) (fun (u : Unit) t => va_P (dC, dI) classes (wD cB cI o_Model r z.2.2 z.2.1) t.heap ∧ va_K (dC, dI) classes [(cB, .byte), (cI, .int)] t ∧ va_D (va_A (wD cB cI o_Model r I F) sz) (wD cB cI o_Model r z.2.2 z.2.1)) (va_A (wD cB cI o_Model r I F) sz)) 0 0 (va_A (wD cB cI o_Model r I F) sz) := by
  refine Met.ofW (cc := b_Model_handle) (maxL := 2) (ret := (some .int)) (by decide +kernel) rfl ?_
  intro p e s m args below meth c s₁ B hml hv
  obtain ⟨rfl, hN, hsz, hP, hK, hD0⟩ := hv
  have hx := B.exec
  have hb := B.bytes
  have hr := B.returns
  have hg : ∀ w ∈ lw_g, w.before _ s = true := fun w hw => atoms_spec (ws := .code y_Model_handle b_Model_handle 2 (some .int) :: lw_g) B.pre w (List.mem_cons_of_mem _ hw)
  have hown : s.vm.findClass R_Model = some m.cls := findClass_of_methodNamed B.named
  have hlocks := B.notSynchronized
  clear B
  subst hsz
  have hD := hD0.self (sz := s.heap.size)
  generalize hAe : va_A (wD cB cI o_Model r I F) s.heap.size = A at hD ⊢
  have hA : ∀ q : Nat, s.heap.size ≤ q → A q := fun q h => by rw [← hAe]; exact Or.inr h
  have hS : va_S A s.heap s.heap [] := va_S.rf
  have hP : va_P (dC, dI) classes (wD cB cI o_Model r I F) s.heap := hP
  have hl := lv_entry ([.ref o_Model, .int p0]) (n := 2) (Nat.le_of_ble_eq_true rfl)
  rw [lg_entry_eq]
  generalize (lg_sl ([.ref o_Model, .int p0]) ++ List.replicate (2 - (lg_sl ([.ref o_Model, .int p0])).length) Slot.unset).toArray = ls at hl ⊢
  have hl : lv_has ls 2 [(0, .ref o_Model), (1, .int p0)] := hl
  unfold m_Model_handle at h
  refine lv_aload_n hx hb d_Model_handle_0 rfl (lv_at hl 0 rfl) ?_
  refine va_get (D := (dC, dI)) (ci := 10) (v := .int (I 30)) (C := R_Model) (T := F_Model) (N := 54) hx hb hg i_Model hown hK hP 0 rfl rfl 30 (by decide) (hg _ k720) (fun _ h9 => h9) rfl d_Model_handle_1 ?_
  refine lv_sipush (v := 1024) hx hb d_Model_handle_4 (by decide) ?_
  refine lv_icmp_ne (tgt := 12) hx hb d_Model_handle_7 (by decide) (fun c1 => ?_) (fun c1 => ?_)
  · rw [if_neg c1] at h
    refine lv_aload_n hx hb d_Model_handle_12 rfl (lv_at hl 0 rfl) ?_
    refine va_get (D := (dC, dI)) (ci := 10) (v := .ref (r 31)) (C := R_Model) (T := F_Model) (N := 54) hx hb hg i_Model hown hK hP 0 rfl rfl 31 (by decide) (hg _ k812) (fun _ h9 => h9) rfl d_Model_handle_13 ?_
    refine lv_aload_n hx hb d_Model_handle_16 rfl (lv_at hl 0 rfl) ?_
    refine va_get (D := (dC, dI)) (ci := 10) (v := .int (I 30)) (C := R_Model) (T := F_Model) (N := 54) hx hb hg i_Model hown hK hP 0 rfl rfl 30 (by decide) (hg _ k720) (fun _ h9 => h9) rfl d_Model_handle_17 ?_
    refine lv_aload_n hx hb d_Model_handle_20 rfl (lv_at hl 0 rfl) ?_
    refine va_get (D := (dC, dI)) (ci := 10) (v := .int (I 22)) (C := R_Model) (T := F_Model) (N := 54) hx hb hg i_Model hown hK hP 0 rfl rfl 22 (by decide) (hg _ k715) (fun _ h9 => h9) rfl d_Model_handle_21 ?_
    refine lv_iconst (v := 1) hx hb d_Model_handle_24 (by decide) ?_
    refine lv_isub hx hb d_Model_handle_25 ?_
    obtain ⟨i2, h⟩ := dz_oi h
    refine va_iast (D := (dC, dI)) (f := F 31) hx hb hK hP hD hS 19 1 rfl rfl i2 d_Model_handle_26 (fun H locs hP hD hS => ?_)
    obtain ⟨G3, eG3, h⟩ := dz_lt h
    have hP : va_P (dC, dI) classes (wD cB cI o_Model r I G3) H := by rw [eG3]; exact hP
    have hD : va_D A (wD cB cI o_Model r I G3) := by rw [eG3]; exact hD
    refine lv_aload_n hx hb d_Model_handle_27 rfl (lv_at hl 0 rfl) ?_
    refine va_get (D := (dC, dI)) (ci := 10) (v := .ref (r 32)) (C := R_Model) (T := F_Model) (N := 54) hx hb hg i_Model hown hK hP 0 rfl rfl 32 (by decide) (hg _ k825) (fun _ h9 => h9) rfl d_Model_handle_28 ?_
    refine lv_aload_n hx hb d_Model_handle_31 rfl (lv_at hl 0 rfl) ?_
    refine va_get (D := (dC, dI)) (ci := 10) (v := .int (I 30)) (C := R_Model) (T := F_Model) (N := 54) hx hb hg i_Model hown hK hP 0 rfl rfl 30 (by decide) (hg _ k720) (fun _ h9 => h9) rfl d_Model_handle_32 ?_
    refine lv_iload_n hx hb d_Model_handle_35 rfl (lv_at hl 1 rfl) ?_
    obtain ⟨i4, h⟩ := dz_oi h
    refine va_iast (D := (dC, dI)) (f := G3 32) hx hb hK hP hD hS 20 1 rfl rfl i4 d_Model_handle_36 (fun H locs hP hD hS => ?_)
    obtain ⟨G5, eG5, h⟩ := dz_lt h
    have hP : va_P (dC, dI) classes (wD cB cI o_Model r I G5) H := by rw [eG5]; exact hP
    have hD : va_D A (wD cB cI o_Model r I G5) := by rw [eG5]; exact hD
    refine lv_aload_n hx hb d_Model_handle_37 rfl (lv_at hl 0 rfl) ?_
    refine va_get (D := (dC, dI)) (ci := 10) (v := .ref (r 33)) (C := R_Model) (T := F_Model) (N := 54) hx hb hg i_Model hown hK hP 0 rfl rfl 33 (by decide) (hg _ k826) (fun _ h9 => h9) rfl d_Model_handle_38 ?_
    refine lv_aload_n hx hb d_Model_handle_41 rfl (lv_at hl 0 rfl) ?_
    refine va_get (D := (dC, dI)) (ci := 10) (v := .int (I 30)) (C := R_Model) (T := F_Model) (N := 54) hx hb hg i_Model hown hK hP 0 rfl rfl 30 (by decide) (hg _ k720) (fun _ h9 => h9) rfl d_Model_handle_42 ?_
    refine lv_aload_n hx hb d_Model_handle_45 rfl (lv_at hl 0 rfl) ?_
    obtain ⟨z6_1, hc6, h⟩ := dz_ob h
    try dsimp only at h
    have hPc := hP
    have hKc := hK
    refine vp_callSi (va_Run.run (va_runV (As := []) (rest := [.int (I 30), .ref (r 33)]) ⟨hx, hb, hml, hown, hg⟩ (c_Model_height l dC dI N cB cI o_Model r I G5 z6_1 hc6) (cwV 0 hg (gd_V k829 k830 k831 k707 k828) rfl rfl rfl (by decide +kernel) ⟨Nat.le_of_ble_eq_true rfl, Nat.le_of_ble_eq_true rfl⟩) ⟨dz_blindR, va_recv hKc hPc (ci := 10) (q0 := 0) rfl rfl, fun U hU hW => ⟨rfl, dz_Nw hW hN, by rw [hU]; exact hPc, va_K.moved hW.alike hKc⟩⟩ rfl rfl hl.1 rfl (lv_room (Nat.le_of_ble_eq_true rfl)) d_Model_handle_46 ⟨Nat.le_of_ble_eq_true rfl, Nat.le_of_ble_eq_true rfl⟩)) (fun r6 hw => ?_)
    have hw : z6_1 = r6 := hw.symm
    subst hw
    obtain ⟨i7, h⟩ := dz_oi h
    refine va_iast (D := (dC, dI)) (f := G5 33) hx hb hK hP hD hS 21 1 rfl rfl i7 d_Model_handle_49 (fun H locs hP hD hS => ?_)
    obtain ⟨G8, eG8, h⟩ := dz_lt h
    have hP : va_P (dC, dI) classes (wD cB cI o_Model r I G8) H := by rw [eG8]; exact hP
    have hD : va_D A (wD cB cI o_Model r I G8) := by rw [eG8]; exact hD
    refine lv_aload_n hx hb d_Model_handle_50 rfl (lv_at hl 0 rfl) ?_
    refine va_get (D := (dC, dI)) (ci := 10) (v := .ref (r 34)) (C := R_Model) (T := F_Model) (N := 54) hx hb hg i_Model hown hK hP 0 rfl rfl 34 (by decide) (hg _ k827) (fun _ h9 => h9) rfl d_Model_handle_51 ?_
    refine lv_aload_n hx hb d_Model_handle_54 rfl (lv_at hl 0 rfl) ?_
    refine va_get (D := (dC, dI)) (ci := 10) (v := .int (I 30)) (C := R_Model) (T := F_Model) (N := 54) hx hb hg i_Model hown hK hP 0 rfl rfl 30 (by decide) (hg _ k720) (fun _ h9 => h9) rfl d_Model_handle_55 ?_
    refine lv_aload_n hx hb d_Model_handle_58 rfl (lv_at hl 0 rfl) ?_
    refine va_get (D := (dC, dI)) (ci := 10) (v := .int (I 39)) (C := R_Model) (T := F_Model) (N := 54) hx hb hg i_Model hown hK hP 0 rfl rfl 39 (by decide) (hg _ k725) (fun _ h9 => h9) rfl d_Model_handle_59 ?_
    obtain ⟨i9, h⟩ := dz_oi h
    refine va_iast (D := (dC, dI)) (f := G8 34) hx hb hK hP hD hS 22 1 rfl rfl i9 d_Model_handle_62 (fun H locs hP hD hS => ?_)
    obtain ⟨G10, eG10, h⟩ := dz_lt h
    have hP : va_P (dC, dI) classes (wD cB cI o_Model r I G10) H := by rw [eG10]; exact hP
    have hD : va_D A (wD cB cI o_Model r I G10) := by rw [eG10]; exact hD
    refine lv_aload_n hx hb d_Model_handle_63 rfl (lv_at hl 0 rfl) ?_
    refine lv_dup hx hb d_Model_handle_64 rfl ?_
    refine va_get (D := (dC, dI)) (ci := 10) (v := .int (I 30)) (C := R_Model) (T := F_Model) (N := 54) hx hb hg i_Model hown hK hP 0 rfl rfl 30 (by decide) (hg _ k720) (fun _ h9 => h9) rfl d_Model_handle_65 ?_
    refine lv_iconst (v := 1) hx hb d_Model_handle_68 (by decide) ?_
    refine lv_iadd hx hb d_Model_handle_69 ?_
    refine va_put (D := (dC, dI)) (ci := 10) (v := .int ((I 30) + 1)) (ty := .int) (C := R_Model) (T := F_Model) (N := 54) hx hb hg i_Model t_Model t_Model_ok n_Model hown hK hP hD hS 0 rfl rfl 30 (by decide) (hg _ k720) (fun _ h9 => h9) rfl (by decide +kernel) rfl rfl (Nat.le_of_ble_eq_true rfl) d_Model_handle_70 (fun H locs hP hD hS => ?_)
    obtain ⟨J11, eJ11, h⟩ := dz_lt h
    have hP : va_P (dC, dI) classes (wD cB cI o_Model r J11 G10) H := by rw [eJ11]; exact hP
    have hD : va_D A (wD cB cI o_Model r J11 G10) := by rw [eJ11]; exact hD
    refine lv_iconst (v := 5) hx hb d_Model_handle_73 (by decide) ?_
    obtain rfl := Option.some.inj h
    have hP9 := hP
    have hD9 := hD
    have hK9 := hK
    exact W.iret (v := 5) hx hb hr (fun t ht hW => ⟨⟨5, (), rfl, rfl, by rw [ht]; exact hP9, va_K.moved hW.alike hK9, hD9⟩, hS.F ht⟩) hS.2.2 d_Model_handle_74
  · rw [if_pos c1] at h
    refine lv_iconst (v := 3) hx hb d_Model_handle_10 (by decide) ?_
    obtain rfl := Option.some.inj h
    have hP9 := hP
    have hD9 := hD
    have hK9 := hK
    exact W.iret (v := 3) hx hb hr (fun t ht hW => ⟨⟨3, (), rfl, rfl, by rw [ht]; exact hP9, va_K.moved hW.alike hK9, hD9⟩, hS.F ht⟩) hS.2.2 d_Model_handle_11

set_option maxHeartbeats 4000000 in
set_option maxRecDepth 100000 in
theorem c_Model_isName (l : Launch) (dC : Nat → ClassId) (dI : Nat → Nat → Nat) (N : Nat) (cB : ClassId) (cI : ClassId) (o_Model : Nat) (r : Nat → Nat) (I : Nat → Int32) (F : Nat → Nat → Int32) (p0 : Int32) (z : Int32) (h : m_Model_isName N I F p0 = some z) : Met l y_Model_isName (.code y_Model_isName b_Model_isName 2 (some .boolean) :: lw_g) ({ frames := 0, cells := 0, slots := 0, locals := 0 }) (va_Pc [.ref o_Model, .int p0] (fun U => dz_N U ∧ va_P (dC, dI) classes (wD cB cI o_Model r I F) U.heap ∧ va_K (dC, dI) classes [(cB, .byte), (cI, .int)] U)) (vp_Si (fun r => r = z ∧ narrow .boolean (.int z) = .int z ∧ fits .boolean (.int z) = true)) 0 0 (fun _ => False) := by
  refine Met.ofW (cc := b_Model_isName) (maxL := 2) (ret := (some .boolean)) (by decide +kernel) rfl ?_
  intro p e s m args below meth c s₁ B hml hv
  obtain ⟨rfl, hN, hP, hK⟩ := hv
  have hx := B.exec
  have hb := B.bytes
  have hr := B.returns
  have hg : ∀ w ∈ lw_g, w.before _ s = true := fun w hw => atoms_spec (ws := .code y_Model_isName b_Model_isName 2 (some .boolean) :: lw_g) B.pre w (List.mem_cons_of_mem _ hw)
  have hown : s.vm.findClass R_Model = some m.cls := findClass_of_methodNamed B.named
  have hlocks := B.notSynchronized
  clear B
  have hP : va_P (dC, dI) classes (wD cB cI o_Model r I F) s.heap := hP
  have hl := lv_entry ([.ref o_Model, .int p0]) (n := 2) (Nat.le_of_ble_eq_true rfl)
  rw [lg_entry_eq]
  generalize (lg_sl ([.ref o_Model, .int p0]) ++ List.replicate (2 - (lg_sl ([.ref o_Model, .int p0])).length) Slot.unset).toArray = ls at hl ⊢
  have hl : lv_has ls 2 [(0, .ref o_Model), (1, .int p0)] := hl
  unfold m_Model_isName at h
  refine lv_aload_n hx hb d_Model_isName_0 rfl (lv_at hl 0 rfl) ?_
  refine va_get (D := (dC, dI)) (ci := 10) (v := .ref (r 27)) (C := R_Model) (T := F_Model) (N := 54) hx hb hg i_Model hown hK hP 0 rfl rfl 27 (by decide) (hg _ k731) (fun _ h9 => h9) rfl d_Model_isName_1 ?_
  refine lv_aload_n hx hb d_Model_isName_4 rfl (lv_at hl 0 rfl) ?_
  refine va_get (D := (dC, dI)) (ci := 10) (v := .int (I 29)) (C := R_Model) (T := F_Model) (N := 54) hx hb hg i_Model hown hK hP 0 rfl rfl 29 (by decide) (hg _ k719) (fun _ h9 => h9) rfl d_Model_isName_5 ?_
  refine lv_iload_n hx hb d_Model_isName_8 rfl (lv_at hl 1 rfl) ?_
  refine lv_isub hx hb d_Model_isName_9 ?_
  obtain ⟨i1, h⟩ := dz_oi h
  refine va_iald (D := (dC, dI)) (f := F 27) hx hb hK hP 17 1 rfl rfl i1 d_Model_isName_10 ?_
  refine lv_sipush (v := 255) hx hb d_Model_isName_11 (by decide) ?_
  refine lv_iand hx hb d_Model_isName_14 ?_
  refine lv_iconst (v := 1) hx hb d_Model_isName_15 (by decide) ?_
  refine lv_icmp_ne (tgt := 23) hx hb d_Model_isName_16 (by decide) (fun c2 => ?_) (fun c2 => ?_)
  · rw [if_neg c2] at h
    refine lv_iconst (v := 0) hx hb d_Model_isName_23 (by decide) ?_
    obtain rfl := Option.some.inj h
    exact W.zret (v := 0) (ty := .boolean) hx hb hr (show narrow .boolean (.int 0) = .int 0 from rfl) (fun t ht hW => ⟨_, rfl, ⟨rfl, (show narrow .boolean (.int 0) = .int 0 from rfl), (show fits .boolean (.int 0) = true from rfl)⟩, ht⟩) (fun _ h => by cases h) d_Model_isName_24
  · rw [if_pos c2] at h
    refine lv_iconst (v := 1) hx hb d_Model_isName_19 (by decide) ?_
    refine lv_goto (tgt := 24) hx hb d_Model_isName_20 (by decide) ?_
    obtain rfl := Option.some.inj h
    exact W.zret (v := 1) (ty := .boolean) hx hb hr (show narrow .boolean (.int 1) = .int 1 from rfl) (fun t ht hW => ⟨_, rfl, ⟨rfl, (show narrow .boolean (.int 1) = .int 1 from rfl), (show fits .boolean (.int 1) = true from rfl)⟩, ht⟩) (fun _ h => by cases h) d_Model_isName_24

set_option maxHeartbeats 4000000 in
set_option maxRecDepth 100000 in
theorem l_Model_raise_1 {p : Program} {l : Launch} {e : Env} {s : State} {m : MethodId} {args : Array Value} {below : List Frame} {meth : Method} {c : Code} {Q : State → Prop} {A : Nat → Prop} (dC : Nat → ClassId) (dI : Nat → Nat → Nat) (N : Nat) (cB : ClassId) (cI : ClassId) (o_Model : Nat) (r : Nat → Nat) (I : Nat → Int32) (F : Nat → Nat → Int32) (p0 : Int32) (p1 : Int32) (p2 : Int32) (p3 : Int32) (x5 : Int32) {ζ : Type} {z : ζ} (hx : p.tables.exec = Jvm.exec) (hb : c.code = b_Model_raise) (hml : c.maxLocals = 9) (hown : s.vm.findClass R_Model = some m.cls) (hg : ∀ w ∈ lw_g, w.before args s = true) (hN : dz_N s) (hK : va_K (dC, dI) classes [(cB, .byte), (cI, .int)] s) (hA : ∀ q : Nat, s.heap.size ≤ q → A q) {k1_111 : Int32 → Option (ζ)} (hk1_111 : ∀   (y1_0 : Int32)  (H : Heap) (locs : List Loc) (ls : Array Slot), k1_111 y1_0 = some z → va_P (dC, dI) classes (wD cB cI o_Model r I F) H → va_D A (wD cB cI o_Model r I F) → va_S A s.heap H locs → lv_has ls 9 [(7, .int (x5 + ((F 33) ((I 30) - 1).toNatClampNeg))), (6, .int ((F 31) ((I 30) - 1).toNatClampNeg)), (5, .int ((I 30) - 1)), (0, .ref o_Model), (1, .int p0), (2, .int p1), (3, .int p2), (4, .int p3)] → W p l e ({ frames := 1, cells := 0, slots := 0, locals := 23 } : Room) s m args below meth c H locs 0 0 Q (F0 m 111 ls [.int y1_0])) : ∀    (H : Heap) (locs : List Loc) (ls : Array Slot), lm_Model_raise_1 N I F p0 k1_111  = some z → va_P (dC, dI) classes (wD cB cI o_Model r I F) H → va_D A (wD cB cI o_Model r I F) → va_S A s.heap H locs → lv_has ls 9 [(7, .int (x5 + ((F 33) ((I 30) - 1).toNatClampNeg))), (6, .int ((F 31) ((I 30) - 1).toNatClampNeg)), (5, .int ((I 30) - 1)), (0, .ref o_Model), (1, .int p0), (2, .int p1), (3, .int p2), (4, .int p3)] → W p l e ({ frames := 1, cells := 0, slots := 0, locals := 23 } : Room) s m args below meth c H locs 0 0 Q (F0 m 82 ls []) := by
  intro H locs ls h hP hD hS hl
  unfold lm_Model_raise_1 at h
  refine lv_iload hx hb d_Model_raise_82 (lv_at hl 1 rfl) ?_
  refine lv_aload_n hx hb d_Model_raise_84 rfl (lv_at hl 3 rfl) ?_
  refine va_get (D := (dC, dI)) (ci := 10) (v := .int (I 22)) (C := R_Model) (T := F_Model) (N := 54) hx hb hg i_Model hown hK hP 0 rfl rfl 22 (by decide) (hg _ k715) (fun _ h9 => h9) rfl d_Model_raise_85 ?_
  refine lv_iconst (v := 1) hx hb d_Model_raise_88 (by decide) ?_
  refine lv_isub hx hb d_Model_raise_89 ?_
  refine lv_icmp_ne (tgt := 102) hx hb d_Model_raise_90 (by decide) (fun c7 => ?_) (fun c7 => ?_)
  · rw [if_neg c7] at h
    refine lv_aload_n hx hb d_Model_raise_102 rfl (lv_at hl 3 rfl) ?_
    refine va_get (D := (dC, dI)) (ci := 10) (v := .ref (r 24)) (C := R_Model) (T := F_Model) (N := 54) hx hb hg i_Model hown hK hP 0 rfl rfl 24 (by decide) (hg _ k717) (fun _ h9 => h9) rfl d_Model_raise_103 ?_
    refine lv_iload hx hb d_Model_raise_106 (lv_at hl 1 rfl) ?_
    refine lv_iconst (v := 1) hx hb d_Model_raise_108 (by decide) ?_
    refine lv_iadd hx hb d_Model_raise_109 ?_
    obtain ⟨i8, h⟩ := dz_oi h
    refine va_iald (D := (dC, dI)) (f := F 24) hx hb hK hP 14 1 rfl rfl i8 d_Model_raise_110 ?_
    exact hk1_111 ((F 24) (((F 31) ((I 30) - 1).toNatClampNeg) + 1).toNatClampNeg) _ _ _ h hP hD hS (lv_sub hl [0, 1, 2, 3, 4, 5, 6, 7] rfl)
  · rw [if_pos c7] at h
    refine lv_aload_n hx hb d_Model_raise_93 rfl (lv_at hl 3 rfl) ?_
    refine va_get (D := (dC, dI)) (ci := 10) (v := .int (I 29)) (C := R_Model) (T := F_Model) (N := 54) hx hb hg i_Model hown hK hP 0 rfl rfl 29 (by decide) (hg _ k719) (fun _ h9 => h9) rfl d_Model_raise_94 ?_
    refine lv_iload_n hx hb d_Model_raise_97 rfl (lv_at hl 4 rfl) ?_
    refine lv_isub hx hb d_Model_raise_98 ?_
    refine lv_goto (tgt := 111) hx hb d_Model_raise_99 (by decide) ?_
    exact hk1_111 ((I 29) - p0) _ _ _ h hP hD hS (lv_sub hl [0, 1, 2, 3, 4, 5, 6, 7] rfl)
set_option maxHeartbeats 4000000 in
set_option maxRecDepth 100000 in
theorem c_Model_raise (l : Launch) (dC : Nat → ClassId) (dI : Nat → Nat → Nat) (N : Nat) (cB : ClassId) (cI : ClassId) (o_Model : Nat) (r : Nat → Nat) (I : Nat → Int32) (F : Nat → Nat → Int32) (p0 : Int32) (p1 : Int32) (p2 : Int32) (p3 : Int32) (sz : Nat) (z : Int32 × (Nat → Nat → Int32) × (Nat → Int32)) (h : m_Model_raise N I F p0 p1 p2 p3 = some z) : Met l y_Model_raise (.code y_Model_raise b_Model_raise 9 (some .int) :: lw_g) ({ frames := 1, cells := 0, slots := 0, locals := 23 }) (va_Pc [.ref o_Model, .int p0, .int p1, .int p2, .int p3] (fun U => dz_N U ∧ U.heap.size = sz ∧ va_P (dC, dI) classes (wD cB cI o_Model r I F) U.heap ∧ va_K (dC, dI) classes [(cB, .byte), (cI, .int)] U ∧ va_D (fun _ => True) (wD cB cI o_Model r I F))) (va_Qi (fun (r : Int32) (_ : Unit) => r = z.1) (fun (u : Unit) t => va_P (dC, dI) classes (wD cB cI o_Model r z.2.2 z.2.1) t.heap ∧ va_K (dC, dI) classes [(cB, .byte), (cI, .int)] t ∧ va_D (va_A (wD cB cI o_Model r I F) sz) (wD cB cI o_Model r z.2.2 z.2.1)) (va_A (wD cB cI o_Model r I F) sz)) 0 0 (va_A (wD cB cI o_Model r I F) sz) := by
  refine Met.ofW (cc := b_Model_raise) (maxL := 9) (ret := (some .int)) (by decide +kernel) rfl ?_
  intro p e s m args below meth c s₁ B hml hv
  obtain ⟨rfl, hN, hsz, hP, hK, hD0⟩ := hv
  have hx := B.exec
  have hb := B.bytes
  have hr := B.returns
  have hg : ∀ w ∈ lw_g, w.before _ s = true := fun w hw => atoms_spec (ws := .code y_Model_raise b_Model_raise 9 (some .int) :: lw_g) B.pre w (List.mem_cons_of_mem _ hw)
  have hown : s.vm.findClass R_Model = some m.cls := findClass_of_methodNamed B.named
  have hlocks := B.notSynchronized
  clear B
  subst hsz
  have hD := hD0.self (sz := s.heap.size)
  generalize hAe : va_A (wD cB cI o_Model r I F) s.heap.size = A at hD ⊢
  have hA : ∀ q : Nat, s.heap.size ≤ q → A q := fun q h => by rw [← hAe]; exact Or.inr h
  have hS : va_S A s.heap s.heap [] := va_S.rf
  have hP : va_P (dC, dI) classes (wD cB cI o_Model r I F) s.heap := hP
  have hl := lv_entry ([.ref o_Model, .int p0, .int p1, .int p2, .int p3]) (n := 9) (Nat.le_of_ble_eq_true rfl)
  rw [lg_entry_eq]
  generalize (lg_sl ([.ref o_Model, .int p0, .int p1, .int p2, .int p3]) ++ List.replicate (9 - (lg_sl ([.ref o_Model, .int p0, .int p1, .int p2, .int p3])).length) Slot.unset).toArray = ls at hl ⊢
  have hl : lv_has ls 9 [(0, .ref o_Model), (1, .int p0), (2, .int p1), (3, .int p2), (4, .int p3)] := hl
  unfold m_Model_raise at h
  refine lv_aload_n hx hb d_Model_raise_0 rfl (lv_at hl 0 rfl) ?_
  refine va_get (D := (dC, dI)) (ci := 10) (v := .int (I 30)) (C := R_Model) (T := F_Model) (N := 54) hx hb hg i_Model hown hK hP 0 rfl rfl 30 (by decide) (hg _ k720) (fun _ h9 => h9) rfl d_Model_raise_1 ?_
  refine lv_if_ne (tgt := 40) hx hb d_Model_raise_4 (by decide) (fun c1 => ?_) (fun c1 => ?_)
  · rw [if_neg c1] at h
    refine lv_aload_n hx hb d_Model_raise_40 rfl (lv_at hl 0 rfl) ?_
    refine va_get (D := (dC, dI)) (ci := 10) (v := .int (I 30)) (C := R_Model) (T := F_Model) (N := 54) hx hb hg i_Model hown hK hP 0 rfl rfl 30 (by decide) (hg _ k720) (fun _ h9 => h9) rfl d_Model_raise_41 ?_
    refine lv_iconst (v := 1) hx hb d_Model_raise_44 (by decide) ?_
    refine lv_isub hx hb d_Model_raise_45 ?_
    refine lv_istore (lv' := [(5, .int ((I 30) - 1)), (0, .ref o_Model), (1, .int p0), (2, .int p1), (3, .int p2), (4, .int p3)]) hx hb d_Model_raise_46 hl (by decide) rfl (fun ls hl => ?_)
    refine lv_aload_n hx hb d_Model_raise_48 rfl (lv_at hl 1 rfl) ?_
    refine va_get (D := (dC, dI)) (ci := 10) (v := .ref (r 31)) (C := R_Model) (T := F_Model) (N := 54) hx hb hg i_Model hown hK hP 0 rfl rfl 31 (by decide) (hg _ k812) (fun _ h9 => h9) rfl d_Model_raise_49 ?_
    refine lv_iload hx hb d_Model_raise_52 (lv_at hl 0 rfl) ?_
    obtain ⟨i2, h⟩ := dz_oi h
    refine va_iald (D := (dC, dI)) (f := F 31) hx hb hK hP 19 1 rfl rfl i2 d_Model_raise_54 ?_
    refine lv_istore (lv' := [(6, .int ((F 31) ((I 30) - 1).toNatClampNeg)), (5, .int ((I 30) - 1)), (0, .ref o_Model), (1, .int p0), (2, .int p1), (3, .int p2), (4, .int p3)]) hx hb d_Model_raise_55 hl (by decide) rfl (fun ls hl => ?_)
    refine lv_aload_n hx hb d_Model_raise_57 rfl (lv_at hl 2 rfl) ?_
    refine va_get (D := (dC, dI)) (ci := 10) (v := .ref (r 24)) (C := R_Model) (T := F_Model) (N := 54) hx hb hg i_Model hown hK hP 0 rfl rfl 24 (by decide) (hg _ k717) (fun _ h9 => h9) rfl d_Model_raise_58 ?_
    refine lv_iload hx hb d_Model_raise_61 (lv_at hl 0 rfl) ?_
    obtain ⟨i3, h⟩ := dz_oi h
    refine va_iald (D := (dC, dI)) (f := F 24) hx hb hK hP 14 1 rfl rfl i3 d_Model_raise_63 ?_
    refine lv_aload_n hx hb d_Model_raise_64 rfl (lv_at hl 2 rfl) ?_
    refine va_get (D := (dC, dI)) (ci := 10) (v := .ref (r 25)) (C := R_Model) (T := F_Model) (N := 54) hx hb hg i_Model hown hK hP 0 rfl rfl 25 (by decide) (hg _ k718) (fun _ h9 => h9) rfl d_Model_raise_65 ?_
    refine lv_iload hx hb d_Model_raise_68 (lv_at hl 0 rfl) ?_
    obtain ⟨i4, h⟩ := dz_oi h
    refine va_iald (D := (dC, dI)) (f := F 25) hx hb hK hP 15 1 rfl rfl i4 d_Model_raise_70 ?_
    refine lv_iadd hx hb d_Model_raise_71 ?_
    obtain ⟨x5, ex5, h⟩ := dz_lt h
    refine dz_topi ex5 ?_
    refine lv_aload_n hx hb d_Model_raise_72 rfl (lv_at hl 2 rfl) ?_
    refine va_get (D := (dC, dI)) (ci := 10) (v := .ref (r 33)) (C := R_Model) (T := F_Model) (N := 54) hx hb hg i_Model hown hK hP 0 rfl rfl 33 (by decide) (hg _ k826) (fun _ h9 => h9) rfl d_Model_raise_73 ?_
    refine lv_iload hx hb d_Model_raise_76 (lv_at hl 1 rfl) ?_
    obtain ⟨i6, h⟩ := dz_oi h
    refine va_iald (D := (dC, dI)) (f := F 33) hx hb hK hP 21 1 rfl rfl i6 d_Model_raise_78 ?_
    refine lv_iadd hx hb d_Model_raise_79 ?_
    refine lv_istore (lv' := [(7, .int (x5 + ((F 33) ((I 30) - 1).toNatClampNeg))), (6, .int ((F 31) ((I 30) - 1).toNatClampNeg)), (5, .int ((I 30) - 1)), (0, .ref o_Model), (1, .int p0), (2, .int p1), (3, .int p2), (4, .int p3)]) hx hb d_Model_raise_80 hl (by decide) rfl (fun ls hl => ?_)
    refine l_Model_raise_1 dC dI N cB cI o_Model r I F p0 p1 p2 p3 x5 hx hb hml hown hg hN hK hA (fun y1_0 H locs ls h hP hD hS hl => ?_)  _ _ _ h hP hD hS (lv_sub hl [0, 1, 2, 3, 4, 5, 6, 7] rfl)
    refine lv_istore (lv' := [(8, .int y1_0), (7, .int (x5 + ((F 33) ((I 30) - 1).toNatClampNeg))), (6, .int ((F 31) ((I 30) - 1).toNatClampNeg)), (5, .int ((I 30) - 1)), (0, .ref o_Model), (1, .int p0), (2, .int p1), (3, .int p2), (4, .int p3)]) hx hb d_Model_raise_111 hl (by decide) rfl (fun ls hl => ?_)
    refine lv_iload hx hb d_Model_raise_113 (lv_at hl 0 rfl) ?_
    refine lv_iload hx hb d_Model_raise_115 (lv_at hl 1 rfl) ?_
    refine lv_icmp_ge (tgt := 122) hx hb d_Model_raise_117 (by decide) (fun c9 => ?_) (fun c9 => ?_)
    · rw [if_pos c9] at h
      refine lv_aload_n hx hb d_Model_raise_122 rfl (lv_at hl 4 rfl) ?_
      refine lv_iload hx hb d_Model_raise_123 (lv_at hl 3 rfl) ?_
      refine va_put (D := (dC, dI)) (ci := 10) (v := .int ((I 30) - 1)) (ty := .int) (C := R_Model) (T := F_Model) (N := 54) hx hb hg i_Model t_Model t_Model_ok n_Model hown hK hP hD hS 0 rfl rfl 30 (by decide) (hg _ k720) (fun _ h9 => h9) rfl (by decide +kernel) rfl rfl (Nat.le_of_ble_eq_true rfl) d_Model_raise_125 (fun H locs hP hD hS => ?_)
      obtain ⟨J10, eJ10, h⟩ := dz_lt h
      have hP : va_P (dC, dI) classes (wD cB cI o_Model r J10 F) H := by rw [eJ10]; exact hP
      have hD : va_D A (wD cB cI o_Model r J10 F) := by rw [eJ10]; exact hD
      refine lv_aload_n hx hb d_Model_raise_128 rfl (lv_at hl 4 rfl) ?_
      refine lv_iload hx hb d_Model_raise_129 (lv_at hl 2 rfl) ?_
      refine lv_iconst (v := 1) hx hb d_Model_raise_131 (by decide) ?_
      refine lv_iadd hx hb d_Model_raise_132 ?_
      refine va_put (D := (dC, dI)) (ci := 10) (v := .int (((F 31) ((I 30) - 1).toNatClampNeg) + 1)) (ty := .int) (C := R_Model) (T := F_Model) (N := 54) hx hb hg i_Model t_Model t_Model_ok n_Model hown hK hP hD hS 0 rfl rfl 22 (by decide) (hg _ k715) (fun _ h9 => h9) rfl (by decide +kernel) rfl rfl (Nat.le_of_ble_eq_true rfl) d_Model_raise_133 (fun H locs hP hD hS => ?_)
      obtain ⟨J11, eJ11, h⟩ := dz_lt h
      have hP : va_P (dC, dI) classes (wD cB cI o_Model r J11 F) H := by rw [eJ11]; exact hP
      have hD : va_D A (wD cB cI o_Model r J11 F) := by rw [eJ11]; exact hD
      refine lv_aload_n hx hb d_Model_raise_136 rfl (lv_at hl 4 rfl) ?_
      refine lv_iload hx hb d_Model_raise_137 (lv_at hl 1 rfl) ?_
      refine va_put (D := (dC, dI)) (ci := 10) (v := .int (x5 + ((F 33) ((I 30) - 1).toNatClampNeg))) (ty := .int) (C := R_Model) (T := F_Model) (N := 54) hx hb hg i_Model t_Model t_Model_ok n_Model hown hK hP hD hS 0 rfl rfl 29 (by decide) (hg _ k719) (fun _ h9 => h9) rfl (by decide +kernel) rfl rfl (Nat.le_of_ble_eq_true rfl) d_Model_raise_139 (fun H locs hP hD hS => ?_)
      obtain ⟨J12, eJ12, h⟩ := dz_lt h
      have hP : va_P (dC, dI) classes (wD cB cI o_Model r J12 F) H := by rw [eJ12]; exact hP
      have hD : va_D A (wD cB cI o_Model r J12 F) := by rw [eJ12]; exact hD
      refine lv_aload_n hx hb d_Model_raise_142 rfl (lv_at hl 4 rfl) ?_
      refine lv_aload_n hx hb d_Model_raise_143 rfl (lv_at hl 4 rfl) ?_
      refine va_get (D := (dC, dI)) (ci := 10) (v := .ref (r 34)) (C := R_Model) (T := F_Model) (N := 54) hx hb hg i_Model hown hK hP 0 rfl rfl 34 (by decide) (hg _ k827) (fun _ h9 => h9) rfl d_Model_raise_144 ?_
      refine lv_iload hx hb d_Model_raise_147 (lv_at hl 3 rfl) ?_
      obtain ⟨i13, h⟩ := dz_oi h
      refine va_iald (D := (dC, dI)) (f := F 34) hx hb hK hP 22 1 rfl rfl i13 d_Model_raise_149 ?_
      refine va_put (D := (dC, dI)) (ci := 10) (v := .int ((F 34) ((I 30) - 1).toNatClampNeg)) (ty := .int) (C := R_Model) (T := F_Model) (N := 54) hx hb hg i_Model t_Model t_Model_ok n_Model hown hK hP hD hS 0 rfl rfl 39 (by decide) (hg _ k725) (fun _ h9 => h9) rfl (by decide +kernel) rfl rfl (Nat.le_of_ble_eq_true rfl) d_Model_raise_150 (fun H locs hP hD hS => ?_)
      obtain ⟨J14, eJ14, h⟩ := dz_lt h
      have hP : va_P (dC, dI) classes (wD cB cI o_Model r J14 F) H := by rw [eJ14]; exact hP
      have hD : va_D A (wD cB cI o_Model r J14 F) := by rw [eJ14]; exact hD
      refine lv_aload_n hx hb d_Model_raise_153 rfl (lv_at hl 4 rfl) ?_
      refine lv_aload_n hx hb d_Model_raise_154 rfl (lv_at hl 4 rfl) ?_
      refine va_get (D := (dC, dI)) (ci := 10) (v := .ref (r 32)) (C := R_Model) (T := F_Model) (N := 54) hx hb hg i_Model hown hK hP 0 rfl rfl 32 (by decide) (hg _ k825) (fun _ h9 => h9) rfl d_Model_raise_155 ?_
      refine lv_iload hx hb d_Model_raise_158 (lv_at hl 3 rfl) ?_
      obtain ⟨i15, h⟩ := dz_oi h
      refine va_iald (D := (dC, dI)) (f := F 32) hx hb hK hP 20 1 rfl rfl i15 d_Model_raise_160 ?_
      refine va_put (D := (dC, dI)) (ci := 10) (v := .int ((F 32) ((I 30) - 1).toNatClampNeg)) (ty := .int) (C := R_Model) (T := F_Model) (N := 54) hx hb hg i_Model t_Model t_Model_ok n_Model hown hK hP hD hS 0 rfl rfl 35 (by decide) (hg _ k721) (fun _ h9 => h9) rfl (by decide +kernel) rfl rfl (Nat.le_of_ble_eq_true rfl) d_Model_raise_161 (fun H locs hP hD hS => ?_)
      obtain ⟨J16, eJ16, h⟩ := dz_lt h
      have hP : va_P (dC, dI) classes (wD cB cI o_Model r J16 F) H := by rw [eJ16]; exact hP
      have hD : va_D A (wD cB cI o_Model r J16 F) := by rw [eJ16]; exact hD
      refine lv_aload_n hx hb d_Model_raise_164 rfl (lv_at hl 4 rfl) ?_
      refine lv_iconst (v := 0) hx hb d_Model_raise_165 (by decide) ?_
      refine lv_iload_n hx hb d_Model_raise_166 rfl (lv_at hl 6 rfl) ?_
      refine lv_iload_n hx hb d_Model_raise_167 rfl (lv_at hl 7 rfl) ?_
      obtain ⟨⟨z17_1, z17_2, z17_3⟩, hc17, h⟩ := dz_ob h
      try dsimp only at h
      have hPc := hP
      have hKc := hK
      have hDc := hD
      have hFc := dz_freeall hD hS hA
      refine va_calli (va_runV (As := [.int 0, .int p1, .int p2]) (rest := []) ⟨hx, hb, hml, hown, hg⟩ (c_Model_give l dC dI N cB cI o_Model r J16 F (0 : Int32) p1 p2 H.size (z17_1, z17_2, z17_3) hc17) (cwV 3 hg (gd_V k734 k735 k736 k707 k733) rfl rfl rfl (by decide +kernel) ⟨Nat.le_of_ble_eq_true rfl, Nat.le_of_ble_eq_true rfl⟩) ⟨dz_blind, va_recv hKc hPc (ci := 10) (q0 := 0) rfl rfl, fun U hU hW => ⟨rfl, dz_Nw hW hN, by rw [hU], by rw [hU]; exact hPc, va_K.moved hW.alike hKc, hDc.weaken (fun _ _ _ _ => trivial)⟩⟩ rfl rfl hl.1 rfl (lv_room (Nat.le_of_ble_eq_true rfl)) d_Model_raise_168 ⟨Nat.le_of_ble_eq_true rfl, Nat.le_of_ble_eq_true rfl⟩) hS (fun q _ h => hFc q h) hFc (fun r17 u17 t17 H1 locs ht hvm hw hB hz1 hk1 hS => ?_)
      obtain ⟨hP1, hK1, hD1⟩ := hB
      rw [ht] at hP1
      have hP := hP1
      have hD := hD1.weaken (fun _ q _ h => hFc q.1 h)
      have hw : z17_1 = r17 := hw.symm
      subst hw
      generalize H1 = H at hP hS ⊢
      have hP : va_P (dC, dI) classes (wD cB cI o_Model r z17_3 z17_2) H := hP
      have hD : va_D A (wD cB cI o_Model r z17_3 z17_2) := hD
      obtain rfl := Option.some.inj h
      have hP9 := hP
      have hD9 := hD
      have hK9 := hK
      exact W.iret (v := z17_1) hx hb hr (fun t ht hW => ⟨⟨z17_1, (), rfl, rfl, by rw [ht]; exact hP9, va_K.moved hW.alike hK9, hD9⟩, hS.F ht⟩) hS.2.2 d_Model_raise_171
    · rw [if_neg c9] at h
      refine lv_iconst (v := 4) hx hb d_Model_raise_120 (by decide) ?_
      obtain rfl := Option.some.inj h
      have hP9 := hP
      have hD9 := hD
      have hK9 := hK
      exact W.iret (v := 4) hx hb hr (fun t ht hW => ⟨⟨4, (), rfl, rfl, by rw [ht]; exact hP9, va_K.moved hW.alike hK9, hD9⟩, hS.F ht⟩) hS.2.2 d_Model_raise_121
  · rw [if_pos c1] at h
    refine lv_aload_n hx hb d_Model_raise_7 rfl (lv_at hl 0 rfl) ?_
    refine lv_dup hx hb d_Model_raise_8 rfl ?_
    refine va_get (D := (dC, dI)) (ci := 10) (v := .int (I 29)) (C := R_Model) (T := F_Model) (N := 54) hx hb hg i_Model hown hK hP 0 rfl rfl 29 (by decide) (hg _ k719) (fun _ h9 => h9) rfl d_Model_raise_9 ?_
    refine lv_iload_n hx hb d_Model_raise_12 rfl (lv_at hl 1 rfl) ?_
    refine lv_isub hx hb d_Model_raise_13 ?_
    refine va_put (D := (dC, dI)) (ci := 10) (v := .int ((I 29) - p0)) (ty := .int) (C := R_Model) (T := F_Model) (N := 54) hx hb hg i_Model t_Model t_Model_ok n_Model hown hK hP hD hS 0 rfl rfl 29 (by decide) (hg _ k719) (fun _ h9 => h9) rfl (by decide +kernel) rfl rfl (Nat.le_of_ble_eq_true rfl) d_Model_raise_14 (fun H locs hP hD hS => ?_)
    obtain ⟨J18, eJ18, h⟩ := dz_lt h
    have hP : va_P (dC, dI) classes (wD cB cI o_Model r J18 F) H := by rw [eJ18]; exact hP
    have hD : va_D A (wD cB cI o_Model r J18 F) := by rw [eJ18]; exact hD
    refine lv_aload_n hx hb d_Model_raise_17 rfl (lv_at hl 0 rfl) ?_
    refine lv_iload_n hx hb d_Model_raise_18 rfl (lv_at hl 2 rfl) ?_
    refine va_put (D := (dC, dI)) (ci := 10) (v := .int p1) (ty := .int) (C := R_Model) (T := F_Model) (N := 54) hx hb hg i_Model t_Model t_Model_ok n_Model hown hK hP hD hS 0 rfl rfl 7 (by decide) (hg _ k728) (fun _ h9 => h9) rfl (by decide +kernel) rfl rfl (Nat.le_of_ble_eq_true rfl) d_Model_raise_19 (fun H locs hP hD hS => ?_)
    obtain ⟨J19, eJ19, h⟩ := dz_lt h
    have hP : va_P (dC, dI) classes (wD cB cI o_Model r J19 F) H := by rw [eJ19]; exact hP
    have hD : va_D A (wD cB cI o_Model r J19 F) := by rw [eJ19]; exact hD
    refine lv_aload_n hx hb d_Model_raise_22 rfl (lv_at hl 0 rfl) ?_
    refine lv_iload_n hx hb d_Model_raise_23 rfl (lv_at hl 3 rfl) ?_
    refine va_put (D := (dC, dI)) (ci := 10) (v := .int p2) (ty := .int) (C := R_Model) (T := F_Model) (N := 54) hx hb hg i_Model t_Model t_Model_ok n_Model hown hK hP hD hS 0 rfl rfl 8 (by decide) (hg _ k729) (fun _ h9 => h9) rfl (by decide +kernel) rfl rfl (Nat.le_of_ble_eq_true rfl) d_Model_raise_24 (fun H locs hP hD hS => ?_)
    obtain ⟨J20, eJ20, h⟩ := dz_lt h
    have hP : va_P (dC, dI) classes (wD cB cI o_Model r J20 F) H := by rw [eJ20]; exact hP
    have hD : va_D A (wD cB cI o_Model r J20 F) := by rw [eJ20]; exact hD
    refine lv_aload_n hx hb d_Model_raise_27 rfl (lv_at hl 0 rfl) ?_
    refine lv_dup hx hb d_Model_raise_28 rfl ?_
    refine va_get (D := (dC, dI)) (ci := 10) (v := .int (J20 35)) (C := R_Model) (T := F_Model) (N := 54) hx hb hg i_Model hown hK hP 0 rfl rfl 35 (by decide) (hg _ k721) (fun _ h9 => h9) rfl d_Model_raise_29 ?_
    refine lv_iload hx hb d_Model_raise_32 (lv_at hl 4 rfl) ?_
    refine lv_iadd hx hb d_Model_raise_34 ?_
    refine va_put (D := (dC, dI)) (ci := 10) (v := .int ((J20 35) + p3)) (ty := .int) (C := R_Model) (T := F_Model) (N := 54) hx hb hg i_Model t_Model t_Model_ok n_Model hown hK hP hD hS 0 rfl rfl 35 (by decide) (hg _ k721) (fun _ h9 => h9) rfl (by decide +kernel) rfl rfl (Nat.le_of_ble_eq_true rfl) d_Model_raise_35 (fun H locs hP hD hS => ?_)
    obtain ⟨J21, eJ21, h⟩ := dz_lt h
    have hP : va_P (dC, dI) classes (wD cB cI o_Model r J21 F) H := by rw [eJ21]; exact hP
    have hD : va_D A (wD cB cI o_Model r J21 F) := by rw [eJ21]; exact hD
    refine lv_iconst (v := 1) hx hb d_Model_raise_38 (by decide) ?_
    obtain rfl := Option.some.inj h
    have hP9 := hP
    have hD9 := hD
    have hK9 := hK
    exact W.iret (v := 1) hx hb hr (fun t ht hW => ⟨⟨1, (), rfl, rfl, by rw [ht]; exact hP9, va_K.moved hW.alike hK9, hD9⟩, hS.F ht⟩) hS.2.2 d_Model_raise_39

set_option maxHeartbeats 4000000 in
set_option maxRecDepth 100000 in
theorem c_Model_name (l : Launch) (dC : Nat → ClassId) (dI : Nat → Nat → Nat) (N : Nat) (cB : ClassId) (cI : ClassId) (o_Model : Nat) (r : Nat → Nat) (I : Nat → Int32) (F : Nat → Nat → Int32) (p0 : Int32) (sz : Nat) (z : Int32 × (Nat → Nat → Int32) × (Nat → Int32)) (h : m_Model_name N I F p0 = some z) : Met l y_Model_name (.code y_Model_name b_Model_name 2 (some .int) :: lw_g) ({ frames := 1, cells := 0, slots := 0, locals := 23 }) (va_Pc [.ref o_Model, .int p0] (fun U => dz_N U ∧ U.heap.size = sz ∧ va_P (dC, dI) classes (wD cB cI o_Model r I F) U.heap ∧ va_K (dC, dI) classes [(cB, .byte), (cI, .int)] U ∧ va_D (fun _ => True) (wD cB cI o_Model r I F))) (va_Qi (fun (r : Int32) (_ : Unit) => r = z.1) (fun (u : Unit) t => va_P (dC, dI) classes (wD cB cI o_Model r z.2.2 z.2.1) t.heap ∧ va_K (dC, dI) classes [(cB, .byte), (cI, .int)] t ∧ va_D (va_A (wD cB cI o_Model r I F) sz) (wD cB cI o_Model r z.2.2 z.2.1)) (va_A (wD cB cI o_Model r I F) sz)) 0 0 (va_A (wD cB cI o_Model r I F) sz) := by
  refine Met.ofW (cc := b_Model_name) (maxL := 2) (ret := (some .int)) (by decide +kernel) rfl ?_
  intro p e s m args below meth c s₁ B hml hv
  obtain ⟨rfl, hN, hsz, hP, hK, hD0⟩ := hv
  have hx := B.exec
  have hb := B.bytes
  have hr := B.returns
  have hg : ∀ w ∈ lw_g, w.before _ s = true := fun w hw => atoms_spec (ws := .code y_Model_name b_Model_name 2 (some .int) :: lw_g) B.pre w (List.mem_cons_of_mem _ hw)
  have hown : s.vm.findClass R_Model = some m.cls := findClass_of_methodNamed B.named
  have hlocks := B.notSynchronized
  clear B
  subst hsz
  have hD := hD0.self (sz := s.heap.size)
  generalize hAe : va_A (wD cB cI o_Model r I F) s.heap.size = A at hD ⊢
  have hA : ∀ q : Nat, s.heap.size ≤ q → A q := fun q h => by rw [← hAe]; exact Or.inr h
  have hS : va_S A s.heap s.heap [] := va_S.rf
  have hP : va_P (dC, dI) classes (wD cB cI o_Model r I F) s.heap := hP
  have hl := lv_entry ([.ref o_Model, .int p0]) (n := 2) (Nat.le_of_ble_eq_true rfl)
  rw [lg_entry_eq]
  generalize (lg_sl ([.ref o_Model, .int p0]) ++ List.replicate (2 - (lg_sl ([.ref o_Model, .int p0])).length) Slot.unset).toArray = ls at hl ⊢
  have hl : lv_has ls 2 [(0, .ref o_Model), (1, .int p0)] := hl
  unfold m_Model_name at h
  refine lv_iload_n hx hb d_Model_name_0 rfl (lv_at hl 1 rfl) ?_
  refine lv_if_lt (tgt := 11) hx hb d_Model_name_1 (by decide) (fun c1 => ?_) (fun c1 => ?_)
  · rw [if_pos c1] at h
    refine lv_iconst (v := 4) hx hb d_Model_name_11 (by decide) ?_
    obtain rfl := Option.some.inj h
    have hP9 := hP
    have hD9 := hD
    have hK9 := hK
    exact W.iret (v := 4) hx hb hr (fun t ht hW => ⟨⟨4, (), rfl, rfl, by rw [ht]; exact hP9, va_K.moved hW.alike hK9, hD9⟩, hS.F ht⟩) hS.2.2 d_Model_name_12
  · rw [if_neg c1] at h
    refine lv_iload_n hx hb d_Model_name_4 rfl (lv_at hl 1 rfl) ?_
    refine lv_ldcw (v := 65535) hx hb hown (hg _ k832) d_Model_name_5 ?_
    refine lv_icmp_le (tgt := 13) hx hb d_Model_name_8 (by decide) (fun c2 => ?_) (fun c2 => ?_)
    · rw [if_pos c2] at h
      refine lv_aload_n hx hb d_Model_name_13 rfl (lv_at hl 0 rfl) ?_
      refine va_get (D := (dC, dI)) (ci := 10) (v := .int (I 29)) (C := R_Model) (T := F_Model) (N := 54) hx hb hg i_Model hown hK hP 0 rfl rfl 29 (by decide) (hg _ k719) (fun _ h9 => h9) rfl d_Model_name_14 ?_
      refine lv_ldc (v := 65536) hx hb hown (hg _ k713) d_Model_name_17 ?_
      refine lv_icmp_ne (tgt := 24) hx hb d_Model_name_19 (by decide) (fun c3 => ?_) (fun c3 => ?_)
      · rw [if_neg c3] at h
        refine lv_aload_n hx hb d_Model_name_24 rfl (lv_at hl 0 rfl) ?_
        refine lv_dup hx hb d_Model_name_25 rfl ?_
        refine va_get (D := (dC, dI)) (ci := 10) (v := .int (I 4)) (C := R_Model) (T := F_Model) (N := 54) hx hb hg i_Model hown hK hP 0 rfl rfl 4 (by decide) (hg _ k833) (fun _ h9 => h9) rfl d_Model_name_26 ?_
        refine lv_iconst (v := 1) hx hb d_Model_name_29 (by decide) ?_
        refine lv_iadd hx hb d_Model_name_30 ?_
        refine va_put (D := (dC, dI)) (ci := 10) (v := .int ((I 4) + 1)) (ty := .int) (C := R_Model) (T := F_Model) (N := 54) hx hb hg i_Model t_Model t_Model_ok n_Model hown hK hP hD hS 0 rfl rfl 4 (by decide) (hg _ k833) (fun _ h9 => h9) rfl (by decide +kernel) rfl rfl (Nat.le_of_ble_eq_true rfl) d_Model_name_31 (fun H locs hP hD hS => ?_)
        obtain ⟨J4, eJ4, h⟩ := dz_lt h
        have hP : va_P (dC, dI) classes (wD cB cI o_Model r J4 F) H := by rw [eJ4]; exact hP
        have hD : va_D A (wD cB cI o_Model r J4 F) := by rw [eJ4]; exact hD
        refine lv_aload_n hx hb d_Model_name_34 rfl (lv_at hl 0 rfl) ?_
        refine lv_iconst (v := 0) hx hb d_Model_name_35 (by decide) ?_
        refine lv_iconst (v := 1) hx hb d_Model_name_36 (by decide) ?_
        refine lv_iload_n hx hb d_Model_name_37 rfl (lv_at hl 1 rfl) ?_
        refine lv_bipush (v := 8) hx hb d_Model_name_38 (by decide) ?_
        refine lv_ishl hx hb d_Model_name_40 ?_
        refine lv_ior hx hb d_Model_name_41 ?_
        refine lv_aload_n hx hb d_Model_name_42 rfl (lv_at hl 0 rfl) ?_
        refine va_get (D := (dC, dI)) (ci := 10) (v := .int (J4 4)) (C := R_Model) (T := F_Model) (N := 54) hx hb hg i_Model hown hK hP 0 rfl rfl 4 (by decide) (hg _ k833) (fun _ h9 => h9) rfl d_Model_name_43 ?_
        obtain ⟨⟨z5_1, z5_2, z5_3⟩, hc5, h⟩ := dz_ob h
        try dsimp only at h
        have hPc := hP
        have hKc := hK
        have hDc := hD
        have hFc := dz_freeall hD hS hA
        refine va_calli (va_runV (As := [.int 0, .int ((1 : Int32) ||| (p0 <<< ((8 : Int32) &&& 31))), .int (J4 4)]) (rest := []) ⟨hx, hb, hml, hown, hg⟩ (c_Model_give l dC dI N cB cI o_Model r J4 F (0 : Int32) ((1 : Int32) ||| (p0 <<< ((8 : Int32) &&& 31))) (J4 4) H.size (z5_1, z5_2, z5_3) hc5) (cwV 3 hg (gd_V k734 k735 k736 k707 k733) rfl rfl rfl (by decide +kernel) ⟨Nat.le_of_ble_eq_true rfl, Nat.le_of_ble_eq_true rfl⟩) ⟨dz_blind, va_recv hKc hPc (ci := 10) (q0 := 0) rfl rfl, fun U hU hW => ⟨rfl, dz_Nw hW hN, by rw [hU], by rw [hU]; exact hPc, va_K.moved hW.alike hKc, hDc.weaken (fun _ _ _ _ => trivial)⟩⟩ rfl rfl hl.1 rfl (lv_room (Nat.le_of_ble_eq_true rfl)) d_Model_name_46 ⟨Nat.le_of_ble_eq_true rfl, Nat.le_of_ble_eq_true rfl⟩) hS (fun q _ h => hFc q h) hFc (fun r5 u5 t5 H1 locs ht hvm hw hB hz1 hk1 hS => ?_)
        obtain ⟨hP1, hK1, hD1⟩ := hB
        rw [ht] at hP1
        have hP := hP1
        have hD := hD1.weaken (fun _ q _ h => hFc q.1 h)
        have hw : z5_1 = r5 := hw.symm
        subst hw
        generalize H1 = H at hP hS ⊢
        have hP : va_P (dC, dI) classes (wD cB cI o_Model r z5_3 z5_2) H := hP
        have hD : va_D A (wD cB cI o_Model r z5_3 z5_2) := hD
        obtain rfl := Option.some.inj h
        have hP9 := hP
        have hD9 := hD
        have hK9 := hK
        exact W.iret (v := z5_1) hx hb hr (fun t ht hW => ⟨⟨z5_1, (), rfl, rfl, by rw [ht]; exact hP9, va_K.moved hW.alike hK9, hD9⟩, hS.F ht⟩) hS.2.2 d_Model_name_49
      · rw [if_pos c3] at h
        refine lv_iconst (v := 3) hx hb d_Model_name_22 (by decide) ?_
        obtain rfl := Option.some.inj h
        have hP9 := hP
        have hD9 := hD
        have hK9 := hK
        exact W.iret (v := 3) hx hb hr (fun t ht hW => ⟨⟨3, (), rfl, rfl, by rw [ht]; exact hP9, va_K.moved hW.alike hK9, hD9⟩, hS.F ht⟩) hS.2.2 d_Model_name_23
    · rw [if_neg c2] at h
      refine lv_iconst (v := 4) hx hb d_Model_name_11 (by decide) ?_
      obtain rfl := Option.some.inj h
      have hP9 := hP
      have hD9 := hD
      have hK9 := hK
      exact W.iret (v := 4) hx hb hr (fun t ht hW => ⟨⟨4, (), rfl, rfl, by rw [ht]; exact hP9, va_K.moved hW.alike hK9, hD9⟩, hS.F ht⟩) hS.2.2 d_Model_name_12

set_option maxHeartbeats 4000000 in
set_option maxRecDepth 100000 in
theorem c_Model_packet (l : Launch) (dC : Nat → ClassId) (dI : Nat → Nat → Nat) (N : Nat) (cB : ClassId) (cI : ClassId) (o_Model : Nat) (r : Nat → Nat) (I : Nat → Int32) (F : Nat → Nat → Int32) (sz : Nat) (z : Int32 × (Nat → Nat → Int32) × (Nat → Int32)) (h : m_Model_packet N I F = some z) : Met l y_Model_packet (.code y_Model_packet b_Model_packet 2 (some .int) :: lw_g) ({ frames := 7, cells := 0, slots := 0, locals := 150 }) (va_Pc [.ref o_Model] (fun U => dz_N U ∧ U.heap.size = sz ∧ va_P (dC, dI) classes (wD cB cI o_Model r I F) U.heap ∧ va_K (dC, dI) classes [(cB, .byte), (cI, .int)] U ∧ va_D (fun _ => True) (wD cB cI o_Model r I F))) (va_Qi (fun (r : Int32) (_ : Unit) => r = z.1) (fun (u : Unit) t => va_P (dC, dI) classes (wD cB cI o_Model r z.2.2 z.2.1) t.heap ∧ va_K (dC, dI) classes [(cB, .byte), (cI, .int)] t ∧ va_D (va_A (wD cB cI o_Model r I F) sz) (wD cB cI o_Model r z.2.2 z.2.1)) (va_A (wD cB cI o_Model r I F) sz)) 0 0 (va_A (wD cB cI o_Model r I F) sz) := by
  refine Met.ofW (cc := b_Model_packet) (maxL := 2) (ret := (some .int)) (by decide +kernel) rfl ?_
  intro p e s m args below meth c s₁ B hml hv
  obtain ⟨rfl, hN, hsz, hP, hK, hD0⟩ := hv
  have hx := B.exec
  have hb := B.bytes
  have hr := B.returns
  have hg : ∀ w ∈ lw_g, w.before _ s = true := fun w hw => atoms_spec (ws := .code y_Model_packet b_Model_packet 2 (some .int) :: lw_g) B.pre w (List.mem_cons_of_mem _ hw)
  have hown : s.vm.findClass R_Model = some m.cls := findClass_of_methodNamed B.named
  have hlocks := B.notSynchronized
  clear B
  subst hsz
  have hD := hD0.self (sz := s.heap.size)
  generalize hAe : va_A (wD cB cI o_Model r I F) s.heap.size = A at hD ⊢
  have hA : ∀ q : Nat, s.heap.size ≤ q → A q := fun q h => by rw [← hAe]; exact Or.inr h
  have hS : va_S A s.heap s.heap [] := va_S.rf
  have hP : va_P (dC, dI) classes (wD cB cI o_Model r I F) s.heap := hP
  have hl := lv_entry ([.ref o_Model]) (n := 2) (Nat.le_of_ble_eq_true rfl)
  rw [lg_entry_eq]
  generalize (lg_sl ([.ref o_Model]) ++ List.replicate (2 - (lg_sl ([.ref o_Model])).length) Slot.unset).toArray = ls at hl ⊢
  have hl : lv_has ls 2 [(0, .ref o_Model)] := hl
  unfold m_Model_packet at h
  refine lv_aload_n hx hb d_Model_packet_0 rfl (lv_at hl 0 rfl) ?_
  refine lv_iconst (v := 2) hx hb d_Model_packet_1 (by decide) ?_
  obtain ⟨z1_1, hc1, h⟩ := dz_ob h
  try dsimp only at h
  have hPc := hP
  have hKc := hK
  refine vp_callSi (va_Run.run (va_runV (As := [.int 2]) (rest := []) ⟨hx, hb, hml, hown, hg⟩ (c_Model_isName l dC dI N cB cI o_Model r I F (2 : Int32) z1_1 hc1) (cwV 1 hg (gd_V k835 k836 k837 k707 k834) rfl rfl rfl (by decide +kernel) ⟨Nat.le_of_ble_eq_true rfl, Nat.le_of_ble_eq_true rfl⟩) ⟨dz_blindR, va_recv hKc hPc (ci := 10) (q0 := 0) rfl rfl, fun U hU hW => ⟨rfl, dz_Nw hW hN, by rw [hU]; exact hPc, va_K.moved hW.alike hKc⟩⟩ rfl rfl hl.1 rfl (lv_room (Nat.le_of_ble_eq_true rfl)) d_Model_packet_2 ⟨Nat.le_of_ble_eq_true rfl, Nat.le_of_ble_eq_true rfl⟩)) (fun r1 hw => ?_)
  obtain ⟨hw, hbz1⟩ := hw
  have hw : z1_1 = r1 := hw.symm
  subst hw
  refine lv_if_ne (tgt := 10) hx hb d_Model_packet_5 (by decide) (fun c2 => ?_) (fun c2 => ?_)
  · rw [if_neg c2] at h
    refine lv_aload_n hx hb d_Model_packet_10 rfl (lv_at hl 0 rfl) ?_
    refine lv_iconst (v := 2) hx hb d_Model_packet_11 (by decide) ?_
    obtain ⟨⟨z3_1, z3_2, z3_3⟩, hc3, h⟩ := dz_ob h
    try dsimp only at h
    have hPc := hP
    have hKc := hK
    have hDc := hD
    have hFc := dz_freeall hD hS hA
    refine va_calli (va_runV (As := [.int 2]) (rest := []) ⟨hx, hb, hml, hown, hg⟩ (c_Model_hasRoom l dC dI N cB cI o_Model r I F (2 : Int32) s.heap.size (z3_1, z3_2, z3_3) hc3) (cwV 1 hg (gd_V k788 k789 k790 k707 k787) rfl rfl rfl (by decide +kernel) ⟨Nat.le_of_ble_eq_true rfl, Nat.le_of_ble_eq_true rfl⟩) ⟨dz_blind, va_recv hKc hPc (ci := 10) (q0 := 0) rfl rfl, fun U hU hW => ⟨rfl, dz_Nw hW hN, by rw [hU], by rw [hU]; exact hPc, va_K.moved hW.alike hKc, hDc.weaken (fun _ _ _ _ => trivial)⟩⟩ rfl rfl hl.1 rfl (lv_room (Nat.le_of_ble_eq_true rfl)) d_Model_packet_12 ⟨Nat.le_of_ble_eq_true rfl, Nat.le_of_ble_eq_true rfl⟩) hS (fun q _ h => hFc q h) hFc (fun r3 u3 t3 H1 locs ht hvm hw hB hz1 hk1 hS => ?_)
    obtain ⟨hP1, hK1, hD1⟩ := hB
    rw [ht] at hP1
    have hP := hP1
    have hD := hD1.weaken (fun _ q _ h => hFc q.1 h)
    obtain ⟨hw, hbz3⟩ := hw
    have hw : z3_1 = r3 := hw.symm
    subst hw
    generalize H1 = H at hP hS ⊢
    have hP : va_P (dC, dI) classes (wD cB cI o_Model r z3_3 z3_2) H := hP
    have hD : va_D A (wD cB cI o_Model r z3_3 z3_2) := hD
    refine lv_if_ne (tgt := 20) hx hb d_Model_packet_15 (by decide) (fun c4 => ?_) (fun c4 => ?_)
    · rw [if_neg c4] at h
      refine lv_aload_n hx hb d_Model_packet_20 rfl (lv_at hl 0 rfl) ?_
      refine lv_bipush (v := 7) hx hb d_Model_packet_21 (by decide) ?_
      refine lv_aload_n hx hb d_Model_packet_23 rfl (lv_at hl 0 rfl) ?_
      refine va_get (D := (dC, dI)) (ci := 10) (v := .ref (r 27)) (C := R_Model) (T := F_Model) (N := 54) hx hb hg i_Model hown hK hP 0 rfl rfl 27 (by decide) (hg _ k731) (fun _ h9 => h9) rfl d_Model_packet_24 ?_
      refine lv_aload_n hx hb d_Model_packet_27 rfl (lv_at hl 0 rfl) ?_
      refine va_get (D := (dC, dI)) (ci := 10) (v := .int (z3_3 29)) (C := R_Model) (T := F_Model) (N := 54) hx hb hg i_Model hown hK hP 0 rfl rfl 29 (by decide) (hg _ k719) (fun _ h9 => h9) rfl d_Model_packet_28 ?_
      refine lv_iconst (v := 2) hx hb d_Model_packet_31 (by decide) ?_
      refine lv_isub hx hb d_Model_packet_32 ?_
      obtain ⟨i5, h⟩ := dz_oi h
      refine va_iald (D := (dC, dI)) (f := z3_2 27) hx hb hK hP 17 1 rfl rfl i5 d_Model_packet_33 ?_
      refine lv_bipush (v := 8) hx hb d_Model_packet_34 (by decide) ?_
      refine lv_iushr (v := (((z3_2 27) ((z3_3 29) - 2).toNatClampNeg).toUInt32 >>> ((8 : Int32).toUInt32 &&& Int32.toUInt32 31)).toInt32) hx hb d_Model_packet_36 rfl ?_
      obtain ⟨x6, ex6, h⟩ := dz_lt h
      refine dz_topi ex6 ?_
      refine lv_aload_n hx hb d_Model_packet_37 rfl (lv_at hl 0 rfl) ?_
      refine va_get (D := (dC, dI)) (ci := 10) (v := .ref (r 28)) (C := R_Model) (T := F_Model) (N := 54) hx hb hg i_Model hown hK hP 0 rfl rfl 28 (by decide) (hg _ k732) (fun _ h9 => h9) rfl d_Model_packet_38 ?_
      refine lv_aload_n hx hb d_Model_packet_41 rfl (lv_at hl 0 rfl) ?_
      refine va_get (D := (dC, dI)) (ci := 10) (v := .int (z3_3 29)) (C := R_Model) (T := F_Model) (N := 54) hx hb hg i_Model hown hK hP 0 rfl rfl 29 (by decide) (hg _ k719) (fun _ h9 => h9) rfl d_Model_packet_42 ?_
      refine lv_iconst (v := 2) hx hb d_Model_packet_45 (by decide) ?_
      refine lv_isub hx hb d_Model_packet_46 ?_
      obtain ⟨i7, h⟩ := dz_oi h
      refine va_iald (D := (dC, dI)) (f := z3_2 28) hx hb hK hP 18 1 rfl rfl i7 d_Model_packet_47 ?_
      refine lv_iconst (v := 2) hx hb d_Model_packet_48 (by decide) ?_
      obtain ⟨⟨z8_1, z8_2, z8_3⟩, hc8, h⟩ := dz_ob h
      try dsimp only at h
      have hPc := hP
      have hKc := hK
      have hDc := hD
      have hFc := dz_freeall hD hS hA
      refine va_calli (va_runV (As := [.int 7, .int x6, .int ((z3_2 28) ((z3_3 29) - 2).toNatClampNeg), .int 2]) (rest := []) ⟨hx, hb, hml, hown, hg⟩ (c_Model_make l dC dI N cB cI o_Model r z3_3 z3_2 (7 : Int32) x6 ((z3_2 28) ((z3_3 29) - 2).toNatClampNeg) (2 : Int32) H.size (z8_1, z8_2, z8_3) hc8) (cwV 4 hg (gd_V k784 k785 k786 k707 k783) rfl rfl rfl (by decide +kernel) ⟨Nat.le_of_ble_eq_true rfl, Nat.le_of_ble_eq_true rfl⟩) ⟨dz_blind, va_recv hKc hPc (ci := 10) (q0 := 0) rfl rfl, fun U hU hW => ⟨rfl, dz_Nw hW hN, by rw [hU], by rw [hU]; exact hPc, va_K.moved hW.alike hKc, hDc.weaken (fun _ _ _ _ => trivial)⟩⟩ rfl rfl hl.1 rfl (lv_room (Nat.le_of_ble_eq_true rfl)) d_Model_packet_49 ⟨Nat.le_of_ble_eq_true rfl, Nat.le_of_ble_eq_true rfl⟩) hS (fun q _ h => hFc q h) hFc (fun r8 u8 t8 H1 locs ht hvm hw hB hz1 hk1 hS => ?_)
      obtain ⟨hP1, hK1, hD1⟩ := hB
      rw [ht] at hP1
      have hP := hP1
      have hD := hD1.weaken (fun _ q _ h => hFc q.1 h)
      have hw : z8_1 = r8 := hw.symm
      subst hw
      generalize H1 = H at hP hS ⊢
      have hP : va_P (dC, dI) classes (wD cB cI o_Model r z8_3 z8_2) H := hP
      have hD : va_D A (wD cB cI o_Model r z8_3 z8_2) := hD
      refine lv_istore_n (lv' := [(1, .int z8_1), (0, .ref o_Model)]) hx hb d_Model_packet_52 rfl hl (by decide) rfl (fun ls hl => ?_)
      refine lv_aload_n hx hb d_Model_packet_53 rfl (lv_at hl 1 rfl) ?_
      refine va_get (D := (dC, dI)) (ci := 10) (v := .ref (r 0)) (C := R_Model) (T := F_Model) (N := 54) hx hb hg i_Model hown hK hP 0 rfl rfl 0 (by decide) (hg _ k737) (fun _ h9 => h9) rfl d_Model_packet_54 ?_
      refine lv_iload_n hx hb d_Model_packet_57 rfl (lv_at hl 0 rfl) ?_
      refine lv_iconst (v := 1) hx hb d_Model_packet_58 (by decide) ?_
      refine lv_iadd hx hb d_Model_packet_59 ?_
      refine lv_aload_n hx hb d_Model_packet_60 rfl (lv_at hl 1 rfl) ?_
      refine va_get (D := (dC, dI)) (ci := 10) (v := .ref (r 27)) (C := R_Model) (T := F_Model) (N := 54) hx hb hg i_Model hown hK hP 0 rfl rfl 27 (by decide) (hg _ k731) (fun _ h9 => h9) rfl d_Model_packet_61 ?_
      refine lv_aload_n hx hb d_Model_packet_64 rfl (lv_at hl 1 rfl) ?_
      refine va_get (D := (dC, dI)) (ci := 10) (v := .int (z8_3 29)) (C := R_Model) (T := F_Model) (N := 54) hx hb hg i_Model hown hK hP 0 rfl rfl 29 (by decide) (hg _ k719) (fun _ h9 => h9) rfl d_Model_packet_65 ?_
      refine lv_iconst (v := 1) hx hb d_Model_packet_68 (by decide) ?_
      refine lv_isub hx hb d_Model_packet_69 ?_
      obtain ⟨i9, h⟩ := dz_oi h
      refine va_iald (D := (dC, dI)) (f := z8_2 27) hx hb hK hP 17 1 rfl rfl i9 d_Model_packet_70 ?_
      obtain ⟨i10, h⟩ := dz_oi h
      refine va_iast (D := (dC, dI)) (f := z8_2 0) hx hb hK hP hD hS 1 1 rfl rfl i10 d_Model_packet_71 (fun H locs hP hD hS => ?_)
      obtain ⟨G11, eG11, h⟩ := dz_lt h
      have hP : va_P (dC, dI) classes (wD cB cI o_Model r z8_3 G11) H := by rw [eG11]; exact hP
      have hD : va_D A (wD cB cI o_Model r z8_3 G11) := by rw [eG11]; exact hD
      refine lv_aload_n hx hb d_Model_packet_72 rfl (lv_at hl 1 rfl) ?_
      refine va_get (D := (dC, dI)) (ci := 10) (v := .ref (r 1)) (C := R_Model) (T := F_Model) (N := 54) hx hb hg i_Model hown hK hP 0 rfl rfl 1 (by decide) (hg _ k742) (fun _ h9 => h9) rfl d_Model_packet_73 ?_
      refine lv_iload_n hx hb d_Model_packet_76 rfl (lv_at hl 0 rfl) ?_
      refine lv_iconst (v := 1) hx hb d_Model_packet_77 (by decide) ?_
      refine lv_iadd hx hb d_Model_packet_78 ?_
      refine lv_aload_n hx hb d_Model_packet_79 rfl (lv_at hl 1 rfl) ?_
      refine va_get (D := (dC, dI)) (ci := 10) (v := .ref (r 28)) (C := R_Model) (T := F_Model) (N := 54) hx hb hg i_Model hown hK hP 0 rfl rfl 28 (by decide) (hg _ k732) (fun _ h9 => h9) rfl d_Model_packet_80 ?_
      refine lv_aload_n hx hb d_Model_packet_83 rfl (lv_at hl 1 rfl) ?_
      refine va_get (D := (dC, dI)) (ci := 10) (v := .int (z8_3 29)) (C := R_Model) (T := F_Model) (N := 54) hx hb hg i_Model hown hK hP 0 rfl rfl 29 (by decide) (hg _ k719) (fun _ h9 => h9) rfl d_Model_packet_84 ?_
      refine lv_iconst (v := 1) hx hb d_Model_packet_87 (by decide) ?_
      refine lv_isub hx hb d_Model_packet_88 ?_
      obtain ⟨i12, h⟩ := dz_oi h
      refine va_iald (D := (dC, dI)) (f := G11 28) hx hb hK hP 18 1 rfl rfl i12 d_Model_packet_89 ?_
      obtain ⟨i13, h⟩ := dz_oi h
      refine va_iast (D := (dC, dI)) (f := G11 1) hx hb hK hP hD hS 2 1 rfl rfl i13 d_Model_packet_90 (fun H locs hP hD hS => ?_)
      obtain ⟨G14, eG14, h⟩ := dz_lt h
      have hP : va_P (dC, dI) classes (wD cB cI o_Model r z8_3 G14) H := by rw [eG14]; exact hP
      have hD : va_D A (wD cB cI o_Model r z8_3 G14) := by rw [eG14]; exact hD
      refine lv_aload_n hx hb d_Model_packet_91 rfl (lv_at hl 1 rfl) ?_
      refine lv_iconst (v := 2) hx hb d_Model_packet_92 (by decide) ?_
      refine lv_iconst (v := 2) hx hb d_Model_packet_93 (by decide) ?_
      refine lv_iload_n hx hb d_Model_packet_94 rfl (lv_at hl 0 rfl) ?_
      obtain ⟨⟨z15_1, z15_2, z15_3⟩, hc15, h⟩ := dz_ob h
      try dsimp only at h
      have hPc := hP
      have hKc := hK
      have hDc := hD
      have hFc := dz_freeall hD hS hA
      refine va_calli (va_runV (As := [.int 2, .int 2, .int z8_1]) (rest := []) ⟨hx, hb, hml, hown, hg⟩ (c_Model_give l dC dI N cB cI o_Model r z8_3 G14 (2 : Int32) (2 : Int32) z8_1 H.size (z15_1, z15_2, z15_3) hc15) (cwV 3 hg (gd_V k734 k735 k736 k707 k733) rfl rfl rfl (by decide +kernel) ⟨Nat.le_of_ble_eq_true rfl, Nat.le_of_ble_eq_true rfl⟩) ⟨dz_blind, va_recv hKc hPc (ci := 10) (q0 := 0) rfl rfl, fun U hU hW => ⟨rfl, dz_Nw hW hN, by rw [hU], by rw [hU]; exact hPc, va_K.moved hW.alike hKc, hDc.weaken (fun _ _ _ _ => trivial)⟩⟩ rfl rfl hl.1 rfl (lv_room (Nat.le_of_ble_eq_true rfl)) d_Model_packet_95 ⟨Nat.le_of_ble_eq_true rfl, Nat.le_of_ble_eq_true rfl⟩) hS (fun q _ h => hFc q h) hFc (fun r15 u15 t15 H1 locs ht hvm hw hB hz1 hk1 hS => ?_)
      obtain ⟨hP1, hK1, hD1⟩ := hB
      rw [ht] at hP1
      have hP := hP1
      have hD := hD1.weaken (fun _ q _ h => hFc q.1 h)
      have hw : z15_1 = r15 := hw.symm
      subst hw
      generalize H1 = H at hP hS ⊢
      have hP : va_P (dC, dI) classes (wD cB cI o_Model r z15_3 z15_2) H := hP
      have hD : va_D A (wD cB cI o_Model r z15_3 z15_2) := hD
      obtain rfl := Option.some.inj h
      have hP9 := hP
      have hD9 := hD
      have hK9 := hK
      exact W.iret (v := z15_1) hx hb hr (fun t ht hW => ⟨⟨z15_1, (), rfl, rfl, by rw [ht]; exact hP9, va_K.moved hW.alike hK9, hD9⟩, hS.F ht⟩) hS.2.2 d_Model_packet_98
    · rw [if_pos c4] at h
      refine lv_iconst (v := 3) hx hb d_Model_packet_18 (by decide) ?_
      obtain rfl := Option.some.inj h
      have hP9 := hP
      have hD9 := hD
      have hK9 := hK
      exact W.iret (v := 3) hx hb hr (fun t ht hW => ⟨⟨3, (), rfl, rfl, by rw [ht]; exact hP9, va_K.moved hW.alike hK9, hD9⟩, hS.F ht⟩) hS.2.2 d_Model_packet_19
  · rw [if_pos c2] at h
    refine lv_iconst (v := 4) hx hb d_Model_packet_8 (by decide) ?_
    obtain rfl := Option.some.inj h
    have hP9 := hP
    have hD9 := hD
    have hK9 := hK
    exact W.iret (v := 4) hx hb hr (fun t ht hW => ⟨⟨4, (), rfl, rfl, by rw [ht]; exact hP9, va_K.moved hW.alike hK9, hD9⟩, hS.F ht⟩) hS.2.2 d_Model_packet_9

set_option maxHeartbeats 4000000 in
set_option maxRecDepth 100000 in
theorem c_Model_areSame (l : Launch) (dC : Nat → ClassId) (dI : Nat → Nat → Nat) (N : Nat) (p0 : Int32) (p1 : Int32) (p2 : Int32) (p3 : Int32) (z : Int32) (h : m_Model_areSame N p0 p1 p2 p3 = some z) : Met l y_Model_areSame (.code y_Model_areSame b_Model_areSame 4 (some .boolean) :: lw_g) ({ frames := 0, cells := 0, slots := 0, locals := 0 }) (va_Pc [.int p0, .int p1, .int p2, .int p3] (fun U => dz_N U ∧ va_P (dC, dI) classes [] U.heap ∧ va_K (dC, dI) classes [] U)) (vp_Si (fun r => r = z ∧ narrow .boolean (.int z) = .int z ∧ fits .boolean (.int z) = true)) 0 0 (fun _ => False) := by
  refine Met.ofW (cc := b_Model_areSame) (maxL := 4) (ret := (some .boolean)) (by decide +kernel) rfl ?_
  intro p e s m args below meth c s₁ B hml hv
  obtain ⟨rfl, hN, hP, hK⟩ := hv
  have hx := B.exec
  have hb := B.bytes
  have hr := B.returns
  have hg : ∀ w ∈ lw_g, w.before _ s = true := fun w hw => atoms_spec (ws := .code y_Model_areSame b_Model_areSame 4 (some .boolean) :: lw_g) B.pre w (List.mem_cons_of_mem _ hw)
  have hown : s.vm.findClass R_Model = some m.cls := findClass_of_methodNamed B.named
  have hlocks := B.notSynchronized
  clear B
  have hP : va_P (dC, dI) classes [] s.heap := hP
  have hl := lv_entry ([.int p0, .int p1, .int p2, .int p3]) (n := 4) (Nat.le_of_ble_eq_true rfl)
  rw [lg_entry_eq]
  generalize (lg_sl ([.int p0, .int p1, .int p2, .int p3]) ++ List.replicate (4 - (lg_sl ([.int p0, .int p1, .int p2, .int p3])).length) Slot.unset).toArray = ls at hl ⊢
  have hl : lv_has ls 4 [(0, .int p0), (1, .int p1), (2, .int p2), (3, .int p3)] := hl
  unfold m_Model_areSame at h
  refine lv_iload_n hx hb d_Model_areSame_0 rfl (lv_at hl 0 rfl) ?_
  refine lv_sipush (v := 255) hx hb d_Model_areSame_1 (by decide) ?_
  refine lv_iand hx hb d_Model_areSame_4 ?_
  refine lv_iload_n hx hb d_Model_areSame_5 rfl (lv_at hl 2 rfl) ?_
  refine lv_sipush (v := 255) hx hb d_Model_areSame_6 (by decide) ?_
  refine lv_iand hx hb d_Model_areSame_9 ?_
  refine lv_icmp_ne (tgt := 22) hx hb d_Model_areSame_10 (by decide) (fun c1 => ?_) (fun c1 => ?_)
  · rw [if_neg c1] at h
    refine lv_iconst (v := 0) hx hb d_Model_areSame_22 (by decide) ?_
    obtain rfl := Option.some.inj h
    exact W.zret (v := 0) (ty := .boolean) hx hb hr (show narrow .boolean (.int 0) = .int 0 from rfl) (fun t ht hW => ⟨_, rfl, ⟨rfl, (show narrow .boolean (.int 0) = .int 0 from rfl), (show fits .boolean (.int 0) = true from rfl)⟩, ht⟩) (fun _ h => by cases h) d_Model_areSame_23
  · rw [if_pos c1] at h
    refine lv_iload_n hx hb d_Model_areSame_13 rfl (lv_at hl 1 rfl) ?_
    refine lv_iload_n hx hb d_Model_areSame_14 rfl (lv_at hl 3 rfl) ?_
    refine lv_icmp_ne (tgt := 22) hx hb d_Model_areSame_15 (by decide) (fun c2 => ?_) (fun c2 => ?_)
    · rw [if_neg c2] at h
      refine lv_iconst (v := 0) hx hb d_Model_areSame_22 (by decide) ?_
      obtain rfl := Option.some.inj h
      exact W.zret (v := 0) (ty := .boolean) hx hb hr (show narrow .boolean (.int 0) = .int 0 from rfl) (fun t ht hW => ⟨_, rfl, ⟨rfl, (show narrow .boolean (.int 0) = .int 0 from rfl), (show fits .boolean (.int 0) = true from rfl)⟩, ht⟩) (fun _ h => by cases h) d_Model_areSame_23
    · rw [if_pos c2] at h
      refine lv_iconst (v := 1) hx hb d_Model_areSame_18 (by decide) ?_
      refine lv_goto (tgt := 23) hx hb d_Model_areSame_19 (by decide) ?_
      obtain rfl := Option.some.inj h
      exact W.zret (v := 1) (ty := .boolean) hx hb hr (show narrow .boolean (.int 1) = .int 1 from rfl) (fun t ht hW => ⟨_, rfl, ⟨rfl, (show narrow .boolean (.int 1) = .int 1 from rfl), (show fits .boolean (.int 1) = true from rfl)⟩, ht⟩) (fun _ h => by cases h) d_Model_areSame_23

set_option maxHeartbeats 4000000 in
set_option maxRecDepth 100000 in
theorem c_Model_isSame (l : Launch) (dC : Nat → ClassId) (dI : Nat → Nat → Nat) (N : Nat) (cB : ClassId) (cI : ClassId) (o_Model : Nat) (r : Nat → Nat) (I : Nat → Int32) (F : Nat → Nat → Int32) (p0 : Int32) (p1 : Int32) (z : Int32) (h : m_Model_isSame N I F p0 p1 = some z) : Met l y_Model_isSame (.code y_Model_isSame b_Model_isSame 3 (some .boolean) :: lw_g) ({ frames := 1, cells := 0, slots := 0, locals := 23 }) (va_Pc [.ref o_Model, .int p0, .int p1] (fun U => dz_N U ∧ va_P (dC, dI) classes (wD cB cI o_Model r I F) U.heap ∧ va_K (dC, dI) classes [(cB, .byte), (cI, .int)] U)) (vp_Si (fun r => r = z ∧ narrow .boolean (.int z) = .int z ∧ fits .boolean (.int z) = true)) 0 0 (fun _ => False) := by
  refine Met.ofW (cc := b_Model_isSame) (maxL := 3) (ret := (some .boolean)) (by decide +kernel) rfl ?_
  intro p e s m args below meth c s₁ B hml hv
  obtain ⟨rfl, hN, hP, hK⟩ := hv
  have hx := B.exec
  have hb := B.bytes
  have hr := B.returns
  have hg : ∀ w ∈ lw_g, w.before _ s = true := fun w hw => atoms_spec (ws := .code y_Model_isSame b_Model_isSame 3 (some .boolean) :: lw_g) B.pre w (List.mem_cons_of_mem _ hw)
  have hown : s.vm.findClass R_Model = some m.cls := findClass_of_methodNamed B.named
  have hlocks := B.notSynchronized
  clear B
  have hP : va_P (dC, dI) classes (wD cB cI o_Model r I F) s.heap := hP
  have hl := lv_entry ([.ref o_Model, .int p0, .int p1]) (n := 3) (Nat.le_of_ble_eq_true rfl)
  rw [lg_entry_eq]
  generalize (lg_sl ([.ref o_Model, .int p0, .int p1]) ++ List.replicate (3 - (lg_sl ([.ref o_Model, .int p0, .int p1])).length) Slot.unset).toArray = ls at hl ⊢
  have hl : lv_has ls 3 [(0, .ref o_Model), (1, .int p0), (2, .int p1)] := hl
  unfold m_Model_isSame at h
  refine lv_aload_n hx hb d_Model_isSame_0 rfl (lv_at hl 0 rfl) ?_
  refine va_get (D := (dC, dI)) (ci := 10) (v := .ref (r 27)) (C := R_Model) (T := F_Model) (N := 54) hx hb hg i_Model hown hK hP 0 rfl rfl 27 (by decide) (hg _ k731) (fun _ h9 => h9) rfl d_Model_isSame_1 ?_
  refine lv_aload_n hx hb d_Model_isSame_4 rfl (lv_at hl 0 rfl) ?_
  refine va_get (D := (dC, dI)) (ci := 10) (v := .int (I 29)) (C := R_Model) (T := F_Model) (N := 54) hx hb hg i_Model hown hK hP 0 rfl rfl 29 (by decide) (hg _ k719) (fun _ h9 => h9) rfl d_Model_isSame_5 ?_
  refine lv_iload_n hx hb d_Model_isSame_8 rfl (lv_at hl 1 rfl) ?_
  refine lv_isub hx hb d_Model_isSame_9 ?_
  obtain ⟨i1, h⟩ := dz_oi h
  refine va_iald (D := (dC, dI)) (f := F 27) hx hb hK hP 17 1 rfl rfl i1 d_Model_isSame_10 ?_
  refine lv_aload_n hx hb d_Model_isSame_11 rfl (lv_at hl 0 rfl) ?_
  refine va_get (D := (dC, dI)) (ci := 10) (v := .ref (r 28)) (C := R_Model) (T := F_Model) (N := 54) hx hb hg i_Model hown hK hP 0 rfl rfl 28 (by decide) (hg _ k732) (fun _ h9 => h9) rfl d_Model_isSame_12 ?_
  refine lv_aload_n hx hb d_Model_isSame_15 rfl (lv_at hl 0 rfl) ?_
  refine va_get (D := (dC, dI)) (ci := 10) (v := .int (I 29)) (C := R_Model) (T := F_Model) (N := 54) hx hb hg i_Model hown hK hP 0 rfl rfl 29 (by decide) (hg _ k719) (fun _ h9 => h9) rfl d_Model_isSame_16 ?_
  refine lv_iload_n hx hb d_Model_isSame_19 rfl (lv_at hl 1 rfl) ?_
  refine lv_isub hx hb d_Model_isSame_20 ?_
  obtain ⟨i2, h⟩ := dz_oi h
  refine va_iald (D := (dC, dI)) (f := F 28) hx hb hK hP 18 1 rfl rfl i2 d_Model_isSame_21 ?_
  refine lv_aload_n hx hb d_Model_isSame_22 rfl (lv_at hl 0 rfl) ?_
  refine va_get (D := (dC, dI)) (ci := 10) (v := .ref (r 27)) (C := R_Model) (T := F_Model) (N := 54) hx hb hg i_Model hown hK hP 0 rfl rfl 27 (by decide) (hg _ k731) (fun _ h9 => h9) rfl d_Model_isSame_23 ?_
  refine lv_aload_n hx hb d_Model_isSame_26 rfl (lv_at hl 0 rfl) ?_
  refine va_get (D := (dC, dI)) (ci := 10) (v := .int (I 29)) (C := R_Model) (T := F_Model) (N := 54) hx hb hg i_Model hown hK hP 0 rfl rfl 29 (by decide) (hg _ k719) (fun _ h9 => h9) rfl d_Model_isSame_27 ?_
  refine lv_iload_n hx hb d_Model_isSame_30 rfl (lv_at hl 2 rfl) ?_
  refine lv_isub hx hb d_Model_isSame_31 ?_
  obtain ⟨i3, h⟩ := dz_oi h
  refine va_iald (D := (dC, dI)) (f := F 27) hx hb hK hP 17 1 rfl rfl i3 d_Model_isSame_32 ?_
  refine lv_aload_n hx hb d_Model_isSame_33 rfl (lv_at hl 0 rfl) ?_
  refine va_get (D := (dC, dI)) (ci := 10) (v := .ref (r 28)) (C := R_Model) (T := F_Model) (N := 54) hx hb hg i_Model hown hK hP 0 rfl rfl 28 (by decide) (hg _ k732) (fun _ h9 => h9) rfl d_Model_isSame_34 ?_
  refine lv_aload_n hx hb d_Model_isSame_37 rfl (lv_at hl 0 rfl) ?_
  refine va_get (D := (dC, dI)) (ci := 10) (v := .int (I 29)) (C := R_Model) (T := F_Model) (N := 54) hx hb hg i_Model hown hK hP 0 rfl rfl 29 (by decide) (hg _ k719) (fun _ h9 => h9) rfl d_Model_isSame_38 ?_
  refine lv_iload_n hx hb d_Model_isSame_41 rfl (lv_at hl 2 rfl) ?_
  refine lv_isub hx hb d_Model_isSame_42 ?_
  obtain ⟨i4, h⟩ := dz_oi h
  refine va_iald (D := (dC, dI)) (f := F 28) hx hb hK hP 18 1 rfl rfl i4 d_Model_isSame_43 ?_
  obtain ⟨z5_1, hc5, h⟩ := dz_ob h
  try dsimp only at h
  have hPc := hP.sub (ws' := []) [] rfl
  have hKc := hK.sub (tys' := []) [] rfl
  refine vp_callSi (va_Run.run (va_runS (As := [.int ((F 27) ((I 29) - p0).toNatClampNeg), .int ((F 28) ((I 29) - p0).toNatClampNeg), .int ((F 27) ((I 29) - p1).toNatClampNeg), .int ((F 28) ((I 29) - p1).toNatClampNeg)]) (rest := []) ⟨hx, hb, hml, hown, hg⟩ (c_Model_areSame l dC dI N ((F 27) ((I 29) - p0).toNatClampNeg) ((F 28) ((I 29) - p0).toNatClampNeg) ((F 27) ((I 29) - p1).toNatClampNeg) ((F 28) ((I 29) - p1).toNatClampNeg) z5_1 hc5) (va_cwS 4 hg (gd_S k839 k840 k707 k838) rfl rfl rfl (by decide +kernel) ⟨Nat.le_of_ble_eq_true rfl, Nat.le_of_ble_eq_true rfl⟩) ⟨dz_blindR, fun U hU hW => ⟨rfl, dz_Nw hW hN, by rw [hU]; exact hPc, va_K.moved hW.alike hKc⟩⟩ rfl rfl hl.1 rfl (lv_room (Nat.le_of_ble_eq_true rfl)) d_Model_isSame_44 ⟨Nat.le_of_ble_eq_true rfl, Nat.le_of_ble_eq_true rfl⟩)) (fun r5 hw => ?_)
  obtain ⟨hw, hbz5⟩ := hw
  have hw : z5_1 = r5 := hw.symm
  subst hw
  obtain rfl := Option.some.inj h
  exact W.zret (v := z5_1) (ty := .boolean) hx hb hr hbz5.1 (fun t ht hW => ⟨_, rfl, ⟨rfl, hbz5.1, hbz5.2⟩, ht⟩) (fun _ h => by cases h) d_Model_isSame_47

set_option maxHeartbeats 4000000 in
set_option maxRecDepth 100000 in
theorem c_Model_byteAt (l : Launch) (dC : Nat → ClassId) (dI : Nat → Nat → Nat) (N : Nat) (cB : ClassId) (cI : ClassId) (o_Model : Nat) (r : Nat → Nat) (I : Nat → Int32) (F : Nat → Nat → Int32) (p0 : Int32) (p1 : Int32) (z : Int32) (h : m_Model_byteAt N I F p0 p1 = some z) : Met l y_Model_byteAt (.code y_Model_byteAt b_Model_byteAt 3 (some .int) :: lw_g) ({ frames := 0, cells := 0, slots := 0, locals := 0 }) (va_Pc [.ref o_Model, .int p0, .int p1] (fun U => dz_N U ∧ va_P (dC, dI) classes (wD cB cI o_Model r I F) U.heap ∧ va_K (dC, dI) classes [(cB, .byte), (cI, .int)] U)) (vp_Si (fun r => r = z)) 0 0 (fun _ => False) := by
  refine Met.ofW (cc := b_Model_byteAt) (maxL := 3) (ret := (some .int)) (by decide +kernel) rfl ?_
  intro p e s m args below meth c s₁ B hml hv
  obtain ⟨rfl, hN, hP, hK⟩ := hv
  have hx := B.exec
  have hb := B.bytes
  have hr := B.returns
  have hg : ∀ w ∈ lw_g, w.before _ s = true := fun w hw => atoms_spec (ws := .code y_Model_byteAt b_Model_byteAt 3 (some .int) :: lw_g) B.pre w (List.mem_cons_of_mem _ hw)
  have hown : s.vm.findClass R_Model = some m.cls := findClass_of_methodNamed B.named
  have hlocks := B.notSynchronized
  clear B
  have hP : va_P (dC, dI) classes (wD cB cI o_Model r I F) s.heap := hP
  have hl := lv_entry ([.ref o_Model, .int p0, .int p1]) (n := 3) (Nat.le_of_ble_eq_true rfl)
  rw [lg_entry_eq]
  generalize (lg_sl ([.ref o_Model, .int p0, .int p1]) ++ List.replicate (3 - (lg_sl ([.ref o_Model, .int p0, .int p1])).length) Slot.unset).toArray = ls at hl ⊢
  have hl : lv_has ls 3 [(0, .ref o_Model), (1, .int p0), (2, .int p1)] := hl
  unfold m_Model_byteAt at h
  refine lv_aload_n hx hb d_Model_byteAt_0 rfl (lv_at hl 0 rfl) ?_
  refine va_get (D := (dC, dI)) (ci := 10) (v := .ref (r 1)) (C := R_Model) (T := F_Model) (N := 54) hx hb hg i_Model hown hK hP 0 rfl rfl 1 (by decide) (hg _ k742) (fun _ h9 => h9) rfl d_Model_byteAt_1 ?_
  refine lv_iload_n hx hb d_Model_byteAt_4 rfl (lv_at hl 1 rfl) ?_
  refine lv_iconst (v := 1) hx hb d_Model_byteAt_5 (by decide) ?_
  refine lv_iadd hx hb d_Model_byteAt_6 ?_
  refine lv_iload_n hx hb d_Model_byteAt_7 rfl (lv_at hl 2 rfl) ?_
  refine lv_iconst (v := 4) hx hb d_Model_byteAt_8 (by decide) ?_
  refine lv_idiv hx hb d_Model_byteAt_9 (by decide) ?_
  refine lv_iadd hx hb d_Model_byteAt_10 ?_
  obtain ⟨i2, h⟩ := dz_oi h
  refine va_iald (D := (dC, dI)) (f := F 1) hx hb hK hP 2 1 rfl rfl i2 d_Model_byteAt_11 ?_
  refine lv_bipush (v := 8) hx hb d_Model_byteAt_12 (by decide) ?_
  refine lv_iload_n hx hb d_Model_byteAt_14 rfl (lv_at hl 2 rfl) ?_
  refine lv_iconst (v := 4) hx hb d_Model_byteAt_15 (by decide) ?_
  refine lv_irem hx hb d_Model_byteAt_16 (by decide) ?_
  refine lv_imul hx hb d_Model_byteAt_17 ?_
  refine lv_iushr (v := (((F 1) ((p0 + 1) + (p1 / 4)).toNatClampNeg).toUInt32 >>> ((8 * (p1 - p1 / 4 * 4)).toUInt32 &&& Int32.toUInt32 31)).toInt32) hx hb d_Model_byteAt_18 rfl ?_
  obtain ⟨x4, ex4, h⟩ := dz_lt h
  refine dz_topi ex4 ?_
  refine lv_sipush (v := 255) hx hb d_Model_byteAt_19 (by decide) ?_
  refine lv_iand hx hb d_Model_byteAt_22 ?_
  obtain rfl := Option.some.inj h
  exact W.iret (v := x4 &&& 255) hx hb hr (fun t ht hW => ⟨_, rfl, rfl, ht⟩) (fun _ h => by cases h) d_Model_byteAt_23

set_option maxHeartbeats 4000000 in
set_option maxRecDepth 100000 in
theorem l_Model_compare_1 {p : Program} {l : Launch} {e : Env} {s : State} {m : MethodId} {args : Array Value} {below : List Frame} {meth : Method} {c : Code} {Q : State → Prop} (dC : Nat → ClassId) (dI : Nat → Nat → Nat) (N : Nat) (cB : ClassId) (cI : ClassId) (o_Model : Nat) (r : Nat → Nat) (I : Nat → Int32) (F : Nat → Nat → Int32) (p0 : Int32) (p1 : Int32) {ζ : Type} {z : ζ} (hx : p.tables.exec = Jvm.exec) (hb : c.code = b_Model_compare) (hml : c.maxLocals = 5) (hown : s.vm.findClass R_Model = some m.cls) (hg : ∀ w ∈ lw_g, w.before args s = true) (hN : dz_N s) (hK : va_K (dC, dI) classes [(cB, .byte), (cI, .int)] s) (hP : va_P (dC, dI) classes (wD cB cI o_Model r I F) s.heap) {k1_30 : Int32 → Option (ζ)} (hk1_30 : ∀   (y1_0 : Int32)   (ls : Array Slot), k1_30 y1_0 = some z → lv_has ls 5 [(0, .ref o_Model), (1, .int p0), (2, .int p1)] → W p l e ({ frames := 1, cells := 0, slots := 0, locals := 22 } : Room) s m args below meth c s.heap [] 0 0 Q (F0 m 30 ls [.int y1_0])) : ∀     (ls : Array Slot), lm_Model_compare_1 N F p0 p1 k1_30  = some z → lv_has ls 5 [(0, .ref o_Model), (1, .int p0), (2, .int p1)] → W p l e ({ frames := 1, cells := 0, slots := 0, locals := 22 } : Room) s m args below meth c s.heap [] 0 0 Q (F0 m 0 ls []) := by
  intro ls h hl
  unfold lm_Model_compare_1 at h
  refine lv_aload_n hx hb d_Model_compare_0 rfl (lv_at hl 0 rfl) ?_
  refine va_get (D := (dC, dI)) (ci := 10) (v := .ref (r 1)) (C := R_Model) (T := F_Model) (N := 54) hx hb hg i_Model hown hK hP 0 rfl rfl 1 (by decide) (hg _ k742) (fun _ h9 => h9) rfl d_Model_compare_1 ?_
  refine lv_iload_n hx hb d_Model_compare_4 rfl (lv_at hl 1 rfl) ?_
  obtain ⟨i1, h⟩ := dz_oi h
  refine va_iald (D := (dC, dI)) (f := F 1) hx hb hK hP 2 1 rfl rfl i1 d_Model_compare_5 ?_
  refine lv_aload_n hx hb d_Model_compare_6 rfl (lv_at hl 0 rfl) ?_
  refine va_get (D := (dC, dI)) (ci := 10) (v := .ref (r 1)) (C := R_Model) (T := F_Model) (N := 54) hx hb hg i_Model hown hK hP 0 rfl rfl 1 (by decide) (hg _ k742) (fun _ h9 => h9) rfl d_Model_compare_7 ?_
  refine lv_iload_n hx hb d_Model_compare_10 rfl (lv_at hl 2 rfl) ?_
  obtain ⟨i2, h⟩ := dz_oi h
  refine va_iald (D := (dC, dI)) (f := F 1) hx hb hK hP 2 1 rfl rfl i2 d_Model_compare_11 ?_
  refine lv_icmp_ge (tgt := 24) hx hb d_Model_compare_12 (by decide) (fun c3 => ?_) (fun c3 => ?_)
  · rw [if_pos c3] at h
    refine lv_aload_n hx hb d_Model_compare_24 rfl (lv_at hl 0 rfl) ?_
    refine va_get (D := (dC, dI)) (ci := 10) (v := .ref (r 1)) (C := R_Model) (T := F_Model) (N := 54) hx hb hg i_Model hown hK hP 0 rfl rfl 1 (by decide) (hg _ k742) (fun _ h9 => h9) rfl d_Model_compare_25 ?_
    refine lv_iload_n hx hb d_Model_compare_28 rfl (lv_at hl 2 rfl) ?_
    obtain ⟨i4, h⟩ := dz_oi h
    refine va_iald (D := (dC, dI)) (f := F 1) hx hb hK hP 2 1 rfl rfl i4 d_Model_compare_29 ?_
    exact hk1_30 ((F 1) p1.toNatClampNeg) _ h (lv_sub hl [0, 1, 2] rfl)
  · rw [if_neg c3] at h
    refine lv_aload_n hx hb d_Model_compare_15 rfl (lv_at hl 0 rfl) ?_
    refine va_get (D := (dC, dI)) (ci := 10) (v := .ref (r 1)) (C := R_Model) (T := F_Model) (N := 54) hx hb hg i_Model hown hK hP 0 rfl rfl 1 (by decide) (hg _ k742) (fun _ h9 => h9) rfl d_Model_compare_16 ?_
    refine lv_iload_n hx hb d_Model_compare_19 rfl (lv_at hl 1 rfl) ?_
    obtain ⟨i5, h⟩ := dz_oi h
    refine va_iald (D := (dC, dI)) (f := F 1) hx hb hK hP 2 1 rfl rfl i5 d_Model_compare_20 ?_
    refine lv_goto (tgt := 30) hx hb d_Model_compare_21 (by decide) ?_
    exact hk1_30 ((F 1) p0.toNatClampNeg) _ h (lv_sub hl [0, 1, 2] rfl)
set_option maxHeartbeats 4000000 in
set_option maxRecDepth 100000 in
theorem l_Model_compare_2 {p : Program} {l : Launch} {e : Env} {s : State} {m : MethodId} {args : Array Value} {below : List Frame} {meth : Method} {c : Code} {Q : State → Prop} (dC : Nat → ClassId) (dI : Nat → Nat → Nat) (N : Nat) (cB : ClassId) (cI : ClassId) (o_Model : Nat) (r : Nat → Nat) (I : Nat → Int32) (F : Nat → Nat → Int32) (p0 : Int32) (p1 : Int32) (y1_0 : Int32) {ζ : Type} {z : ζ} (hx : p.tables.exec = Jvm.exec) (hb : c.code = b_Model_compare) (hml : c.maxLocals = 5) (hown : s.vm.findClass R_Model = some m.cls) (hg : ∀ w ∈ lw_g, w.before args s = true) (hN : dz_N s) (hK : va_K (dC, dI) classes [(cB, .byte), (cI, .int)] s) (hP : va_P (dC, dI) classes (wD cB cI o_Model r I F) s.heap) {k2_79 : Int32 → Option (ζ)} {k2_57 : Int32 → Option (ζ)} (hk2_79 : ∀ (v2_4 : Int32)     (ls : Array Slot), k2_79 v2_4 = some z → lv_has ls 5 [(4, .int v2_4), (3, .int y1_0), (0, .ref o_Model), (1, .int p0), (2, .int p1)] → W p l e ({ frames := 1, cells := 0, slots := 0, locals := 22 } : Room) s m args below meth c s.heap [] 0 0 Q (F0 m 79 ls [])) (hk2_57 : ∀ (v2_4 : Int32)     (ls : Array Slot), k2_57 v2_4 = some z → lv_has ls 5 [(4, .int v2_4), (3, .int y1_0), (0, .ref o_Model), (1, .int p0), (2, .int p1)] → W p l e ({ frames := 1, cells := 0, slots := 0, locals := 22 } : Room) s m args below meth c s.heap [] 0 0 Q (F0 m 57 ls [])) : ∀ (n2 : Nat) (v2_4 : Int32)    (ls : Array Slot), lm_Model_compare_2 N I F p0 p1 y1_0 k2_79 k2_57 n2 v2_4 = some z → lv_has ls 5 [(4, .int v2_4), (3, .int y1_0), (0, .ref o_Model), (1, .int p0), (2, .int p1)] → W p l e ({ frames := 1, cells := 0, slots := 0, locals := 22 } : Room) s m args below meth c s.heap [] 0 0 Q (F0 m 34 ls []) := by
  intro n2
  induction n2 with
  | zero =>
    intro v2_4 ls h hl
    rw [lm_Model_compare_2] at h
    cases h
  | succ n2 ih2 =>
    intro v2_4 ls h hl
    rw [lm_Model_compare_2] at h
    refine lv_iload hx hb d_Model_compare_34 (lv_at hl 0 rfl) ?_
    refine lv_iload_n hx hb d_Model_compare_36 rfl (lv_at hl 1 rfl) ?_
    refine lv_icmp_ge (tgt := 79) hx hb d_Model_compare_37 (by decide) (fun c6 => ?_) (fun c6 => ?_)
    · rw [if_pos c6] at h
      exact hk2_79 v2_4 _ h (lv_sub hl [0, 1, 2, 3, 4] rfl)
    · rw [if_neg c6] at h
      refine lv_aload_n hx hb d_Model_compare_40 rfl (lv_at hl 2 rfl) ?_
      refine lv_iload_n hx hb d_Model_compare_41 rfl (lv_at hl 3 rfl) ?_
      refine lv_iload hx hb d_Model_compare_42 (lv_at hl 0 rfl) ?_
      obtain ⟨z7_1, hc7, h⟩ := dz_ob h
      try dsimp only at h
      have hPc := hP
      have hKc := hK
      refine vp_callSi (va_Run.run (va_runV (As := [.int p0, .int v2_4]) (rest := []) ⟨hx, hb, hml, hown, hg⟩ (c_Model_byteAt l dC dI N cB cI o_Model r I F p0 v2_4 z7_1 hc7) (cwV 2 hg (gd_V k842 k843 k844 k707 k841) rfl rfl rfl (by decide +kernel) ⟨Nat.le_of_ble_eq_true rfl, Nat.le_of_ble_eq_true rfl⟩) ⟨dz_blindR, va_recv hKc hPc (ci := 10) (q0 := 0) rfl rfl, fun U hU hW => ⟨rfl, dz_Nw hW hN, by rw [hU]; exact hPc, va_K.moved hW.alike hKc⟩⟩ rfl rfl hl.1 rfl (lv_room (Nat.le_of_ble_eq_true rfl)) d_Model_compare_44 ⟨Nat.le_of_ble_eq_true rfl, Nat.le_of_ble_eq_true rfl⟩)) (fun r7 hw => ?_)
      have hw : z7_1 = r7 := hw.symm
      subst hw
      refine lv_aload_n hx hb d_Model_compare_47 rfl (lv_at hl 2 rfl) ?_
      refine lv_iload_n hx hb d_Model_compare_48 rfl (lv_at hl 4 rfl) ?_
      refine lv_iload hx hb d_Model_compare_49 (lv_at hl 0 rfl) ?_
      obtain ⟨z8_1, hc8, h⟩ := dz_ob h
      try dsimp only at h
      have hPc := hP
      have hKc := hK
      refine vp_callSi (va_Run.run (va_runV (As := [.int p1, .int v2_4]) (rest := [.int z7_1]) ⟨hx, hb, hml, hown, hg⟩ (c_Model_byteAt l dC dI N cB cI o_Model r I F p1 v2_4 z8_1 hc8) (cwV 2 hg (gd_V k842 k843 k844 k707 k841) rfl rfl rfl (by decide +kernel) ⟨Nat.le_of_ble_eq_true rfl, Nat.le_of_ble_eq_true rfl⟩) ⟨dz_blindR, va_recv hKc hPc (ci := 10) (q0 := 0) rfl rfl, fun U hU hW => ⟨rfl, dz_Nw hW hN, by rw [hU]; exact hPc, va_K.moved hW.alike hKc⟩⟩ rfl rfl hl.1 rfl (lv_room (Nat.le_of_ble_eq_true rfl)) d_Model_compare_51 ⟨Nat.le_of_ble_eq_true rfl, Nat.le_of_ble_eq_true rfl⟩)) (fun r8 hw => ?_)
      have hw : z8_1 = r8 := hw.symm
      subst hw
      refine lv_icmp_eq (tgt := 73) hx hb d_Model_compare_54 (by decide) (fun c9 => ?_) (fun c9 => ?_)
      · rw [if_pos c9] at h
        refine lv_iinc (v := v2_4 + 1) (lv' := [(4, .int (v2_4 + 1)), (3, .int y1_0), (0, .ref o_Model), (1, .int p0), (2, .int p1)]) hx hb d_Model_compare_73 hl (k := 0) rfl rfl (by decide) rfl (fun ls hl => ?_)
        refine lv_goto (tgt := 34) hx hb d_Model_compare_76 (by decide) ?_
        exact ih2 (v2_4 + 1) _ h (lv_sub hl [0, 1, 2, 3, 4] rfl)
      · rw [if_neg c9] at h
        exact hk2_57 v2_4 _ h (lv_sub hl [0, 1, 2, 3, 4] rfl)
set_option maxHeartbeats 4000000 in
set_option maxRecDepth 100000 in
theorem c_Model_compare (l : Launch) (dC : Nat → ClassId) (dI : Nat → Nat → Nat) (N : Nat) (cB : ClassId) (cI : ClassId) (o_Model : Nat) (r : Nat → Nat) (I : Nat → Int32) (F : Nat → Nat → Int32) (p0 : Int32) (p1 : Int32) (z : Int32) (h : m_Model_compare N I F p0 p1 = some z) : Met l y_Model_compare (.code y_Model_compare b_Model_compare 5 (some .int) :: lw_g) ({ frames := 1, cells := 0, slots := 0, locals := 22 }) (va_Pc [.ref o_Model, .int p0, .int p1] (fun U => dz_N U ∧ va_P (dC, dI) classes (wD cB cI o_Model r I F) U.heap ∧ va_K (dC, dI) classes [(cB, .byte), (cI, .int)] U)) (vp_Si (fun r => r = z)) 0 0 (fun _ => False) := by
  refine Met.ofW (cc := b_Model_compare) (maxL := 5) (ret := (some .int)) (by decide +kernel) rfl ?_
  intro p e s m args below meth c s₁ B hml hv
  obtain ⟨rfl, hN, hP, hK⟩ := hv
  have hx := B.exec
  have hb := B.bytes
  have hr := B.returns
  have hg : ∀ w ∈ lw_g, w.before _ s = true := fun w hw => atoms_spec (ws := .code y_Model_compare b_Model_compare 5 (some .int) :: lw_g) B.pre w (List.mem_cons_of_mem _ hw)
  have hown : s.vm.findClass R_Model = some m.cls := findClass_of_methodNamed B.named
  have hlocks := B.notSynchronized
  clear B
  have hP : va_P (dC, dI) classes (wD cB cI o_Model r I F) s.heap := hP
  have hl := lv_entry ([.ref o_Model, .int p0, .int p1]) (n := 5) (Nat.le_of_ble_eq_true rfl)
  rw [lg_entry_eq]
  generalize (lg_sl ([.ref o_Model, .int p0, .int p1]) ++ List.replicate (5 - (lg_sl ([.ref o_Model, .int p0, .int p1])).length) Slot.unset).toArray = ls at hl ⊢
  have hl : lv_has ls 5 [(0, .ref o_Model), (1, .int p0), (2, .int p1)] := hl
  unfold m_Model_compare at h
  refine l_Model_compare_1 dC dI N cB cI o_Model r I F p0 p1 hx hb hml hown hg hN hK hP (fun y1_0 ls h hl => ?_)  _ h (lv_sub hl [0, 1, 2] rfl)
  refine lv_istore_n (lv' := [(3, .int y1_0), (0, .ref o_Model), (1, .int p0), (2, .int p1)]) hx hb d_Model_compare_30 rfl hl (by decide) rfl (fun ls hl => ?_)
  refine lv_iconst (v := 0) hx hb d_Model_compare_31 (by decide) ?_
  refine lv_istore (lv' := [(4, .int 0), (3, .int y1_0), (0, .ref o_Model), (1, .int p0), (2, .int p1)]) hx hb d_Model_compare_32 hl (by decide) rfl (fun ls hl => ?_)
  refine l_Model_compare_2 dC dI N cB cI o_Model r I F p0 p1 y1_0 hx hb hml hown hg hN hK hP (fun v2_4 ls h hl => ?_) (fun v2_4 ls h hl => ?_) N (0 : Int32) _ h (lv_sub hl [0, 1, 2, 3, 4] rfl)
  · skip
    refine lv_aload_n hx hb d_Model_compare_79 rfl (lv_at hl 2 rfl) ?_
    refine va_get (D := (dC, dI)) (ci := 10) (v := .ref (r 1)) (C := R_Model) (T := F_Model) (N := 54) hx hb hg i_Model hown hK hP 0 rfl rfl 1 (by decide) (hg _ k742) (fun _ h9 => h9) rfl d_Model_compare_80 ?_
    refine lv_iload_n hx hb d_Model_compare_83 rfl (lv_at hl 3 rfl) ?_
    obtain ⟨i10, h⟩ := dz_oi h
    refine va_iald (D := (dC, dI)) (f := F 1) hx hb hK hP 2 1 rfl rfl i10 d_Model_compare_84 ?_
    refine lv_aload_n hx hb d_Model_compare_85 rfl (lv_at hl 2 rfl) ?_
    refine va_get (D := (dC, dI)) (ci := 10) (v := .ref (r 1)) (C := R_Model) (T := F_Model) (N := 54) hx hb hg i_Model hown hK hP 0 rfl rfl 1 (by decide) (hg _ k742) (fun _ h9 => h9) rfl d_Model_compare_86 ?_
    refine lv_iload_n hx hb d_Model_compare_89 rfl (lv_at hl 4 rfl) ?_
    obtain ⟨i11, h⟩ := dz_oi h
    refine va_iald (D := (dC, dI)) (f := F 1) hx hb hK hP 2 1 rfl rfl i11 d_Model_compare_90 ?_
    refine lv_isub hx hb d_Model_compare_91 ?_
    obtain rfl := Option.some.inj h
    exact W.iret (v := ((F 1) p0.toNatClampNeg) - ((F 1) p1.toNatClampNeg)) hx hb hr (fun t ht hW => ⟨_, rfl, rfl, ht⟩) (fun _ h => by cases h) d_Model_compare_92
  · skip
    refine lv_aload_n hx hb d_Model_compare_57 rfl (lv_at hl 2 rfl) ?_
    refine lv_iload_n hx hb d_Model_compare_58 rfl (lv_at hl 3 rfl) ?_
    refine lv_iload hx hb d_Model_compare_59 (lv_at hl 0 rfl) ?_
    obtain ⟨z12_1, hc12, h⟩ := dz_ob h
    try dsimp only at h
    have hPc := hP
    have hKc := hK
    refine vp_callSi (va_Run.run (va_runV (As := [.int p0, .int v2_4]) (rest := []) ⟨hx, hb, hml, hown, hg⟩ (c_Model_byteAt l dC dI N cB cI o_Model r I F p0 v2_4 z12_1 hc12) (cwV 2 hg (gd_V k842 k843 k844 k707 k841) rfl rfl rfl (by decide +kernel) ⟨Nat.le_of_ble_eq_true rfl, Nat.le_of_ble_eq_true rfl⟩) ⟨dz_blindR, va_recv hKc hPc (ci := 10) (q0 := 0) rfl rfl, fun U hU hW => ⟨rfl, dz_Nw hW hN, by rw [hU]; exact hPc, va_K.moved hW.alike hKc⟩⟩ rfl rfl hl.1 rfl (lv_room (Nat.le_of_ble_eq_true rfl)) d_Model_compare_61 ⟨Nat.le_of_ble_eq_true rfl, Nat.le_of_ble_eq_true rfl⟩)) (fun r12 hw => ?_)
    have hw : z12_1 = r12 := hw.symm
    subst hw
    refine lv_aload_n hx hb d_Model_compare_64 rfl (lv_at hl 2 rfl) ?_
    refine lv_iload_n hx hb d_Model_compare_65 rfl (lv_at hl 4 rfl) ?_
    refine lv_iload hx hb d_Model_compare_66 (lv_at hl 0 rfl) ?_
    obtain ⟨z13_1, hc13, h⟩ := dz_ob h
    try dsimp only at h
    have hPc := hP
    have hKc := hK
    refine vp_callSi (va_Run.run (va_runV (As := [.int p1, .int v2_4]) (rest := [.int z12_1]) ⟨hx, hb, hml, hown, hg⟩ (c_Model_byteAt l dC dI N cB cI o_Model r I F p1 v2_4 z13_1 hc13) (cwV 2 hg (gd_V k842 k843 k844 k707 k841) rfl rfl rfl (by decide +kernel) ⟨Nat.le_of_ble_eq_true rfl, Nat.le_of_ble_eq_true rfl⟩) ⟨dz_blindR, va_recv hKc hPc (ci := 10) (q0 := 0) rfl rfl, fun U hU hW => ⟨rfl, dz_Nw hW hN, by rw [hU]; exact hPc, va_K.moved hW.alike hKc⟩⟩ rfl rfl hl.1 rfl (lv_room (Nat.le_of_ble_eq_true rfl)) d_Model_compare_68 ⟨Nat.le_of_ble_eq_true rfl, Nat.le_of_ble_eq_true rfl⟩)) (fun r13 hw => ?_)
    have hw : z13_1 = r13 := hw.symm
    subst hw
    refine lv_isub hx hb d_Model_compare_71 ?_
    obtain rfl := Option.some.inj h
    exact W.iret (v := z12_1 - z13_1) hx hb hr (fun t ht hW => ⟨_, rfl, rfl, ht⟩) (fun _ h => by cases h) d_Model_compare_72

set_option maxHeartbeats 4000000 in
set_option maxRecDepth 100000 in
theorem l_Model_leader_1 {p : Program} {l : Launch} {e : Env} {s : State} {m : MethodId} {args : Array Value} {below : List Frame} {meth : Method} {c : Code} {Q : State → Prop} (dC : Nat → ClassId) (dI : Nat → Nat → Nat) (N : Nat) (cB : ClassId) (cI : ClassId) (o_Model : Nat) (r : Nat → Nat) (I : Nat → Int32) (F : Nat → Nat → Int32) (p0 : Int32) {ζ : Type} {z : ζ} (hx : p.tables.exec = Jvm.exec) (hb : c.code = b_Model_leader) (hml : c.maxLocals = 3) (hown : s.vm.findClass R_Model = some m.cls) (hg : ∀ w ∈ lw_g, w.before args s = true) (hN : dz_N s) (hK : va_K (dC, dI) classes [(cB, .byte), (cI, .int)] s) (hP : va_P (dC, dI) classes (wD cB cI o_Model r I F) s.heap) {k1_21 : Int32 → Option (ζ)} (hk1_21 : ∀ (v1_2 : Int32)     (ls : Array Slot), k1_21 v1_2 = some z → lv_has ls 3 [(2, .int v1_2), (0, .ref o_Model), (1, .int p0)] → W p l e ({ frames := 0, cells := 0, slots := 0, locals := 0 } : Room) s m args below meth c s.heap [] 0 0 Q (F0 m 21 ls [])) : ∀ (n1 : Nat) (v1_2 : Int32)    (ls : Array Slot), lm_Model_leader_1 N F k1_21 n1 v1_2 = some z → lv_has ls 3 [(2, .int v1_2), (0, .ref o_Model), (1, .int p0)] → W p l e ({ frames := 0, cells := 0, slots := 0, locals := 0 } : Room) s m args below meth c s.heap [] 0 0 Q (F0 m 2 ls []) := by
  intro n1
  induction n1 with
  | zero =>
    intro v1_2 ls h hl
    rw [lm_Model_leader_1] at h
    cases h
  | succ n1 ih1 =>
    intro v1_2 ls h hl
    rw [lm_Model_leader_1] at h
    refine lv_aload_n hx hb d_Model_leader_2 rfl (lv_at hl 1 rfl) ?_
    refine va_get (D := (dC, dI)) (ci := 10) (v := .ref (r 2)) (C := R_Model) (T := F_Model) (N := 54) hx hb hg i_Model hown hK hP 0 rfl rfl 2 (by decide) (hg _ k747) (fun _ h9 => h9) rfl d_Model_leader_3 ?_
    refine lv_iload_n hx hb d_Model_leader_6 rfl (lv_at hl 0 rfl) ?_
    obtain ⟨i1, h⟩ := dz_oi h
    refine va_iald (D := (dC, dI)) (f := F 2) hx hb hK hP 3 1 rfl rfl i1 d_Model_leader_7 ?_
    refine lv_if_lt (tgt := 21) hx hb d_Model_leader_8 (by decide) (fun c2 => ?_) (fun c2 => ?_)
    · rw [if_pos c2] at h
      exact hk1_21 v1_2 _ h (lv_sub hl [0, 1, 2] rfl)
    · rw [if_neg c2] at h
      refine lv_aload_n hx hb d_Model_leader_11 rfl (lv_at hl 1 rfl) ?_
      refine va_get (D := (dC, dI)) (ci := 10) (v := .ref (r 2)) (C := R_Model) (T := F_Model) (N := 54) hx hb hg i_Model hown hK hP 0 rfl rfl 2 (by decide) (hg _ k747) (fun _ h9 => h9) rfl d_Model_leader_12 ?_
      refine lv_iload_n hx hb d_Model_leader_15 rfl (lv_at hl 0 rfl) ?_
      obtain ⟨i3, h⟩ := dz_oi h
      refine va_iald (D := (dC, dI)) (f := F 2) hx hb hK hP 3 1 rfl rfl i3 d_Model_leader_16 ?_
      refine lv_istore_n (lv' := [(2, .int ((F 2) v1_2.toNatClampNeg)), (0, .ref o_Model), (1, .int p0)]) hx hb d_Model_leader_17 rfl hl (by decide) rfl (fun ls hl => ?_)
      refine lv_goto (tgt := 2) hx hb d_Model_leader_18 (by decide) ?_
      exact ih1 ((F 2) v1_2.toNatClampNeg) _ h (lv_sub hl [0, 1, 2] rfl)
set_option maxHeartbeats 4000000 in
set_option maxRecDepth 100000 in
theorem c_Model_leader (l : Launch) (dC : Nat → ClassId) (dI : Nat → Nat → Nat) (N : Nat) (cB : ClassId) (cI : ClassId) (o_Model : Nat) (r : Nat → Nat) (I : Nat → Int32) (F : Nat → Nat → Int32) (p0 : Int32) (z : Int32) (h : m_Model_leader N I F p0 = some z) : Met l y_Model_leader (.code y_Model_leader b_Model_leader 3 (some .int) :: lw_g) ({ frames := 0, cells := 0, slots := 0, locals := 0 }) (va_Pc [.ref o_Model, .int p0] (fun U => dz_N U ∧ va_P (dC, dI) classes (wD cB cI o_Model r I F) U.heap ∧ va_K (dC, dI) classes [(cB, .byte), (cI, .int)] U)) (vp_Si (fun r => r = z)) 0 0 (fun _ => False) := by
  refine Met.ofW (cc := b_Model_leader) (maxL := 3) (ret := (some .int)) (by decide +kernel) rfl ?_
  intro p e s m args below meth c s₁ B hml hv
  obtain ⟨rfl, hN, hP, hK⟩ := hv
  have hx := B.exec
  have hb := B.bytes
  have hr := B.returns
  have hg : ∀ w ∈ lw_g, w.before _ s = true := fun w hw => atoms_spec (ws := .code y_Model_leader b_Model_leader 3 (some .int) :: lw_g) B.pre w (List.mem_cons_of_mem _ hw)
  have hown : s.vm.findClass R_Model = some m.cls := findClass_of_methodNamed B.named
  have hlocks := B.notSynchronized
  clear B
  have hP : va_P (dC, dI) classes (wD cB cI o_Model r I F) s.heap := hP
  have hl := lv_entry ([.ref o_Model, .int p0]) (n := 3) (Nat.le_of_ble_eq_true rfl)
  rw [lg_entry_eq]
  generalize (lg_sl ([.ref o_Model, .int p0]) ++ List.replicate (3 - (lg_sl ([.ref o_Model, .int p0])).length) Slot.unset).toArray = ls at hl ⊢
  have hl : lv_has ls 3 [(0, .ref o_Model), (1, .int p0)] := hl
  unfold m_Model_leader at h
  refine lv_iload_n hx hb d_Model_leader_0 rfl (lv_at hl 1 rfl) ?_
  refine lv_istore_n (lv' := [(2, .int p0), (0, .ref o_Model), (1, .int p0)]) hx hb d_Model_leader_1 rfl hl (by decide) rfl (fun ls hl => ?_)
  refine l_Model_leader_1 dC dI N cB cI o_Model r I F p0 hx hb hml hown hg hN hK hP (fun v1_2 ls h hl => ?_) N p0 _ h (lv_sub hl [0, 1, 2] rfl)
  refine lv_iload_n hx hb d_Model_leader_21 rfl (lv_at hl 0 rfl) ?_
  obtain rfl := Option.some.inj h
  exact W.iret (v := v1_2) hx hb hr (fun t ht hW => ⟨_, rfl, rfl, ht⟩) (fun _ h => by cases h) d_Model_leader_22

set_option maxHeartbeats 4000000 in
set_option maxRecDepth 100000 in
theorem c_Model_compareLater (l : Launch) (dC : Nat → ClassId) (dI : Nat → Nat → Nat) (N : Nat) (cB : ClassId) (cI : ClassId) (o_Model : Nat) (r : Nat → Nat) (I : Nat → Int32) (F : Nat → Nat → Int32) (p0 : Int32) (p1 : Int32) (p2 : Int32) (sz : Nat) (z : (Nat → Nat → Int32) × (Nat → Int32)) (h : m_Model_compareLater N I F p0 p1 p2 = some z) : Met l y_Model_compareLater (.code y_Model_compareLater b_Model_compareLater 4 none :: lw_g) ({ frames := 0, cells := 0, slots := 0, locals := 0 }) (va_Pc [.ref o_Model, .int p0, .int p1, .int p2] (fun U => dz_N U ∧ U.heap.size = sz ∧ va_P (dC, dI) classes (wD cB cI o_Model r I F) U.heap ∧ va_K (dC, dI) classes [(cB, .byte), (cI, .int)] U ∧ va_D (fun _ => True) (wD cB cI o_Model r I F))) (va_Qv (fun (_ : Unit) => True) (fun (u : Unit) t => va_P (dC, dI) classes (wD cB cI o_Model r z.2 z.1) t.heap ∧ va_K (dC, dI) classes [(cB, .byte), (cI, .int)] t ∧ va_D (va_A (wD cB cI o_Model r I F) sz) (wD cB cI o_Model r z.2 z.1)) (va_A (wD cB cI o_Model r I F) sz)) 0 0 (va_A (wD cB cI o_Model r I F) sz) := by
  refine Met.ofW (cc := b_Model_compareLater) (maxL := 4) (ret := none) (by decide +kernel) rfl ?_
  intro p e s m args below meth c s₁ B hml hv
  obtain ⟨rfl, hN, hsz, hP, hK, hD0⟩ := hv
  have hx := B.exec
  have hb := B.bytes
  have hr := B.returns
  have hg : ∀ w ∈ lw_g, w.before _ s = true := fun w hw => atoms_spec (ws := .code y_Model_compareLater b_Model_compareLater 4 none :: lw_g) B.pre w (List.mem_cons_of_mem _ hw)
  have hown : s.vm.findClass R_Model = some m.cls := findClass_of_methodNamed B.named
  have hlocks := B.notSynchronized
  clear B
  subst hsz
  have hD := hD0.self (sz := s.heap.size)
  generalize hAe : va_A (wD cB cI o_Model r I F) s.heap.size = A at hD ⊢
  have hA : ∀ q : Nat, s.heap.size ≤ q → A q := fun q h => by rw [← hAe]; exact Or.inr h
  have hS : va_S A s.heap s.heap [] := va_S.rf
  have hP : va_P (dC, dI) classes (wD cB cI o_Model r I F) s.heap := hP
  have hl := lv_entry ([.ref o_Model, .int p0, .int p1, .int p2]) (n := 4) (Nat.le_of_ble_eq_true rfl)
  rw [lg_entry_eq]
  generalize (lg_sl ([.ref o_Model, .int p0, .int p1, .int p2]) ++ List.replicate (4 - (lg_sl ([.ref o_Model, .int p0, .int p1, .int p2])).length) Slot.unset).toArray = ls at hl ⊢
  have hl : lv_has ls 4 [(0, .ref o_Model), (1, .int p0), (2, .int p1), (3, .int p2)] := hl
  unfold m_Model_compareLater at h
  refine lv_aload_n hx hb d_Model_compareLater_0 rfl (lv_at hl 0 rfl) ?_
  refine va_get (D := (dC, dI)) (ci := 10) (v := .ref (r 46)) (C := R_Model) (T := F_Model) (N := 54) hx hb hg i_Model hown hK hP 0 rfl rfl 46 (by decide) (hg _ k845) (fun _ h9 => h9) rfl d_Model_compareLater_1 ?_
  refine lv_aload_n hx hb d_Model_compareLater_4 rfl (lv_at hl 0 rfl) ?_
  refine va_get (D := (dC, dI)) (ci := 10) (v := .int (I 47)) (C := R_Model) (T := F_Model) (N := 54) hx hb hg i_Model hown hK hP 0 rfl rfl 47 (by decide) (hg _ k846) (fun _ h9 => h9) rfl d_Model_compareLater_5 ?_
  refine lv_iload_n hx hb d_Model_compareLater_8 rfl (lv_at hl 1 rfl) ?_
  obtain ⟨i1, h⟩ := dz_oi h
  refine va_iast (D := (dC, dI)) (f := F 46) hx hb hK hP hD hS 24 1 rfl rfl i1 d_Model_compareLater_9 (fun H locs hP hD hS => ?_)
  obtain ⟨G2, eG2, h⟩ := dz_lt h
  have hP : va_P (dC, dI) classes (wD cB cI o_Model r I G2) H := by rw [eG2]; exact hP
  have hD : va_D A (wD cB cI o_Model r I G2) := by rw [eG2]; exact hD
  refine lv_aload_n hx hb d_Model_compareLater_10 rfl (lv_at hl 0 rfl) ?_
  refine va_get (D := (dC, dI)) (ci := 10) (v := .ref (r 46)) (C := R_Model) (T := F_Model) (N := 54) hx hb hg i_Model hown hK hP 0 rfl rfl 46 (by decide) (hg _ k845) (fun _ h9 => h9) rfl d_Model_compareLater_11 ?_
  refine lv_aload_n hx hb d_Model_compareLater_14 rfl (lv_at hl 0 rfl) ?_
  refine va_get (D := (dC, dI)) (ci := 10) (v := .int (I 47)) (C := R_Model) (T := F_Model) (N := 54) hx hb hg i_Model hown hK hP 0 rfl rfl 47 (by decide) (hg _ k846) (fun _ h9 => h9) rfl d_Model_compareLater_15 ?_
  refine lv_iconst (v := 1) hx hb d_Model_compareLater_18 (by decide) ?_
  refine lv_iadd hx hb d_Model_compareLater_19 ?_
  refine lv_iload_n hx hb d_Model_compareLater_20 rfl (lv_at hl 2 rfl) ?_
  obtain ⟨i3, h⟩ := dz_oi h
  refine va_iast (D := (dC, dI)) (f := G2 46) hx hb hK hP hD hS 24 1 rfl rfl i3 d_Model_compareLater_21 (fun H locs hP hD hS => ?_)
  obtain ⟨G4, eG4, h⟩ := dz_lt h
  have hP : va_P (dC, dI) classes (wD cB cI o_Model r I G4) H := by rw [eG4]; exact hP
  have hD : va_D A (wD cB cI o_Model r I G4) := by rw [eG4]; exact hD
  refine lv_aload_n hx hb d_Model_compareLater_22 rfl (lv_at hl 0 rfl) ?_
  refine va_get (D := (dC, dI)) (ci := 10) (v := .ref (r 46)) (C := R_Model) (T := F_Model) (N := 54) hx hb hg i_Model hown hK hP 0 rfl rfl 46 (by decide) (hg _ k845) (fun _ h9 => h9) rfl d_Model_compareLater_23 ?_
  refine lv_aload_n hx hb d_Model_compareLater_26 rfl (lv_at hl 0 rfl) ?_
  refine va_get (D := (dC, dI)) (ci := 10) (v := .int (I 47)) (C := R_Model) (T := F_Model) (N := 54) hx hb hg i_Model hown hK hP 0 rfl rfl 47 (by decide) (hg _ k846) (fun _ h9 => h9) rfl d_Model_compareLater_27 ?_
  refine lv_iconst (v := 2) hx hb d_Model_compareLater_30 (by decide) ?_
  refine lv_iadd hx hb d_Model_compareLater_31 ?_
  refine lv_iload_n hx hb d_Model_compareLater_32 rfl (lv_at hl 3 rfl) ?_
  obtain ⟨i5, h⟩ := dz_oi h
  refine va_iast (D := (dC, dI)) (f := G4 46) hx hb hK hP hD hS 24 1 rfl rfl i5 d_Model_compareLater_33 (fun H locs hP hD hS => ?_)
  obtain ⟨G6, eG6, h⟩ := dz_lt h
  have hP : va_P (dC, dI) classes (wD cB cI o_Model r I G6) H := by rw [eG6]; exact hP
  have hD : va_D A (wD cB cI o_Model r I G6) := by rw [eG6]; exact hD
  refine lv_aload_n hx hb d_Model_compareLater_34 rfl (lv_at hl 0 rfl) ?_
  refine lv_dup hx hb d_Model_compareLater_35 rfl ?_
  refine va_get (D := (dC, dI)) (ci := 10) (v := .int (I 47)) (C := R_Model) (T := F_Model) (N := 54) hx hb hg i_Model hown hK hP 0 rfl rfl 47 (by decide) (hg _ k846) (fun _ h9 => h9) rfl d_Model_compareLater_36 ?_
  refine lv_iconst (v := 3) hx hb d_Model_compareLater_39 (by decide) ?_
  refine lv_iadd hx hb d_Model_compareLater_40 ?_
  refine va_put (D := (dC, dI)) (ci := 10) (v := .int ((I 47) + 3)) (ty := .int) (C := R_Model) (T := F_Model) (N := 54) hx hb hg i_Model t_Model t_Model_ok n_Model hown hK hP hD hS 0 rfl rfl 47 (by decide) (hg _ k846) (fun _ h9 => h9) rfl (by decide +kernel) rfl rfl (Nat.le_of_ble_eq_true rfl) d_Model_compareLater_41 (fun H locs hP hD hS => ?_)
  obtain ⟨J7, eJ7, h⟩ := dz_lt h
  have hP : va_P (dC, dI) classes (wD cB cI o_Model r J7 G6) H := by rw [eJ7]; exact hP
  have hD : va_D A (wD cB cI o_Model r J7 G6) := by rw [eJ7]; exact hD
  obtain rfl := Option.some.inj h
  have hP9 := hP
  have hD9 := hD
  have hK9 := hK
  exact W.vret hx hb hr (fun t ht hW => ⟨⟨(), rfl, trivial, by rw [ht]; exact hP9, va_K.moved hW.alike hK9, hD9⟩, hS.F ht⟩) hS.2.2 d_Model_compareLater_44

set_option maxHeartbeats 4000000 in
set_option maxRecDepth 100000 in
theorem c_Model_meets (l : Launch) (dC : Nat → ClassId) (dI : Nat → Nat → Nat) (N : Nat) (cB : ClassId) (cI : ClassId) (o_Model : Nat) (r : Nat → Nat) (I : Nat → Int32) (F : Nat → Nat → Int32) (p0 : Int32) (p1 : Int32) (p2 : Int32) (p3 : Int32) (sz : Nat) (z : Int32 × (Nat → Nat → Int32) × (Nat → Int32)) (h : m_Model_meets N I F p0 p1 p2 p3 = some z) : Met l y_Model_meets (.code y_Model_meets b_Model_meets 8 (some .boolean) :: lw_g) ({ frames := 2, cells := 0, slots := 0, locals := 46 }) (va_Pc [.ref o_Model, .int p0, .int p1, .int p2, .int p3] (fun U => dz_N U ∧ U.heap.size = sz ∧ va_P (dC, dI) classes (wD cB cI o_Model r I F) U.heap ∧ va_K (dC, dI) classes [(cB, .byte), (cI, .int)] U ∧ va_D (fun _ => True) (wD cB cI o_Model r I F))) (va_Qi (fun (r : Int32) (_ : Unit) => r = z.1 ∧ narrow .boolean (.int z.1) = .int z.1 ∧ fits .boolean (.int z.1) = true) (fun (u : Unit) t => va_P (dC, dI) classes (wD cB cI o_Model r z.2.2 z.2.1) t.heap ∧ va_K (dC, dI) classes [(cB, .byte), (cI, .int)] t ∧ va_D (va_A (wD cB cI o_Model r I F) sz) (wD cB cI o_Model r z.2.2 z.2.1)) (va_A (wD cB cI o_Model r I F) sz)) 0 0 (va_A (wD cB cI o_Model r I F) sz) := by
  refine Met.ofW (cc := b_Model_meets) (maxL := 8) (ret := (some .boolean)) (by decide +kernel) rfl ?_
  intro p e s m args below meth c s₁ B hml hv
  obtain ⟨rfl, hN, hsz, hP, hK, hD0⟩ := hv
  have hx := B.exec
  have hb := B.bytes
  have hr := B.returns
  have hg : ∀ w ∈ lw_g, w.before _ s = true := fun w hw => atoms_spec (ws := .code y_Model_meets b_Model_meets 8 (some .boolean) :: lw_g) B.pre w (List.mem_cons_of_mem _ hw)
  have hown : s.vm.findClass R_Model = some m.cls := findClass_of_methodNamed B.named
  have hlocks := B.notSynchronized
  clear B
  subst hsz
  have hD := hD0.self (sz := s.heap.size)
  generalize hAe : va_A (wD cB cI o_Model r I F) s.heap.size = A at hD ⊢
  have hA : ∀ q : Nat, s.heap.size ≤ q → A q := fun q h => by rw [← hAe]; exact Or.inr h
  have hS : va_S A s.heap s.heap [] := va_S.rf
  have hP : va_P (dC, dI) classes (wD cB cI o_Model r I F) s.heap := hP
  have hl := lv_entry ([.ref o_Model, .int p0, .int p1, .int p2, .int p3]) (n := 8) (Nat.le_of_ble_eq_true rfl)
  rw [lg_entry_eq]
  generalize (lg_sl ([.ref o_Model, .int p0, .int p1, .int p2, .int p3]) ++ List.replicate (8 - (lg_sl ([.ref o_Model, .int p0, .int p1, .int p2, .int p3])).length) Slot.unset).toArray = ls at hl ⊢
  have hl : lv_has ls 8 [(0, .ref o_Model), (1, .int p0), (2, .int p1), (3, .int p2), (4, .int p3)] := hl
  unfold m_Model_meets at h
  refine lv_iload_n hx hb d_Model_meets_0 rfl (lv_at hl 1 rfl) ?_
  refine lv_iload_n hx hb d_Model_meets_1 rfl (lv_at hl 2 rfl) ?_
  refine lv_iload_n hx hb d_Model_meets_2 rfl (lv_at hl 3 rfl) ?_
  refine lv_iload hx hb d_Model_meets_3 (lv_at hl 4 rfl) ?_
  obtain ⟨z1_1, hc1, h⟩ := dz_ob h
  try dsimp only at h
  have hPc := hP.sub (ws' := []) [] rfl
  have hKc := hK.sub (tys' := []) [] rfl
  refine vp_callSi (va_Run.run (va_runS (As := [.int p0, .int p1, .int p2, .int p3]) (rest := []) ⟨hx, hb, hml, hown, hg⟩ (c_Model_areSame l dC dI N p0 p1 p2 p3 z1_1 hc1) (va_cwS 4 hg (gd_S k839 k840 k707 k838) rfl rfl rfl (by decide +kernel) ⟨Nat.le_of_ble_eq_true rfl, Nat.le_of_ble_eq_true rfl⟩) ⟨dz_blindR, fun U hU hW => ⟨rfl, dz_Nw hW hN, by rw [hU]; exact hPc, va_K.moved hW.alike hKc⟩⟩ rfl rfl hl.1 rfl (lv_room (Nat.le_of_ble_eq_true rfl)) d_Model_meets_5 ⟨Nat.le_of_ble_eq_true rfl, Nat.le_of_ble_eq_true rfl⟩)) (fun r1 hw => ?_)
  obtain ⟨hw, hbz1⟩ := hw
  have hw : z1_1 = r1 := hw.symm
  subst hw
  refine lv_if_eq (tgt := 13) hx hb d_Model_meets_8 (by decide) (fun c2 => ?_) (fun c2 => ?_)
  · rw [if_pos c2] at h
    refine lv_iload_n hx hb d_Model_meets_13 rfl (lv_at hl 1 rfl) ?_
    refine lv_iconst (v := 2) hx hb d_Model_meets_14 (by decide) ?_
    refine lv_icmp_ne (tgt := 37) hx hb d_Model_meets_15 (by decide) (fun c3 => ?_) (fun c3 => ?_)
    · rw [if_neg c3] at h
      refine lv_iconst (v := 0) hx hb d_Model_meets_37 (by decide) ?_
      obtain rfl := Option.some.inj h
      have hP9 := hP
      have hD9 := hD
      have hK9 := hK
      exact W.zret (v := 0) (ty := .boolean) hx hb hr (show narrow .boolean (.int 0) = .int 0 from rfl) (fun t ht hW => ⟨⟨0, (), rfl, ⟨rfl, (show narrow .boolean (.int 0) = .int 0 from rfl), (show fits .boolean (.int 0) = true from rfl)⟩, by rw [ht]; exact hP9, va_K.moved hW.alike hK9, hD9⟩, hS.F ht⟩) hS.2.2 d_Model_meets_38
    · rw [if_pos c3] at h
      refine lv_iload_n hx hb d_Model_meets_18 rfl (lv_at hl 3 rfl) ?_
      refine lv_iconst (v := 2) hx hb d_Model_meets_19 (by decide) ?_
      refine lv_icmp_ne (tgt := 37) hx hb d_Model_meets_20 (by decide) (fun c4 => ?_) (fun c4 => ?_)
      · rw [if_neg c4] at h
        refine lv_iconst (v := 0) hx hb d_Model_meets_37 (by decide) ?_
        obtain rfl := Option.some.inj h
        have hP9 := hP
        have hD9 := hD
        have hK9 := hK
        exact W.zret (v := 0) (ty := .boolean) hx hb hr (show narrow .boolean (.int 0) = .int 0 from rfl) (fun t ht hW => ⟨⟨0, (), rfl, ⟨rfl, (show narrow .boolean (.int 0) = .int 0 from rfl), (show fits .boolean (.int 0) = true from rfl)⟩, by rw [ht]; exact hP9, va_K.moved hW.alike hK9, hD9⟩, hS.F ht⟩) hS.2.2 d_Model_meets_38
      · rw [if_pos c4] at h
        refine lv_aload_n hx hb d_Model_meets_23 rfl (lv_at hl 0 rfl) ?_
        refine lv_iload_n hx hb d_Model_meets_24 rfl (lv_at hl 2 rfl) ?_
        obtain ⟨z5_1, hc5, h⟩ := dz_ob h
        try dsimp only at h
        have hPc := hP
        have hKc := hK
        refine vp_callSi (va_Run.run (va_runV (As := [.int p1]) (rest := []) ⟨hx, hb, hml, hown, hg⟩ (c_Model_kindAt l dC dI N cB cI o_Model r I F p1 z5_1 hc5) (cwV 1 hg (gd_V k739 k740 k741 k707 k738) rfl rfl rfl (by decide +kernel) ⟨Nat.le_of_ble_eq_true rfl, Nat.le_of_ble_eq_true rfl⟩) ⟨dz_blindR, va_recv hKc hPc (ci := 10) (q0 := 0) rfl rfl, fun U hU hW => ⟨rfl, dz_Nw hW hN, by rw [hU]; exact hPc, va_K.moved hW.alike hKc⟩⟩ rfl rfl hl.1 rfl (lv_room (Nat.le_of_ble_eq_true rfl)) d_Model_meets_25 ⟨Nat.le_of_ble_eq_true rfl, Nat.le_of_ble_eq_true rfl⟩)) (fun r5 hw => ?_)
        have hw : z5_1 = r5 := hw.symm
        subst hw
        refine lv_aload_n hx hb d_Model_meets_28 rfl (lv_at hl 0 rfl) ?_
        refine lv_iload hx hb d_Model_meets_29 (lv_at hl 4 rfl) ?_
        obtain ⟨z6_1, hc6, h⟩ := dz_ob h
        try dsimp only at h
        have hPc := hP
        have hKc := hK
        refine vp_callSi (va_Run.run (va_runV (As := [.int p3]) (rest := [.int z5_1]) ⟨hx, hb, hml, hown, hg⟩ (c_Model_kindAt l dC dI N cB cI o_Model r I F p3 z6_1 hc6) (cwV 1 hg (gd_V k739 k740 k741 k707 k738) rfl rfl rfl (by decide +kernel) ⟨Nat.le_of_ble_eq_true rfl, Nat.le_of_ble_eq_true rfl⟩) ⟨dz_blindR, va_recv hKc hPc (ci := 10) (q0 := 0) rfl rfl, fun U hU hW => ⟨rfl, dz_Nw hW hN, by rw [hU]; exact hPc, va_K.moved hW.alike hKc⟩⟩ rfl rfl hl.1 rfl (lv_room (Nat.le_of_ble_eq_true rfl)) d_Model_meets_31 ⟨Nat.le_of_ble_eq_true rfl, Nat.le_of_ble_eq_true rfl⟩)) (fun r6 hw => ?_)
        have hw : z6_1 = r6 := hw.symm
        subst hw
        refine lv_icmp_eq (tgt := 39) hx hb d_Model_meets_34 (by decide) (fun c7 => ?_) (fun c7 => ?_)
        · rw [if_pos c7] at h
          refine lv_aload_n hx hb d_Model_meets_39 rfl (lv_at hl 0 rfl) ?_
          refine lv_iload_n hx hb d_Model_meets_40 rfl (lv_at hl 2 rfl) ?_
          obtain ⟨z8_1, hc8, h⟩ := dz_ob h
          try dsimp only at h
          have hPc := hP
          have hKc := hK
          refine vp_callSi (va_Run.run (va_runV (As := [.int p1]) (rest := []) ⟨hx, hb, hml, hown, hg⟩ (c_Model_kindAt l dC dI N cB cI o_Model r I F p1 z8_1 hc8) (cwV 1 hg (gd_V k739 k740 k741 k707 k738) rfl rfl rfl (by decide +kernel) ⟨Nat.le_of_ble_eq_true rfl, Nat.le_of_ble_eq_true rfl⟩) ⟨dz_blindR, va_recv hKc hPc (ci := 10) (q0 := 0) rfl rfl, fun U hU hW => ⟨rfl, dz_Nw hW hN, by rw [hU]; exact hPc, va_K.moved hW.alike hKc⟩⟩ rfl rfl hl.1 rfl (lv_room (Nat.le_of_ble_eq_true rfl)) d_Model_meets_41 ⟨Nat.le_of_ble_eq_true rfl, Nat.le_of_ble_eq_true rfl⟩)) (fun r8 hw => ?_)
          have hw : z8_1 = r8 := hw.symm
          subst hw
          refine lv_istore (lv' := [(5, .int z8_1), (0, .ref o_Model), (1, .int p0), (2, .int p1), (3, .int p2), (4, .int p3)]) hx hb d_Model_meets_44 hl (by decide) rfl (fun ls hl => ?_)
          refine lv_iload hx hb d_Model_meets_46 (lv_at hl 0 rfl) ?_
          refine lv_bipush (v := 6) hx hb d_Model_meets_48 (by decide) ?_
          refine lv_icmp_ne (tgt := 69) hx hb d_Model_meets_50 (by decide) (fun c9 => ?_) (fun c9 => ?_)
          · rw [if_neg c9] at h
            refine lv_iload hx hb d_Model_meets_69 (lv_at hl 0 rfl) ?_
            refine lv_iconst (v := 2) hx hb d_Model_meets_71 (by decide) ?_
            refine lv_icmp_eq (tgt := 81) hx hb d_Model_meets_72 (by decide) (fun c10 => ?_) (fun c10 => ?_)
            · rw [if_pos c10] at h
              refine lv_aload_n hx hb d_Model_meets_81 rfl (lv_at hl 1 rfl) ?_
              refine va_get (D := (dC, dI)) (ci := 10) (v := .ref (r 0)) (C := R_Model) (T := F_Model) (N := 54) hx hb hg i_Model hown hK hP 0 rfl rfl 0 (by decide) (hg _ k737) (fun _ h9 => h9) rfl d_Model_meets_82 ?_
              refine lv_iload_n hx hb d_Model_meets_85 rfl (lv_at hl 3 rfl) ?_
              obtain ⟨i11, h⟩ := dz_oi h
              refine va_iald (D := (dC, dI)) (f := F 0) hx hb hK hP 1 1 rfl rfl i11 d_Model_meets_86 ?_
              refine lv_aload_n hx hb d_Model_meets_87 rfl (lv_at hl 1 rfl) ?_
              refine va_get (D := (dC, dI)) (ci := 10) (v := .ref (r 0)) (C := R_Model) (T := F_Model) (N := 54) hx hb hg i_Model hown hK hP 0 rfl rfl 0 (by decide) (hg _ k737) (fun _ h9 => h9) rfl d_Model_meets_88 ?_
              refine lv_iload hx hb d_Model_meets_91 (lv_at hl 5 rfl) ?_
              obtain ⟨i12, h⟩ := dz_oi h
              refine va_iald (D := (dC, dI)) (f := F 0) hx hb hK hP 1 1 rfl rfl i12 d_Model_meets_93 ?_
              refine lv_icmp_ne (tgt := 119) hx hb d_Model_meets_94 (by decide) (fun c13 => ?_) (fun c13 => ?_)
              · rw [if_neg c13] at h
                refine lv_iconst (v := 0) hx hb d_Model_meets_119 (by decide) ?_
                obtain rfl := Option.some.inj h
                have hP9 := hP
                have hD9 := hD
                have hK9 := hK
                exact W.zret (v := 0) (ty := .boolean) hx hb hr (show narrow .boolean (.int 0) = .int 0 from rfl) (fun t ht hW => ⟨⟨0, (), rfl, ⟨rfl, (show narrow .boolean (.int 0) = .int 0 from rfl), (show fits .boolean (.int 0) = true from rfl)⟩, by rw [ht]; exact hP9, va_K.moved hW.alike hK9, hD9⟩, hS.F ht⟩) hS.2.2 d_Model_meets_120
              · rw [if_pos c13] at h
                refine lv_iload hx hb d_Model_meets_97 (lv_at hl 0 rfl) ?_
                refine lv_iconst (v := 3) hx hb d_Model_meets_99 (by decide) ?_
                refine lv_icmp_ne (tgt := 121) hx hb d_Model_meets_100 (by decide) (fun c14 => ?_) (fun c14 => ?_)
                · rw [if_neg c14] at h
                  refine lv_aload_n hx hb d_Model_meets_121 rfl (lv_at hl 1 rfl) ?_
                  refine lv_iload_n hx hb d_Model_meets_122 rfl (lv_at hl 3 rfl) ?_
                  obtain ⟨z15_1, hc15, h⟩ := dz_ob h
                  try dsimp only at h
                  have hPc := hP
                  have hKc := hK
                  refine vp_callSi (va_Run.run (va_runV (As := [.int p1]) (rest := []) ⟨hx, hb, hml, hown, hg⟩ (c_Model_leader l dC dI N cB cI o_Model r I F p1 z15_1 hc15) (cwV 1 hg (gd_V k850 k851 k852 k707 k849) rfl rfl rfl (by decide +kernel) ⟨Nat.le_of_ble_eq_true rfl, Nat.le_of_ble_eq_true rfl⟩) ⟨dz_blindR, va_recv hKc hPc (ci := 10) (q0 := 0) rfl rfl, fun U hU hW => ⟨rfl, dz_Nw hW hN, by rw [hU]; exact hPc, va_K.moved hW.alike hKc⟩⟩ rfl rfl hl.1 rfl (lv_room (Nat.le_of_ble_eq_true rfl)) d_Model_meets_123 ⟨Nat.le_of_ble_eq_true rfl, Nat.le_of_ble_eq_true rfl⟩)) (fun r15 hw => ?_)
                  have hw : z15_1 = r15 := hw.symm
                  subst hw
                  refine lv_istore (lv' := [(6, .int z15_1), (5, .int z8_1), (0, .ref o_Model), (1, .int p0), (2, .int p1), (3, .int p2), (4, .int p3)]) hx hb d_Model_meets_126 hl (by decide) rfl (fun ls hl => ?_)
                  refine lv_aload_n hx hb d_Model_meets_128 rfl (lv_at hl 2 rfl) ?_
                  refine lv_iload hx hb d_Model_meets_129 (lv_at hl 6 rfl) ?_
                  obtain ⟨z16_1, hc16, h⟩ := dz_ob h
                  try dsimp only at h
                  have hPc := hP
                  have hKc := hK
                  refine vp_callSi (va_Run.run (va_runV (As := [.int p3]) (rest := []) ⟨hx, hb, hml, hown, hg⟩ (c_Model_leader l dC dI N cB cI o_Model r I F p3 z16_1 hc16) (cwV 1 hg (gd_V k850 k851 k852 k707 k849) rfl rfl rfl (by decide +kernel) ⟨Nat.le_of_ble_eq_true rfl, Nat.le_of_ble_eq_true rfl⟩) ⟨dz_blindR, va_recv hKc hPc (ci := 10) (q0 := 0) rfl rfl, fun U hU hW => ⟨rfl, dz_Nw hW hN, by rw [hU]; exact hPc, va_K.moved hW.alike hKc⟩⟩ rfl rfl hl.1 rfl (lv_room (Nat.le_of_ble_eq_true rfl)) d_Model_meets_131 ⟨Nat.le_of_ble_eq_true rfl, Nat.le_of_ble_eq_true rfl⟩)) (fun r16 hw => ?_)
                  have hw : z16_1 = r16 := hw.symm
                  subst hw
                  refine lv_istore (lv' := [(7, .int z16_1), (6, .int z15_1), (5, .int z8_1), (0, .ref o_Model), (1, .int p0), (2, .int p1), (3, .int p2), (4, .int p3)]) hx hb d_Model_meets_134 hl (by decide) rfl (fun ls hl => ?_)
                  refine lv_iload hx hb d_Model_meets_136 (lv_at hl 1 rfl) ?_
                  refine lv_iload hx hb d_Model_meets_138 (lv_at hl 0 rfl) ?_
                  refine lv_icmp_eq (tgt := 181) hx hb d_Model_meets_140 (by decide) (fun c17 => ?_) (fun c17 => ?_)
                  · rw [if_pos c17] at h
                    refine lv_iconst (v := 1) hx hb d_Model_meets_181 (by decide) ?_
                    obtain rfl := Option.some.inj h
                    have hP9 := hP
                    have hD9 := hD
                    have hK9 := hK
                    exact W.zret (v := 1) (ty := .boolean) hx hb hr (show narrow .boolean (.int 1) = .int 1 from rfl) (fun t ht hW => ⟨⟨1, (), rfl, ⟨rfl, (show narrow .boolean (.int 1) = .int 1 from rfl), (show fits .boolean (.int 1) = true from rfl)⟩, by rw [ht]; exact hP9, va_K.moved hW.alike hK9, hD9⟩, hS.F ht⟩) hS.2.2 d_Model_meets_182
                  · rw [if_neg c17] at h
                    refine lv_aload_n hx hb d_Model_meets_143 rfl (lv_at hl 3 rfl) ?_
                    refine va_get (D := (dC, dI)) (ci := 10) (v := .ref (r 2)) (C := R_Model) (T := F_Model) (N := 54) hx hb hg i_Model hown hK hP 0 rfl rfl 2 (by decide) (hg _ k747) (fun _ h9 => h9) rfl d_Model_meets_144 ?_
                    refine lv_iload hx hb d_Model_meets_147 (lv_at hl 1 rfl) ?_
                    refine lv_iload hx hb d_Model_meets_149 (lv_at hl 0 rfl) ?_
                    obtain ⟨i18, h⟩ := dz_oi h
                    refine va_iast (D := (dC, dI)) (f := F 2) hx hb hK hP hD hS 3 1 rfl rfl i18 d_Model_meets_151 (fun H locs hP hD hS => ?_)
                    obtain ⟨G19, eG19, h⟩ := dz_lt h
                    have hP : va_P (dC, dI) classes (wD cB cI o_Model r I G19) H := by rw [eG19]; exact hP
                    have hD : va_D A (wD cB cI o_Model r I G19) := by rw [eG19]; exact hD
                    refine lv_aload_n hx hb d_Model_meets_152 rfl (lv_at hl 3 rfl) ?_
                    refine va_get (D := (dC, dI)) (ci := 10) (v := .ref (r 48)) (C := R_Model) (T := F_Model) (N := 54) hx hb hg i_Model hown hK hP 0 rfl rfl 48 (by decide) (hg _ k847) (fun _ h9 => h9) rfl d_Model_meets_153 ?_
                    refine lv_aload_n hx hb d_Model_meets_156 rfl (lv_at hl 3 rfl) ?_
                    refine va_get (D := (dC, dI)) (ci := 10) (v := .int (I 49)) (C := R_Model) (T := F_Model) (N := 54) hx hb hg i_Model hown hK hP 0 rfl rfl 49 (by decide) (hg _ k848) (fun _ h9 => h9) rfl d_Model_meets_157 ?_
                    refine lv_iload hx hb d_Model_meets_160 (lv_at hl 1 rfl) ?_
                    obtain ⟨i20, h⟩ := dz_oi h
                    refine va_iast (D := (dC, dI)) (f := G19 48) hx hb hK hP hD hS 25 1 rfl rfl i20 d_Model_meets_162 (fun H locs hP hD hS => ?_)
                    obtain ⟨G21, eG21, h⟩ := dz_lt h
                    have hP : va_P (dC, dI) classes (wD cB cI o_Model r I G21) H := by rw [eG21]; exact hP
                    have hD : va_D A (wD cB cI o_Model r I G21) := by rw [eG21]; exact hD
                    refine lv_aload_n hx hb d_Model_meets_163 rfl (lv_at hl 3 rfl) ?_
                    refine lv_dup hx hb d_Model_meets_164 rfl ?_
                    refine va_get (D := (dC, dI)) (ci := 10) (v := .int (I 49)) (C := R_Model) (T := F_Model) (N := 54) hx hb hg i_Model hown hK hP 0 rfl rfl 49 (by decide) (hg _ k848) (fun _ h9 => h9) rfl d_Model_meets_165 ?_
                    refine lv_iconst (v := 1) hx hb d_Model_meets_168 (by decide) ?_
                    refine lv_iadd hx hb d_Model_meets_169 ?_
                    refine va_put (D := (dC, dI)) (ci := 10) (v := .int ((I 49) + 1)) (ty := .int) (C := R_Model) (T := F_Model) (N := 54) hx hb hg i_Model t_Model t_Model_ok n_Model hown hK hP hD hS 0 rfl rfl 49 (by decide) (hg _ k848) (fun _ h9 => h9) rfl (by decide +kernel) rfl rfl (Nat.le_of_ble_eq_true rfl) d_Model_meets_170 (fun H locs hP hD hS => ?_)
                    obtain ⟨J22, eJ22, h⟩ := dz_lt h
                    have hP : va_P (dC, dI) classes (wD cB cI o_Model r J22 G21) H := by rw [eJ22]; exact hP
                    have hD : va_D A (wD cB cI o_Model r J22 G21) := by rw [eJ22]; exact hD
                    refine lv_aload_n hx hb d_Model_meets_173 rfl (lv_at hl 3 rfl) ?_
                    refine lv_iload_n hx hb d_Model_meets_174 rfl (lv_at hl 5 rfl) ?_
                    refine lv_iload hx hb d_Model_meets_175 (lv_at hl 7 rfl) ?_
                    refine lv_iconst (v := 1) hx hb d_Model_meets_177 (by decide) ?_
                    obtain ⟨⟨z23_1, z23_2⟩, hc23, h⟩ := dz_ob h
                    try dsimp only at h
                    have hPc := hP
                    have hKc := hK
                    have hDc := hD
                    have hFc := dz_freeall hD hS hA
                    refine va_callv (va_runV (As := [.int p1, .int p3, .int 1]) (rest := []) ⟨hx, hb, hml, hown, hg⟩ (c_Model_compareLater l dC dI N cB cI o_Model r J22 G21 p1 p3 (1 : Int32) H.size (z23_1, z23_2) hc23) (cwV 3 hg (gd_V k854 k855 k856 k707 k853) rfl rfl rfl (by decide +kernel) ⟨Nat.le_of_ble_eq_true rfl, Nat.le_of_ble_eq_true rfl⟩) ⟨dz_blind, va_recv hKc hPc (ci := 10) (q0 := 0) rfl rfl, fun U hU hW => ⟨rfl, dz_Nw hW hN, by rw [hU], by rw [hU]; exact hPc, va_K.moved hW.alike hKc, hDc.weaken (fun _ _ _ _ => trivial)⟩⟩ rfl rfl hl.1 rfl (lv_room (Nat.le_of_ble_eq_true rfl)) d_Model_meets_178 ⟨Nat.le_of_ble_eq_true rfl, Nat.le_of_ble_eq_true rfl⟩) hS (fun q _ h => hFc q h) hFc (fun u23 t23 H1 locs ht hvm hw hB hz1 hk1 hS => ?_)
                    obtain ⟨hP1, hK1, hD1⟩ := hB
                    rw [ht] at hP1
                    have hP := hP1
                    have hD := hD1.weaken (fun _ q _ h => hFc q.1 h)
                    generalize H1 = H at hP hS ⊢
                    have hP : va_P (dC, dI) classes (wD cB cI o_Model r z23_2 z23_1) H := hP
                    have hD : va_D A (wD cB cI o_Model r z23_2 z23_1) := hD
                    refine lv_iconst (v := 1) hx hb d_Model_meets_181 (by decide) ?_
                    obtain rfl := Option.some.inj h
                    have hP9 := hP
                    have hD9 := hD
                    have hK9 := hK
                    exact W.zret (v := 1) (ty := .boolean) hx hb hr (show narrow .boolean (.int 1) = .int 1 from rfl) (fun t ht hW => ⟨⟨1, (), rfl, ⟨rfl, (show narrow .boolean (.int 1) = .int 1 from rfl), (show fits .boolean (.int 1) = true from rfl)⟩, by rw [ht]; exact hP9, va_K.moved hW.alike hK9, hD9⟩, hS.F ht⟩) hS.2.2 d_Model_meets_182
                · rw [if_pos c14] at h
                  refine lv_aload_n hx hb d_Model_meets_103 rfl (lv_at hl 1 rfl) ?_
                  refine va_get (D := (dC, dI)) (ci := 10) (v := .ref (r 1)) (C := R_Model) (T := F_Model) (N := 54) hx hb hg i_Model hown hK hP 0 rfl rfl 1 (by decide) (hg _ k742) (fun _ h9 => h9) rfl d_Model_meets_104 ?_
                  refine lv_iload_n hx hb d_Model_meets_107 rfl (lv_at hl 3 rfl) ?_
                  obtain ⟨i24, h⟩ := dz_oi h
                  refine va_iald (D := (dC, dI)) (f := F 1) hx hb hK hP 2 1 rfl rfl i24 d_Model_meets_108 ?_
                  refine lv_aload_n hx hb d_Model_meets_109 rfl (lv_at hl 1 rfl) ?_
                  refine va_get (D := (dC, dI)) (ci := 10) (v := .ref (r 1)) (C := R_Model) (T := F_Model) (N := 54) hx hb hg i_Model hown hK hP 0 rfl rfl 1 (by decide) (hg _ k742) (fun _ h9 => h9) rfl d_Model_meets_110 ?_
                  refine lv_iload hx hb d_Model_meets_113 (lv_at hl 5 rfl) ?_
                  obtain ⟨i25, h⟩ := dz_oi h
                  refine va_iald (D := (dC, dI)) (f := F 1) hx hb hK hP 2 1 rfl rfl i25 d_Model_meets_115 ?_
                  refine lv_icmp_eq (tgt := 121) hx hb d_Model_meets_116 (by decide) (fun c26 => ?_) (fun c26 => ?_)
                  · rw [if_pos c26] at h
                    refine lv_aload_n hx hb d_Model_meets_121 rfl (lv_at hl 1 rfl) ?_
                    refine lv_iload_n hx hb d_Model_meets_122 rfl (lv_at hl 3 rfl) ?_
                    obtain ⟨z27_1, hc27, h⟩ := dz_ob h
                    try dsimp only at h
                    have hPc := hP
                    have hKc := hK
                    refine vp_callSi (va_Run.run (va_runV (As := [.int p1]) (rest := []) ⟨hx, hb, hml, hown, hg⟩ (c_Model_leader l dC dI N cB cI o_Model r I F p1 z27_1 hc27) (cwV 1 hg (gd_V k850 k851 k852 k707 k849) rfl rfl rfl (by decide +kernel) ⟨Nat.le_of_ble_eq_true rfl, Nat.le_of_ble_eq_true rfl⟩) ⟨dz_blindR, va_recv hKc hPc (ci := 10) (q0 := 0) rfl rfl, fun U hU hW => ⟨rfl, dz_Nw hW hN, by rw [hU]; exact hPc, va_K.moved hW.alike hKc⟩⟩ rfl rfl hl.1 rfl (lv_room (Nat.le_of_ble_eq_true rfl)) d_Model_meets_123 ⟨Nat.le_of_ble_eq_true rfl, Nat.le_of_ble_eq_true rfl⟩)) (fun r27 hw => ?_)
                    have hw : z27_1 = r27 := hw.symm
                    subst hw
                    refine lv_istore (lv' := [(6, .int z27_1), (5, .int z8_1), (0, .ref o_Model), (1, .int p0), (2, .int p1), (3, .int p2), (4, .int p3)]) hx hb d_Model_meets_126 hl (by decide) rfl (fun ls hl => ?_)
                    refine lv_aload_n hx hb d_Model_meets_128 rfl (lv_at hl 2 rfl) ?_
                    refine lv_iload hx hb d_Model_meets_129 (lv_at hl 6 rfl) ?_
                    obtain ⟨z28_1, hc28, h⟩ := dz_ob h
                    try dsimp only at h
                    have hPc := hP
                    have hKc := hK
                    refine vp_callSi (va_Run.run (va_runV (As := [.int p3]) (rest := []) ⟨hx, hb, hml, hown, hg⟩ (c_Model_leader l dC dI N cB cI o_Model r I F p3 z28_1 hc28) (cwV 1 hg (gd_V k850 k851 k852 k707 k849) rfl rfl rfl (by decide +kernel) ⟨Nat.le_of_ble_eq_true rfl, Nat.le_of_ble_eq_true rfl⟩) ⟨dz_blindR, va_recv hKc hPc (ci := 10) (q0 := 0) rfl rfl, fun U hU hW => ⟨rfl, dz_Nw hW hN, by rw [hU]; exact hPc, va_K.moved hW.alike hKc⟩⟩ rfl rfl hl.1 rfl (lv_room (Nat.le_of_ble_eq_true rfl)) d_Model_meets_131 ⟨Nat.le_of_ble_eq_true rfl, Nat.le_of_ble_eq_true rfl⟩)) (fun r28 hw => ?_)
                    have hw : z28_1 = r28 := hw.symm
                    subst hw
                    refine lv_istore (lv' := [(7, .int z28_1), (6, .int z27_1), (5, .int z8_1), (0, .ref o_Model), (1, .int p0), (2, .int p1), (3, .int p2), (4, .int p3)]) hx hb d_Model_meets_134 hl (by decide) rfl (fun ls hl => ?_)
                    refine lv_iload hx hb d_Model_meets_136 (lv_at hl 1 rfl) ?_
                    refine lv_iload hx hb d_Model_meets_138 (lv_at hl 0 rfl) ?_
                    refine lv_icmp_eq (tgt := 181) hx hb d_Model_meets_140 (by decide) (fun c29 => ?_) (fun c29 => ?_)
                    · rw [if_pos c29] at h
                      refine lv_iconst (v := 1) hx hb d_Model_meets_181 (by decide) ?_
                      obtain rfl := Option.some.inj h
                      have hP9 := hP
                      have hD9 := hD
                      have hK9 := hK
                      exact W.zret (v := 1) (ty := .boolean) hx hb hr (show narrow .boolean (.int 1) = .int 1 from rfl) (fun t ht hW => ⟨⟨1, (), rfl, ⟨rfl, (show narrow .boolean (.int 1) = .int 1 from rfl), (show fits .boolean (.int 1) = true from rfl)⟩, by rw [ht]; exact hP9, va_K.moved hW.alike hK9, hD9⟩, hS.F ht⟩) hS.2.2 d_Model_meets_182
                    · rw [if_neg c29] at h
                      refine lv_aload_n hx hb d_Model_meets_143 rfl (lv_at hl 3 rfl) ?_
                      refine va_get (D := (dC, dI)) (ci := 10) (v := .ref (r 2)) (C := R_Model) (T := F_Model) (N := 54) hx hb hg i_Model hown hK hP 0 rfl rfl 2 (by decide) (hg _ k747) (fun _ h9 => h9) rfl d_Model_meets_144 ?_
                      refine lv_iload hx hb d_Model_meets_147 (lv_at hl 1 rfl) ?_
                      refine lv_iload hx hb d_Model_meets_149 (lv_at hl 0 rfl) ?_
                      obtain ⟨i30, h⟩ := dz_oi h
                      refine va_iast (D := (dC, dI)) (f := F 2) hx hb hK hP hD hS 3 1 rfl rfl i30 d_Model_meets_151 (fun H locs hP hD hS => ?_)
                      obtain ⟨G31, eG31, h⟩ := dz_lt h
                      have hP : va_P (dC, dI) classes (wD cB cI o_Model r I G31) H := by rw [eG31]; exact hP
                      have hD : va_D A (wD cB cI o_Model r I G31) := by rw [eG31]; exact hD
                      refine lv_aload_n hx hb d_Model_meets_152 rfl (lv_at hl 3 rfl) ?_
                      refine va_get (D := (dC, dI)) (ci := 10) (v := .ref (r 48)) (C := R_Model) (T := F_Model) (N := 54) hx hb hg i_Model hown hK hP 0 rfl rfl 48 (by decide) (hg _ k847) (fun _ h9 => h9) rfl d_Model_meets_153 ?_
                      refine lv_aload_n hx hb d_Model_meets_156 rfl (lv_at hl 3 rfl) ?_
                      refine va_get (D := (dC, dI)) (ci := 10) (v := .int (I 49)) (C := R_Model) (T := F_Model) (N := 54) hx hb hg i_Model hown hK hP 0 rfl rfl 49 (by decide) (hg _ k848) (fun _ h9 => h9) rfl d_Model_meets_157 ?_
                      refine lv_iload hx hb d_Model_meets_160 (lv_at hl 1 rfl) ?_
                      obtain ⟨i32, h⟩ := dz_oi h
                      refine va_iast (D := (dC, dI)) (f := G31 48) hx hb hK hP hD hS 25 1 rfl rfl i32 d_Model_meets_162 (fun H locs hP hD hS => ?_)
                      obtain ⟨G33, eG33, h⟩ := dz_lt h
                      have hP : va_P (dC, dI) classes (wD cB cI o_Model r I G33) H := by rw [eG33]; exact hP
                      have hD : va_D A (wD cB cI o_Model r I G33) := by rw [eG33]; exact hD
                      refine lv_aload_n hx hb d_Model_meets_163 rfl (lv_at hl 3 rfl) ?_
                      refine lv_dup hx hb d_Model_meets_164 rfl ?_
                      refine va_get (D := (dC, dI)) (ci := 10) (v := .int (I 49)) (C := R_Model) (T := F_Model) (N := 54) hx hb hg i_Model hown hK hP 0 rfl rfl 49 (by decide) (hg _ k848) (fun _ h9 => h9) rfl d_Model_meets_165 ?_
                      refine lv_iconst (v := 1) hx hb d_Model_meets_168 (by decide) ?_
                      refine lv_iadd hx hb d_Model_meets_169 ?_
                      refine va_put (D := (dC, dI)) (ci := 10) (v := .int ((I 49) + 1)) (ty := .int) (C := R_Model) (T := F_Model) (N := 54) hx hb hg i_Model t_Model t_Model_ok n_Model hown hK hP hD hS 0 rfl rfl 49 (by decide) (hg _ k848) (fun _ h9 => h9) rfl (by decide +kernel) rfl rfl (Nat.le_of_ble_eq_true rfl) d_Model_meets_170 (fun H locs hP hD hS => ?_)
                      obtain ⟨J34, eJ34, h⟩ := dz_lt h
                      have hP : va_P (dC, dI) classes (wD cB cI o_Model r J34 G33) H := by rw [eJ34]; exact hP
                      have hD : va_D A (wD cB cI o_Model r J34 G33) := by rw [eJ34]; exact hD
                      refine lv_aload_n hx hb d_Model_meets_173 rfl (lv_at hl 3 rfl) ?_
                      refine lv_iload_n hx hb d_Model_meets_174 rfl (lv_at hl 5 rfl) ?_
                      refine lv_iload hx hb d_Model_meets_175 (lv_at hl 7 rfl) ?_
                      refine lv_iconst (v := 1) hx hb d_Model_meets_177 (by decide) ?_
                      obtain ⟨⟨z35_1, z35_2⟩, hc35, h⟩ := dz_ob h
                      try dsimp only at h
                      have hPc := hP
                      have hKc := hK
                      have hDc := hD
                      have hFc := dz_freeall hD hS hA
                      refine va_callv (va_runV (As := [.int p1, .int p3, .int 1]) (rest := []) ⟨hx, hb, hml, hown, hg⟩ (c_Model_compareLater l dC dI N cB cI o_Model r J34 G33 p1 p3 (1 : Int32) H.size (z35_1, z35_2) hc35) (cwV 3 hg (gd_V k854 k855 k856 k707 k853) rfl rfl rfl (by decide +kernel) ⟨Nat.le_of_ble_eq_true rfl, Nat.le_of_ble_eq_true rfl⟩) ⟨dz_blind, va_recv hKc hPc (ci := 10) (q0 := 0) rfl rfl, fun U hU hW => ⟨rfl, dz_Nw hW hN, by rw [hU], by rw [hU]; exact hPc, va_K.moved hW.alike hKc, hDc.weaken (fun _ _ _ _ => trivial)⟩⟩ rfl rfl hl.1 rfl (lv_room (Nat.le_of_ble_eq_true rfl)) d_Model_meets_178 ⟨Nat.le_of_ble_eq_true rfl, Nat.le_of_ble_eq_true rfl⟩) hS (fun q _ h => hFc q h) hFc (fun u35 t35 H1 locs ht hvm hw hB hz1 hk1 hS => ?_)
                      obtain ⟨hP1, hK1, hD1⟩ := hB
                      rw [ht] at hP1
                      have hP := hP1
                      have hD := hD1.weaken (fun _ q _ h => hFc q.1 h)
                      generalize H1 = H at hP hS ⊢
                      have hP : va_P (dC, dI) classes (wD cB cI o_Model r z35_2 z35_1) H := hP
                      have hD : va_D A (wD cB cI o_Model r z35_2 z35_1) := hD
                      refine lv_iconst (v := 1) hx hb d_Model_meets_181 (by decide) ?_
                      obtain rfl := Option.some.inj h
                      have hP9 := hP
                      have hD9 := hD
                      have hK9 := hK
                      exact W.zret (v := 1) (ty := .boolean) hx hb hr (show narrow .boolean (.int 1) = .int 1 from rfl) (fun t ht hW => ⟨⟨1, (), rfl, ⟨rfl, (show narrow .boolean (.int 1) = .int 1 from rfl), (show fits .boolean (.int 1) = true from rfl)⟩, by rw [ht]; exact hP9, va_K.moved hW.alike hK9, hD9⟩, hS.F ht⟩) hS.2.2 d_Model_meets_182
                  · rw [if_neg c26] at h
                    refine lv_iconst (v := 0) hx hb d_Model_meets_119 (by decide) ?_
                    obtain rfl := Option.some.inj h
                    have hP9 := hP
                    have hD9 := hD
                    have hK9 := hK
                    exact W.zret (v := 0) (ty := .boolean) hx hb hr (show narrow .boolean (.int 0) = .int 0 from rfl) (fun t ht hW => ⟨⟨0, (), rfl, ⟨rfl, (show narrow .boolean (.int 0) = .int 0 from rfl), (show fits .boolean (.int 0) = true from rfl)⟩, by rw [ht]; exact hP9, va_K.moved hW.alike hK9, hD9⟩, hS.F ht⟩) hS.2.2 d_Model_meets_120
            · rw [if_neg c10] at h
              refine lv_iload hx hb d_Model_meets_75 (lv_at hl 0 rfl) ?_
              refine lv_iconst (v := 3) hx hb d_Model_meets_77 (by decide) ?_
              refine lv_icmp_ne (tgt := 119) hx hb d_Model_meets_78 (by decide) (fun c36 => ?_) (fun c36 => ?_)
              · rw [if_neg c36] at h
                refine lv_iconst (v := 0) hx hb d_Model_meets_119 (by decide) ?_
                obtain rfl := Option.some.inj h
                have hP9 := hP
                have hD9 := hD
                have hK9 := hK
                exact W.zret (v := 0) (ty := .boolean) hx hb hr (show narrow .boolean (.int 0) = .int 0 from rfl) (fun t ht hW => ⟨⟨0, (), rfl, ⟨rfl, (show narrow .boolean (.int 0) = .int 0 from rfl), (show fits .boolean (.int 0) = true from rfl)⟩, by rw [ht]; exact hP9, va_K.moved hW.alike hK9, hD9⟩, hS.F ht⟩) hS.2.2 d_Model_meets_120
              · rw [if_pos c36] at h
                refine lv_aload_n hx hb d_Model_meets_81 rfl (lv_at hl 1 rfl) ?_
                refine va_get (D := (dC, dI)) (ci := 10) (v := .ref (r 0)) (C := R_Model) (T := F_Model) (N := 54) hx hb hg i_Model hown hK hP 0 rfl rfl 0 (by decide) (hg _ k737) (fun _ h9 => h9) rfl d_Model_meets_82 ?_
                refine lv_iload_n hx hb d_Model_meets_85 rfl (lv_at hl 3 rfl) ?_
                obtain ⟨i37, h⟩ := dz_oi h
                refine va_iald (D := (dC, dI)) (f := F 0) hx hb hK hP 1 1 rfl rfl i37 d_Model_meets_86 ?_
                refine lv_aload_n hx hb d_Model_meets_87 rfl (lv_at hl 1 rfl) ?_
                refine va_get (D := (dC, dI)) (ci := 10) (v := .ref (r 0)) (C := R_Model) (T := F_Model) (N := 54) hx hb hg i_Model hown hK hP 0 rfl rfl 0 (by decide) (hg _ k737) (fun _ h9 => h9) rfl d_Model_meets_88 ?_
                refine lv_iload hx hb d_Model_meets_91 (lv_at hl 5 rfl) ?_
                obtain ⟨i38, h⟩ := dz_oi h
                refine va_iald (D := (dC, dI)) (f := F 0) hx hb hK hP 1 1 rfl rfl i38 d_Model_meets_93 ?_
                refine lv_icmp_ne (tgt := 119) hx hb d_Model_meets_94 (by decide) (fun c39 => ?_) (fun c39 => ?_)
                · rw [if_neg c39] at h
                  refine lv_iconst (v := 0) hx hb d_Model_meets_119 (by decide) ?_
                  obtain rfl := Option.some.inj h
                  have hP9 := hP
                  have hD9 := hD
                  have hK9 := hK
                  exact W.zret (v := 0) (ty := .boolean) hx hb hr (show narrow .boolean (.int 0) = .int 0 from rfl) (fun t ht hW => ⟨⟨0, (), rfl, ⟨rfl, (show narrow .boolean (.int 0) = .int 0 from rfl), (show fits .boolean (.int 0) = true from rfl)⟩, by rw [ht]; exact hP9, va_K.moved hW.alike hK9, hD9⟩, hS.F ht⟩) hS.2.2 d_Model_meets_120
                · rw [if_pos c39] at h
                  refine lv_iload hx hb d_Model_meets_97 (lv_at hl 0 rfl) ?_
                  refine lv_iconst (v := 3) hx hb d_Model_meets_99 (by decide) ?_
                  refine lv_icmp_ne (tgt := 121) hx hb d_Model_meets_100 (by decide) (fun c40 => ?_) (fun c40 => ?_)
                  · rw [if_neg c40] at h
                    refine lv_aload_n hx hb d_Model_meets_121 rfl (lv_at hl 1 rfl) ?_
                    refine lv_iload_n hx hb d_Model_meets_122 rfl (lv_at hl 3 rfl) ?_
                    obtain ⟨z41_1, hc41, h⟩ := dz_ob h
                    try dsimp only at h
                    have hPc := hP
                    have hKc := hK
                    refine vp_callSi (va_Run.run (va_runV (As := [.int p1]) (rest := []) ⟨hx, hb, hml, hown, hg⟩ (c_Model_leader l dC dI N cB cI o_Model r I F p1 z41_1 hc41) (cwV 1 hg (gd_V k850 k851 k852 k707 k849) rfl rfl rfl (by decide +kernel) ⟨Nat.le_of_ble_eq_true rfl, Nat.le_of_ble_eq_true rfl⟩) ⟨dz_blindR, va_recv hKc hPc (ci := 10) (q0 := 0) rfl rfl, fun U hU hW => ⟨rfl, dz_Nw hW hN, by rw [hU]; exact hPc, va_K.moved hW.alike hKc⟩⟩ rfl rfl hl.1 rfl (lv_room (Nat.le_of_ble_eq_true rfl)) d_Model_meets_123 ⟨Nat.le_of_ble_eq_true rfl, Nat.le_of_ble_eq_true rfl⟩)) (fun r41 hw => ?_)
                    have hw : z41_1 = r41 := hw.symm
                    subst hw
                    refine lv_istore (lv' := [(6, .int z41_1), (5, .int z8_1), (0, .ref o_Model), (1, .int p0), (2, .int p1), (3, .int p2), (4, .int p3)]) hx hb d_Model_meets_126 hl (by decide) rfl (fun ls hl => ?_)
                    refine lv_aload_n hx hb d_Model_meets_128 rfl (lv_at hl 2 rfl) ?_
                    refine lv_iload hx hb d_Model_meets_129 (lv_at hl 6 rfl) ?_
                    obtain ⟨z42_1, hc42, h⟩ := dz_ob h
                    try dsimp only at h
                    have hPc := hP
                    have hKc := hK
                    refine vp_callSi (va_Run.run (va_runV (As := [.int p3]) (rest := []) ⟨hx, hb, hml, hown, hg⟩ (c_Model_leader l dC dI N cB cI o_Model r I F p3 z42_1 hc42) (cwV 1 hg (gd_V k850 k851 k852 k707 k849) rfl rfl rfl (by decide +kernel) ⟨Nat.le_of_ble_eq_true rfl, Nat.le_of_ble_eq_true rfl⟩) ⟨dz_blindR, va_recv hKc hPc (ci := 10) (q0 := 0) rfl rfl, fun U hU hW => ⟨rfl, dz_Nw hW hN, by rw [hU]; exact hPc, va_K.moved hW.alike hKc⟩⟩ rfl rfl hl.1 rfl (lv_room (Nat.le_of_ble_eq_true rfl)) d_Model_meets_131 ⟨Nat.le_of_ble_eq_true rfl, Nat.le_of_ble_eq_true rfl⟩)) (fun r42 hw => ?_)
                    have hw : z42_1 = r42 := hw.symm
                    subst hw
                    refine lv_istore (lv' := [(7, .int z42_1), (6, .int z41_1), (5, .int z8_1), (0, .ref o_Model), (1, .int p0), (2, .int p1), (3, .int p2), (4, .int p3)]) hx hb d_Model_meets_134 hl (by decide) rfl (fun ls hl => ?_)
                    refine lv_iload hx hb d_Model_meets_136 (lv_at hl 1 rfl) ?_
                    refine lv_iload hx hb d_Model_meets_138 (lv_at hl 0 rfl) ?_
                    refine lv_icmp_eq (tgt := 181) hx hb d_Model_meets_140 (by decide) (fun c43 => ?_) (fun c43 => ?_)
                    · rw [if_pos c43] at h
                      refine lv_iconst (v := 1) hx hb d_Model_meets_181 (by decide) ?_
                      obtain rfl := Option.some.inj h
                      have hP9 := hP
                      have hD9 := hD
                      have hK9 := hK
                      exact W.zret (v := 1) (ty := .boolean) hx hb hr (show narrow .boolean (.int 1) = .int 1 from rfl) (fun t ht hW => ⟨⟨1, (), rfl, ⟨rfl, (show narrow .boolean (.int 1) = .int 1 from rfl), (show fits .boolean (.int 1) = true from rfl)⟩, by rw [ht]; exact hP9, va_K.moved hW.alike hK9, hD9⟩, hS.F ht⟩) hS.2.2 d_Model_meets_182
                    · rw [if_neg c43] at h
                      refine lv_aload_n hx hb d_Model_meets_143 rfl (lv_at hl 3 rfl) ?_
                      refine va_get (D := (dC, dI)) (ci := 10) (v := .ref (r 2)) (C := R_Model) (T := F_Model) (N := 54) hx hb hg i_Model hown hK hP 0 rfl rfl 2 (by decide) (hg _ k747) (fun _ h9 => h9) rfl d_Model_meets_144 ?_
                      refine lv_iload hx hb d_Model_meets_147 (lv_at hl 1 rfl) ?_
                      refine lv_iload hx hb d_Model_meets_149 (lv_at hl 0 rfl) ?_
                      obtain ⟨i44, h⟩ := dz_oi h
                      refine va_iast (D := (dC, dI)) (f := F 2) hx hb hK hP hD hS 3 1 rfl rfl i44 d_Model_meets_151 (fun H locs hP hD hS => ?_)
                      obtain ⟨G45, eG45, h⟩ := dz_lt h
                      have hP : va_P (dC, dI) classes (wD cB cI o_Model r I G45) H := by rw [eG45]; exact hP
                      have hD : va_D A (wD cB cI o_Model r I G45) := by rw [eG45]; exact hD
                      refine lv_aload_n hx hb d_Model_meets_152 rfl (lv_at hl 3 rfl) ?_
                      refine va_get (D := (dC, dI)) (ci := 10) (v := .ref (r 48)) (C := R_Model) (T := F_Model) (N := 54) hx hb hg i_Model hown hK hP 0 rfl rfl 48 (by decide) (hg _ k847) (fun _ h9 => h9) rfl d_Model_meets_153 ?_
                      refine lv_aload_n hx hb d_Model_meets_156 rfl (lv_at hl 3 rfl) ?_
                      refine va_get (D := (dC, dI)) (ci := 10) (v := .int (I 49)) (C := R_Model) (T := F_Model) (N := 54) hx hb hg i_Model hown hK hP 0 rfl rfl 49 (by decide) (hg _ k848) (fun _ h9 => h9) rfl d_Model_meets_157 ?_
                      refine lv_iload hx hb d_Model_meets_160 (lv_at hl 1 rfl) ?_
                      obtain ⟨i46, h⟩ := dz_oi h
                      refine va_iast (D := (dC, dI)) (f := G45 48) hx hb hK hP hD hS 25 1 rfl rfl i46 d_Model_meets_162 (fun H locs hP hD hS => ?_)
                      obtain ⟨G47, eG47, h⟩ := dz_lt h
                      have hP : va_P (dC, dI) classes (wD cB cI o_Model r I G47) H := by rw [eG47]; exact hP
                      have hD : va_D A (wD cB cI o_Model r I G47) := by rw [eG47]; exact hD
                      refine lv_aload_n hx hb d_Model_meets_163 rfl (lv_at hl 3 rfl) ?_
                      refine lv_dup hx hb d_Model_meets_164 rfl ?_
                      refine va_get (D := (dC, dI)) (ci := 10) (v := .int (I 49)) (C := R_Model) (T := F_Model) (N := 54) hx hb hg i_Model hown hK hP 0 rfl rfl 49 (by decide) (hg _ k848) (fun _ h9 => h9) rfl d_Model_meets_165 ?_
                      refine lv_iconst (v := 1) hx hb d_Model_meets_168 (by decide) ?_
                      refine lv_iadd hx hb d_Model_meets_169 ?_
                      refine va_put (D := (dC, dI)) (ci := 10) (v := .int ((I 49) + 1)) (ty := .int) (C := R_Model) (T := F_Model) (N := 54) hx hb hg i_Model t_Model t_Model_ok n_Model hown hK hP hD hS 0 rfl rfl 49 (by decide) (hg _ k848) (fun _ h9 => h9) rfl (by decide +kernel) rfl rfl (Nat.le_of_ble_eq_true rfl) d_Model_meets_170 (fun H locs hP hD hS => ?_)
                      obtain ⟨J48, eJ48, h⟩ := dz_lt h
                      have hP : va_P (dC, dI) classes (wD cB cI o_Model r J48 G47) H := by rw [eJ48]; exact hP
                      have hD : va_D A (wD cB cI o_Model r J48 G47) := by rw [eJ48]; exact hD
                      refine lv_aload_n hx hb d_Model_meets_173 rfl (lv_at hl 3 rfl) ?_
                      refine lv_iload_n hx hb d_Model_meets_174 rfl (lv_at hl 5 rfl) ?_
                      refine lv_iload hx hb d_Model_meets_175 (lv_at hl 7 rfl) ?_
                      refine lv_iconst (v := 1) hx hb d_Model_meets_177 (by decide) ?_
                      obtain ⟨⟨z49_1, z49_2⟩, hc49, h⟩ := dz_ob h
                      try dsimp only at h
                      have hPc := hP
                      have hKc := hK
                      have hDc := hD
                      have hFc := dz_freeall hD hS hA
                      refine va_callv (va_runV (As := [.int p1, .int p3, .int 1]) (rest := []) ⟨hx, hb, hml, hown, hg⟩ (c_Model_compareLater l dC dI N cB cI o_Model r J48 G47 p1 p3 (1 : Int32) H.size (z49_1, z49_2) hc49) (cwV 3 hg (gd_V k854 k855 k856 k707 k853) rfl rfl rfl (by decide +kernel) ⟨Nat.le_of_ble_eq_true rfl, Nat.le_of_ble_eq_true rfl⟩) ⟨dz_blind, va_recv hKc hPc (ci := 10) (q0 := 0) rfl rfl, fun U hU hW => ⟨rfl, dz_Nw hW hN, by rw [hU], by rw [hU]; exact hPc, va_K.moved hW.alike hKc, hDc.weaken (fun _ _ _ _ => trivial)⟩⟩ rfl rfl hl.1 rfl (lv_room (Nat.le_of_ble_eq_true rfl)) d_Model_meets_178 ⟨Nat.le_of_ble_eq_true rfl, Nat.le_of_ble_eq_true rfl⟩) hS (fun q _ h => hFc q h) hFc (fun u49 t49 H1 locs ht hvm hw hB hz1 hk1 hS => ?_)
                      obtain ⟨hP1, hK1, hD1⟩ := hB
                      rw [ht] at hP1
                      have hP := hP1
                      have hD := hD1.weaken (fun _ q _ h => hFc q.1 h)
                      generalize H1 = H at hP hS ⊢
                      have hP : va_P (dC, dI) classes (wD cB cI o_Model r z49_2 z49_1) H := hP
                      have hD : va_D A (wD cB cI o_Model r z49_2 z49_1) := hD
                      refine lv_iconst (v := 1) hx hb d_Model_meets_181 (by decide) ?_
                      obtain rfl := Option.some.inj h
                      have hP9 := hP
                      have hD9 := hD
                      have hK9 := hK
                      exact W.zret (v := 1) (ty := .boolean) hx hb hr (show narrow .boolean (.int 1) = .int 1 from rfl) (fun t ht hW => ⟨⟨1, (), rfl, ⟨rfl, (show narrow .boolean (.int 1) = .int 1 from rfl), (show fits .boolean (.int 1) = true from rfl)⟩, by rw [ht]; exact hP9, va_K.moved hW.alike hK9, hD9⟩, hS.F ht⟩) hS.2.2 d_Model_meets_182
                  · rw [if_pos c40] at h
                    refine lv_aload_n hx hb d_Model_meets_103 rfl (lv_at hl 1 rfl) ?_
                    refine va_get (D := (dC, dI)) (ci := 10) (v := .ref (r 1)) (C := R_Model) (T := F_Model) (N := 54) hx hb hg i_Model hown hK hP 0 rfl rfl 1 (by decide) (hg _ k742) (fun _ h9 => h9) rfl d_Model_meets_104 ?_
                    refine lv_iload_n hx hb d_Model_meets_107 rfl (lv_at hl 3 rfl) ?_
                    obtain ⟨i50, h⟩ := dz_oi h
                    refine va_iald (D := (dC, dI)) (f := F 1) hx hb hK hP 2 1 rfl rfl i50 d_Model_meets_108 ?_
                    refine lv_aload_n hx hb d_Model_meets_109 rfl (lv_at hl 1 rfl) ?_
                    refine va_get (D := (dC, dI)) (ci := 10) (v := .ref (r 1)) (C := R_Model) (T := F_Model) (N := 54) hx hb hg i_Model hown hK hP 0 rfl rfl 1 (by decide) (hg _ k742) (fun _ h9 => h9) rfl d_Model_meets_110 ?_
                    refine lv_iload hx hb d_Model_meets_113 (lv_at hl 5 rfl) ?_
                    obtain ⟨i51, h⟩ := dz_oi h
                    refine va_iald (D := (dC, dI)) (f := F 1) hx hb hK hP 2 1 rfl rfl i51 d_Model_meets_115 ?_
                    refine lv_icmp_eq (tgt := 121) hx hb d_Model_meets_116 (by decide) (fun c52 => ?_) (fun c52 => ?_)
                    · rw [if_pos c52] at h
                      refine lv_aload_n hx hb d_Model_meets_121 rfl (lv_at hl 1 rfl) ?_
                      refine lv_iload_n hx hb d_Model_meets_122 rfl (lv_at hl 3 rfl) ?_
                      obtain ⟨z53_1, hc53, h⟩ := dz_ob h
                      try dsimp only at h
                      have hPc := hP
                      have hKc := hK
                      refine vp_callSi (va_Run.run (va_runV (As := [.int p1]) (rest := []) ⟨hx, hb, hml, hown, hg⟩ (c_Model_leader l dC dI N cB cI o_Model r I F p1 z53_1 hc53) (cwV 1 hg (gd_V k850 k851 k852 k707 k849) rfl rfl rfl (by decide +kernel) ⟨Nat.le_of_ble_eq_true rfl, Nat.le_of_ble_eq_true rfl⟩) ⟨dz_blindR, va_recv hKc hPc (ci := 10) (q0 := 0) rfl rfl, fun U hU hW => ⟨rfl, dz_Nw hW hN, by rw [hU]; exact hPc, va_K.moved hW.alike hKc⟩⟩ rfl rfl hl.1 rfl (lv_room (Nat.le_of_ble_eq_true rfl)) d_Model_meets_123 ⟨Nat.le_of_ble_eq_true rfl, Nat.le_of_ble_eq_true rfl⟩)) (fun r53 hw => ?_)
                      have hw : z53_1 = r53 := hw.symm
                      subst hw
                      refine lv_istore (lv' := [(6, .int z53_1), (5, .int z8_1), (0, .ref o_Model), (1, .int p0), (2, .int p1), (3, .int p2), (4, .int p3)]) hx hb d_Model_meets_126 hl (by decide) rfl (fun ls hl => ?_)
                      refine lv_aload_n hx hb d_Model_meets_128 rfl (lv_at hl 2 rfl) ?_
                      refine lv_iload hx hb d_Model_meets_129 (lv_at hl 6 rfl) ?_
                      obtain ⟨z54_1, hc54, h⟩ := dz_ob h
                      try dsimp only at h
                      have hPc := hP
                      have hKc := hK
                      refine vp_callSi (va_Run.run (va_runV (As := [.int p3]) (rest := []) ⟨hx, hb, hml, hown, hg⟩ (c_Model_leader l dC dI N cB cI o_Model r I F p3 z54_1 hc54) (cwV 1 hg (gd_V k850 k851 k852 k707 k849) rfl rfl rfl (by decide +kernel) ⟨Nat.le_of_ble_eq_true rfl, Nat.le_of_ble_eq_true rfl⟩) ⟨dz_blindR, va_recv hKc hPc (ci := 10) (q0 := 0) rfl rfl, fun U hU hW => ⟨rfl, dz_Nw hW hN, by rw [hU]; exact hPc, va_K.moved hW.alike hKc⟩⟩ rfl rfl hl.1 rfl (lv_room (Nat.le_of_ble_eq_true rfl)) d_Model_meets_131 ⟨Nat.le_of_ble_eq_true rfl, Nat.le_of_ble_eq_true rfl⟩)) (fun r54 hw => ?_)
                      have hw : z54_1 = r54 := hw.symm
                      subst hw
                      refine lv_istore (lv' := [(7, .int z54_1), (6, .int z53_1), (5, .int z8_1), (0, .ref o_Model), (1, .int p0), (2, .int p1), (3, .int p2), (4, .int p3)]) hx hb d_Model_meets_134 hl (by decide) rfl (fun ls hl => ?_)
                      refine lv_iload hx hb d_Model_meets_136 (lv_at hl 1 rfl) ?_
                      refine lv_iload hx hb d_Model_meets_138 (lv_at hl 0 rfl) ?_
                      refine lv_icmp_eq (tgt := 181) hx hb d_Model_meets_140 (by decide) (fun c55 => ?_) (fun c55 => ?_)
                      · rw [if_pos c55] at h
                        refine lv_iconst (v := 1) hx hb d_Model_meets_181 (by decide) ?_
                        obtain rfl := Option.some.inj h
                        have hP9 := hP
                        have hD9 := hD
                        have hK9 := hK
                        exact W.zret (v := 1) (ty := .boolean) hx hb hr (show narrow .boolean (.int 1) = .int 1 from rfl) (fun t ht hW => ⟨⟨1, (), rfl, ⟨rfl, (show narrow .boolean (.int 1) = .int 1 from rfl), (show fits .boolean (.int 1) = true from rfl)⟩, by rw [ht]; exact hP9, va_K.moved hW.alike hK9, hD9⟩, hS.F ht⟩) hS.2.2 d_Model_meets_182
                      · rw [if_neg c55] at h
                        refine lv_aload_n hx hb d_Model_meets_143 rfl (lv_at hl 3 rfl) ?_
                        refine va_get (D := (dC, dI)) (ci := 10) (v := .ref (r 2)) (C := R_Model) (T := F_Model) (N := 54) hx hb hg i_Model hown hK hP 0 rfl rfl 2 (by decide) (hg _ k747) (fun _ h9 => h9) rfl d_Model_meets_144 ?_
                        refine lv_iload hx hb d_Model_meets_147 (lv_at hl 1 rfl) ?_
                        refine lv_iload hx hb d_Model_meets_149 (lv_at hl 0 rfl) ?_
                        obtain ⟨i56, h⟩ := dz_oi h
                        refine va_iast (D := (dC, dI)) (f := F 2) hx hb hK hP hD hS 3 1 rfl rfl i56 d_Model_meets_151 (fun H locs hP hD hS => ?_)
                        obtain ⟨G57, eG57, h⟩ := dz_lt h
                        have hP : va_P (dC, dI) classes (wD cB cI o_Model r I G57) H := by rw [eG57]; exact hP
                        have hD : va_D A (wD cB cI o_Model r I G57) := by rw [eG57]; exact hD
                        refine lv_aload_n hx hb d_Model_meets_152 rfl (lv_at hl 3 rfl) ?_
                        refine va_get (D := (dC, dI)) (ci := 10) (v := .ref (r 48)) (C := R_Model) (T := F_Model) (N := 54) hx hb hg i_Model hown hK hP 0 rfl rfl 48 (by decide) (hg _ k847) (fun _ h9 => h9) rfl d_Model_meets_153 ?_
                        refine lv_aload_n hx hb d_Model_meets_156 rfl (lv_at hl 3 rfl) ?_
                        refine va_get (D := (dC, dI)) (ci := 10) (v := .int (I 49)) (C := R_Model) (T := F_Model) (N := 54) hx hb hg i_Model hown hK hP 0 rfl rfl 49 (by decide) (hg _ k848) (fun _ h9 => h9) rfl d_Model_meets_157 ?_
                        refine lv_iload hx hb d_Model_meets_160 (lv_at hl 1 rfl) ?_
                        obtain ⟨i58, h⟩ := dz_oi h
                        refine va_iast (D := (dC, dI)) (f := G57 48) hx hb hK hP hD hS 25 1 rfl rfl i58 d_Model_meets_162 (fun H locs hP hD hS => ?_)
                        obtain ⟨G59, eG59, h⟩ := dz_lt h
                        have hP : va_P (dC, dI) classes (wD cB cI o_Model r I G59) H := by rw [eG59]; exact hP
                        have hD : va_D A (wD cB cI o_Model r I G59) := by rw [eG59]; exact hD
                        refine lv_aload_n hx hb d_Model_meets_163 rfl (lv_at hl 3 rfl) ?_
                        refine lv_dup hx hb d_Model_meets_164 rfl ?_
                        refine va_get (D := (dC, dI)) (ci := 10) (v := .int (I 49)) (C := R_Model) (T := F_Model) (N := 54) hx hb hg i_Model hown hK hP 0 rfl rfl 49 (by decide) (hg _ k848) (fun _ h9 => h9) rfl d_Model_meets_165 ?_
                        refine lv_iconst (v := 1) hx hb d_Model_meets_168 (by decide) ?_
                        refine lv_iadd hx hb d_Model_meets_169 ?_
                        refine va_put (D := (dC, dI)) (ci := 10) (v := .int ((I 49) + 1)) (ty := .int) (C := R_Model) (T := F_Model) (N := 54) hx hb hg i_Model t_Model t_Model_ok n_Model hown hK hP hD hS 0 rfl rfl 49 (by decide) (hg _ k848) (fun _ h9 => h9) rfl (by decide +kernel) rfl rfl (Nat.le_of_ble_eq_true rfl) d_Model_meets_170 (fun H locs hP hD hS => ?_)
                        obtain ⟨J60, eJ60, h⟩ := dz_lt h
                        have hP : va_P (dC, dI) classes (wD cB cI o_Model r J60 G59) H := by rw [eJ60]; exact hP
                        have hD : va_D A (wD cB cI o_Model r J60 G59) := by rw [eJ60]; exact hD
                        refine lv_aload_n hx hb d_Model_meets_173 rfl (lv_at hl 3 rfl) ?_
                        refine lv_iload_n hx hb d_Model_meets_174 rfl (lv_at hl 5 rfl) ?_
                        refine lv_iload hx hb d_Model_meets_175 (lv_at hl 7 rfl) ?_
                        refine lv_iconst (v := 1) hx hb d_Model_meets_177 (by decide) ?_
                        obtain ⟨⟨z61_1, z61_2⟩, hc61, h⟩ := dz_ob h
                        try dsimp only at h
                        have hPc := hP
                        have hKc := hK
                        have hDc := hD
                        have hFc := dz_freeall hD hS hA
                        refine va_callv (va_runV (As := [.int p1, .int p3, .int 1]) (rest := []) ⟨hx, hb, hml, hown, hg⟩ (c_Model_compareLater l dC dI N cB cI o_Model r J60 G59 p1 p3 (1 : Int32) H.size (z61_1, z61_2) hc61) (cwV 3 hg (gd_V k854 k855 k856 k707 k853) rfl rfl rfl (by decide +kernel) ⟨Nat.le_of_ble_eq_true rfl, Nat.le_of_ble_eq_true rfl⟩) ⟨dz_blind, va_recv hKc hPc (ci := 10) (q0 := 0) rfl rfl, fun U hU hW => ⟨rfl, dz_Nw hW hN, by rw [hU], by rw [hU]; exact hPc, va_K.moved hW.alike hKc, hDc.weaken (fun _ _ _ _ => trivial)⟩⟩ rfl rfl hl.1 rfl (lv_room (Nat.le_of_ble_eq_true rfl)) d_Model_meets_178 ⟨Nat.le_of_ble_eq_true rfl, Nat.le_of_ble_eq_true rfl⟩) hS (fun q _ h => hFc q h) hFc (fun u61 t61 H1 locs ht hvm hw hB hz1 hk1 hS => ?_)
                        obtain ⟨hP1, hK1, hD1⟩ := hB
                        rw [ht] at hP1
                        have hP := hP1
                        have hD := hD1.weaken (fun _ q _ h => hFc q.1 h)
                        generalize H1 = H at hP hS ⊢
                        have hP : va_P (dC, dI) classes (wD cB cI o_Model r z61_2 z61_1) H := hP
                        have hD : va_D A (wD cB cI o_Model r z61_2 z61_1) := hD
                        refine lv_iconst (v := 1) hx hb d_Model_meets_181 (by decide) ?_
                        obtain rfl := Option.some.inj h
                        have hP9 := hP
                        have hD9 := hD
                        have hK9 := hK
                        exact W.zret (v := 1) (ty := .boolean) hx hb hr (show narrow .boolean (.int 1) = .int 1 from rfl) (fun t ht hW => ⟨⟨1, (), rfl, ⟨rfl, (show narrow .boolean (.int 1) = .int 1 from rfl), (show fits .boolean (.int 1) = true from rfl)⟩, by rw [ht]; exact hP9, va_K.moved hW.alike hK9, hD9⟩, hS.F ht⟩) hS.2.2 d_Model_meets_182
                    · rw [if_neg c52] at h
                      refine lv_iconst (v := 0) hx hb d_Model_meets_119 (by decide) ?_
                      obtain rfl := Option.some.inj h
                      have hP9 := hP
                      have hD9 := hD
                      have hK9 := hK
                      exact W.zret (v := 0) (ty := .boolean) hx hb hr (show narrow .boolean (.int 0) = .int 0 from rfl) (fun t ht hW => ⟨⟨0, (), rfl, ⟨rfl, (show narrow .boolean (.int 0) = .int 0 from rfl), (show fits .boolean (.int 0) = true from rfl)⟩, by rw [ht]; exact hP9, va_K.moved hW.alike hK9, hD9⟩, hS.F ht⟩) hS.2.2 d_Model_meets_120
          · rw [if_pos c9] at h
            refine lv_aload_n hx hb d_Model_meets_53 rfl (lv_at hl 1 rfl) ?_
            refine lv_iload_n hx hb d_Model_meets_54 rfl (lv_at hl 3 rfl) ?_
            refine lv_iload hx hb d_Model_meets_55 (lv_at hl 5 rfl) ?_
            obtain ⟨z62_1, hc62, h⟩ := dz_ob h
            try dsimp only at h
            have hPc := hP
            have hKc := hK
            refine vp_callSi (va_Run.run (va_runV (As := [.int p1, .int p3]) (rest := []) ⟨hx, hb, hml, hown, hg⟩ (c_Model_compare l dC dI N cB cI o_Model r I F p1 p3 z62_1 hc62) (cwV 2 hg (gd_V k858 k859 k860 k707 k857) rfl rfl rfl (by decide +kernel) ⟨Nat.le_of_ble_eq_true rfl, Nat.le_of_ble_eq_true rfl⟩) ⟨dz_blindR, va_recv hKc hPc (ci := 10) (q0 := 0) rfl rfl, fun U hU hW => ⟨rfl, dz_Nw hW hN, by rw [hU]; exact hPc, va_K.moved hW.alike hKc⟩⟩ rfl rfl hl.1 rfl (lv_room (Nat.le_of_ble_eq_true rfl)) d_Model_meets_57 ⟨Nat.le_of_ble_eq_true rfl, Nat.le_of_ble_eq_true rfl⟩)) (fun r62 hw => ?_)
            have hw : z62_1 = r62 := hw.symm
            subst hw
            refine lv_if_ne (tgt := 67) hx hb d_Model_meets_60 (by decide) (fun c63 => ?_) (fun c63 => ?_)
            · rw [if_neg c63] at h
              refine lv_iconst (v := 0) hx hb d_Model_meets_67 (by decide) ?_
              obtain rfl := Option.some.inj h
              have hP9 := hP
              have hD9 := hD
              have hK9 := hK
              exact W.zret (v := 0) (ty := .boolean) hx hb hr (show narrow .boolean (.int 0) = .int 0 from rfl) (fun t ht hW => ⟨⟨0, (), rfl, ⟨rfl, (show narrow .boolean (.int 0) = .int 0 from rfl), (show fits .boolean (.int 0) = true from rfl)⟩, by rw [ht]; exact hP9, va_K.moved hW.alike hK9, hD9⟩, hS.F ht⟩) hS.2.2 d_Model_meets_68
            · rw [if_pos c63] at h
              refine lv_iconst (v := 1) hx hb d_Model_meets_63 (by decide) ?_
              refine lv_goto (tgt := 68) hx hb d_Model_meets_64 (by decide) ?_
              obtain rfl := Option.some.inj h
              have hP9 := hP
              have hD9 := hD
              have hK9 := hK
              exact W.zret (v := 1) (ty := .boolean) hx hb hr (show narrow .boolean (.int 1) = .int 1 from rfl) (fun t ht hW => ⟨⟨1, (), rfl, ⟨rfl, (show narrow .boolean (.int 1) = .int 1 from rfl), (show fits .boolean (.int 1) = true from rfl)⟩, by rw [ht]; exact hP9, va_K.moved hW.alike hK9, hD9⟩, hS.F ht⟩) hS.2.2 d_Model_meets_68
        · rw [if_neg c7] at h
          refine lv_iconst (v := 0) hx hb d_Model_meets_37 (by decide) ?_
          obtain rfl := Option.some.inj h
          have hP9 := hP
          have hD9 := hD
          have hK9 := hK
          exact W.zret (v := 0) (ty := .boolean) hx hb hr (show narrow .boolean (.int 0) = .int 0 from rfl) (fun t ht hW => ⟨⟨0, (), rfl, ⟨rfl, (show narrow .boolean (.int 0) = .int 0 from rfl), (show fits .boolean (.int 0) = true from rfl)⟩, by rw [ht]; exact hP9, va_K.moved hW.alike hK9, hD9⟩, hS.F ht⟩) hS.2.2 d_Model_meets_38
  · rw [if_neg c2] at h
    refine lv_iconst (v := 1) hx hb d_Model_meets_11 (by decide) ?_
    obtain rfl := Option.some.inj h
    have hP9 := hP
    have hD9 := hD
    have hK9 := hK
    exact W.zret (v := 1) (ty := .boolean) hx hb hr (show narrow .boolean (.int 1) = .int 1 from rfl) (fun t ht hW => ⟨⟨1, (), rfl, ⟨rfl, (show narrow .boolean (.int 1) = .int 1 from rfl), (show fits .boolean (.int 1) = true from rfl)⟩, by rw [ht]; exact hP9, va_K.moved hW.alike hK9, hD9⟩, hS.F ht⟩) hS.2.2 d_Model_meets_12
