theorem d_Model_primitive_0 : decode b_Model_primitive 0 = .ok (.iload_n 1, 1) := by decide +kernel
theorem d_Model_primitive_1 : decode b_Model_primitive 1 = .ok (.ifCond .lt 9, 3) := by decide +kernel
theorem d_Model_primitive_4 : decode b_Model_primitive 4 = .ok (.iload_n 1, 1) := by decide +kernel
theorem d_Model_primitive_5 : decode b_Model_primitive 5 = .ok (.bipush 41, 2) := by decide +kernel
theorem d_Model_primitive_7 : decode b_Model_primitive 7 = .ok (.if_icmp .le 5, 3) := by decide +kernel
theorem d_Model_primitive_10 : decode b_Model_primitive 10 = .ok (.iconst 4, 1) := by decide +kernel
theorem d_Model_primitive_11 : decode b_Model_primitive 11 = .ok (.ireturn, 1) := by decide +kernel
theorem d_Model_primitive_12 : decode b_Model_primitive 12 = .ok (.iload_n 1, 1) := by decide +kernel
theorem d_Model_primitive_13 : decode b_Model_primitive 13 = .ok (.iconst 3, 1) := by decide +kernel
theorem d_Model_primitive_14 : decode b_Model_primitive 14 = .ok (.if_icmp .eq 38, 3) := by decide +kernel
theorem d_Model_primitive_17 : decode b_Model_primitive 17 = .ok (.iload_n 1, 1) := by decide +kernel
theorem d_Model_primitive_18 : decode b_Model_primitive 18 = .ok (.iconst 4, 1) := by decide +kernel
theorem d_Model_primitive_19 : decode b_Model_primitive 19 = .ok (.if_icmp .eq 33, 3) := by decide +kernel
theorem d_Model_primitive_22 : decode b_Model_primitive 22 = .ok (.iload_n 1, 1) := by decide +kernel
theorem d_Model_primitive_23 : decode b_Model_primitive 23 = .ok (.bipush 23, 2) := by decide +kernel
theorem d_Model_primitive_25 : decode b_Model_primitive 25 = .ok (.if_icmp .eq 27, 3) := by decide +kernel
theorem d_Model_primitive_28 : decode b_Model_primitive 28 = .ok (.iload_n 1, 1) := by decide +kernel
theorem d_Model_primitive_29 : decode b_Model_primitive 29 = .ok (.bipush 26, 2) := by decide +kernel
theorem d_Model_primitive_31 : decode b_Model_primitive 31 = .ok (.if_icmp .eq 21, 3) := by decide +kernel
theorem d_Model_primitive_34 : decode b_Model_primitive 34 = .ok (.iload_n 1, 1) := by decide +kernel
theorem d_Model_primitive_35 : decode b_Model_primitive 35 = .ok (.bipush 28, 2) := by decide +kernel
theorem d_Model_primitive_37 : decode b_Model_primitive 37 = .ok (.if_icmp .eq 15, 3) := by decide +kernel
theorem d_Model_primitive_40 : decode b_Model_primitive 40 = .ok (.iload_n 1, 1) := by decide +kernel
theorem d_Model_primitive_41 : decode b_Model_primitive 41 = .ok (.bipush 29, 2) := by decide +kernel
theorem d_Model_primitive_43 : decode b_Model_primitive 43 = .ok (.if_icmp .eq 9, 3) := by decide +kernel
theorem d_Model_primitive_46 : decode b_Model_primitive 46 = .ok (.iload_n 1, 1) := by decide +kernel
theorem d_Model_primitive_47 : decode b_Model_primitive 47 = .ok (.bipush 36, 2) := by decide +kernel
theorem d_Model_primitive_49 : decode b_Model_primitive 49 = .ok (.if_icmp .le 7, 3) := by decide +kernel
theorem d_Model_primitive_52 : decode b_Model_primitive 52 = .ok (.iconst 1, 1) := by decide +kernel
theorem d_Model_primitive_53 : decode b_Model_primitive 53 = .ok (.goto 4, 3) := by decide +kernel
theorem d_Model_primitive_56 : decode b_Model_primitive 56 = .ok (.iconst 0, 1) := by decide +kernel
theorem d_Model_primitive_57 : decode b_Model_primitive 57 = .ok (.istore_n 2, 1) := by decide +kernel
theorem d_Model_primitive_58 : decode b_Model_primitive 58 = .ok (.iload_n 2, 1) := by decide +kernel
theorem d_Model_primitive_59 : decode b_Model_primitive 59 = .ok (.ifCond .eq 7, 3) := by decide +kernel
theorem d_Model_primitive_62 : decode b_Model_primitive 62 = .ok (.iconst 1, 1) := by decide +kernel
theorem d_Model_primitive_63 : decode b_Model_primitive 63 = .ok (.goto 14, 3) := by decide +kernel
theorem d_Model_primitive_66 : decode b_Model_primitive 66 = .ok (.iload_n 1, 1) := by decide +kernel
theorem d_Model_primitive_67 : decode b_Model_primitive 67 = .ok (.bipush 30, 2) := by decide +kernel
theorem d_Model_primitive_69 : decode b_Model_primitive 69 = .ok (.if_icmp .ne 7, 3) := by decide +kernel
theorem d_Model_primitive_72 : decode b_Model_primitive 72 = .ok (.iconst 3, 1) := by decide +kernel
theorem d_Model_primitive_73 : decode b_Model_primitive 73 = .ok (.goto 4, 3) := by decide +kernel
theorem d_Model_primitive_76 : decode b_Model_primitive 76 = .ok (.iconst 2, 1) := by decide +kernel
theorem d_Model_primitive_77 : decode b_Model_primitive 77 = .ok (.istore_n 3, 1) := by decide +kernel
theorem d_Model_primitive_78 : decode b_Model_primitive 78 = .ok (.aload_n 0, 1) := by decide +kernel
theorem d_Model_primitive_79 : decode b_Model_primitive 79 = .ok (.invokevirtual 218, 3) := by decide +kernel
theorem d_Model_primitive_82 : decode b_Model_primitive 82 = .ok (.iload_n 3, 1) := by decide +kernel
theorem d_Model_primitive_83 : decode b_Model_primitive 83 = .ok (.if_icmp .ge 5, 3) := by decide +kernel
theorem d_Model_primitive_86 : decode b_Model_primitive 86 = .ok (.iconst 4, 1) := by decide +kernel
theorem d_Model_primitive_87 : decode b_Model_primitive 87 = .ok (.ireturn, 1) := by decide +kernel
theorem d_Model_primitive_88 : decode b_Model_primitive 88 = .ok (.iload_n 1, 1) := by decide +kernel
theorem d_Model_primitive_89 : decode b_Model_primitive 89 = .ok (.bipush 27, 2) := by decide +kernel
theorem d_Model_primitive_91 : decode b_Model_primitive 91 = .ok (.if_icmp .lt 21, 3) := by decide +kernel
theorem d_Model_primitive_94 : decode b_Model_primitive 94 = .ok (.iload_n 1, 1) := by decide +kernel
theorem d_Model_primitive_95 : decode b_Model_primitive 95 = .ok (.bipush 29, 2) := by decide +kernel
theorem d_Model_primitive_97 : decode b_Model_primitive 97 = .ok (.if_icmp .eq 15, 3) := by decide +kernel
theorem d_Model_primitive_100 : decode b_Model_primitive 100 = .ok (.iload_n 1, 1) := by decide +kernel
theorem d_Model_primitive_101 : decode b_Model_primitive 101 = .ok (.bipush 38, 2) := by decide +kernel
theorem d_Model_primitive_103 : decode b_Model_primitive 103 = .ok (.if_icmp .eq 9, 3) := by decide +kernel
theorem d_Model_primitive_106 : decode b_Model_primitive 106 = .ok (.iload_n 1, 1) := by decide +kernel
theorem d_Model_primitive_107 : decode b_Model_primitive 107 = .ok (.bipush 39, 2) := by decide +kernel
theorem d_Model_primitive_109 : decode b_Model_primitive 109 = .ok (.if_icmp .ne 34, 3) := by decide +kernel
theorem d_Model_primitive_112 : decode b_Model_primitive 112 = .ok (.aload_n 0, 1) := by decide +kernel
theorem d_Model_primitive_113 : decode b_Model_primitive 113 = .ok (.iconst 1, 1) := by decide +kernel
theorem d_Model_primitive_114 : decode b_Model_primitive 114 = .ok (.invokevirtual 256, 3) := by decide +kernel
theorem d_Model_primitive_117 : decode b_Model_primitive 117 = .ok (.ifCond .eq 24, 3) := by decide +kernel
theorem d_Model_primitive_120 : decode b_Model_primitive 120 = .ok (.iload_n 2, 1) := by decide +kernel
theorem d_Model_primitive_121 : decode b_Model_primitive 121 = .ok (.ifCond .ne 11, 3) := by decide +kernel
theorem d_Model_primitive_124 : decode b_Model_primitive 124 = .ok (.aload_n 0, 1) := by decide +kernel
theorem d_Model_primitive_125 : decode b_Model_primitive 125 = .ok (.iconst 2, 1) := by decide +kernel
theorem d_Model_primitive_126 : decode b_Model_primitive 126 = .ok (.invokevirtual 256, 3) := by decide +kernel
theorem d_Model_primitive_129 : decode b_Model_primitive 129 = .ok (.ifCond .eq 12, 3) := by decide +kernel
theorem d_Model_primitive_132 : decode b_Model_primitive 132 = .ok (.aload_n 0, 1) := by decide +kernel
theorem d_Model_primitive_133 : decode b_Model_primitive 133 = .ok (.iload_n 1, 1) := by decide +kernel
theorem d_Model_primitive_134 : decode b_Model_primitive 134 = .ok (.iload_n 2, 1) := by decide +kernel
theorem d_Model_primitive_135 : decode b_Model_primitive 135 = .ok (.invokevirtual 353, 3) := by decide +kernel
theorem d_Model_primitive_138 : decode b_Model_primitive 138 = .ok (.goto 4, 3) := by decide +kernel
theorem d_Model_primitive_141 : decode b_Model_primitive 141 = .ok (.iconst 4, 1) := by decide +kernel
theorem d_Model_primitive_142 : decode b_Model_primitive 142 = .ok (.ireturn, 1) := by decide +kernel
theorem d_Model_primitive_143 : decode b_Model_primitive 143 = .ok (.aload_n 0, 1) := by decide +kernel
theorem d_Model_primitive_144 : decode b_Model_primitive 144 = .ok (.iload_n 1, 1) := by decide +kernel
theorem d_Model_primitive_145 : decode b_Model_primitive 145 = .ok (.invokevirtual 357, 3) := by decide +kernel
theorem d_Model_primitive_148 : decode b_Model_primitive 148 = .ok (.ireturn, 1) := by decide +kernel
theorem d_Model_setLocals_0 : decode b_Model_setLocals 0 = .ok (.iload_n 1, 1) := by decide +kernel
theorem d_Model_setLocals_1 : decode b_Model_setLocals 1 = .ok (.ifCond .lt 10, 3) := by decide +kernel
theorem d_Model_setLocals_4 : decode b_Model_setLocals 4 = .ok (.iload_n 1, 1) := by decide +kernel
theorem d_Model_setLocals_5 : decode b_Model_setLocals 5 = .ok (.sipush 16383, 3) := by decide +kernel
theorem d_Model_setLocals_8 : decode b_Model_setLocals 8 = .ok (.if_icmp .le 5, 3) := by decide +kernel
theorem d_Model_setLocals_11 : decode b_Model_setLocals 11 = .ok (.iconst 4, 1) := by decide +kernel
theorem d_Model_setLocals_12 : decode b_Model_setLocals 12 = .ok (.ireturn, 1) := by decide +kernel
theorem d_Model_setLocals_13 : decode b_Model_setLocals 13 = .ok (.aload_n 0, 1) := by decide +kernel
theorem d_Model_setLocals_14 : decode b_Model_setLocals 14 = .ok (.getfield 142, 3) := by decide +kernel
theorem d_Model_setLocals_17 : decode b_Model_setLocals 17 = .ok (.iconst 1, 1) := by decide +kernel
theorem d_Model_setLocals_18 : decode b_Model_setLocals 18 = .ok (.isub, 1) := by decide +kernel
theorem d_Model_setLocals_19 : decode b_Model_setLocals 19 = .ok (.istore_n 2, 1) := by decide +kernel
theorem d_Model_setLocals_20 : decode b_Model_setLocals 20 = .ok (.aload_n 0, 1) := by decide +kernel
theorem d_Model_setLocals_21 : decode b_Model_setLocals 21 = .ok (.getfield 53, 3) := by decide +kernel
theorem d_Model_setLocals_24 : decode b_Model_setLocals 24 = .ok (.iload_n 2, 1) := by decide +kernel
theorem d_Model_setLocals_25 : decode b_Model_setLocals 25 = .ok (.iaload, 1) := by decide +kernel
theorem d_Model_setLocals_26 : decode b_Model_setLocals 26 = .ok (.iload_n 1, 1) := by decide +kernel
theorem d_Model_setLocals_27 : decode b_Model_setLocals 27 = .ok (.iadd, 1) := by decide +kernel
theorem d_Model_setLocals_28 : decode b_Model_setLocals 28 = .ok (.ldc 62, 2) := by decide +kernel
theorem d_Model_setLocals_30 : decode b_Model_setLocals 30 = .ok (.if_icmp .le 5, 3) := by decide +kernel
theorem d_Model_setLocals_33 : decode b_Model_setLocals 33 = .ok (.iconst 3, 1) := by decide +kernel
theorem d_Model_setLocals_34 : decode b_Model_setLocals 34 = .ok (.ireturn, 1) := by decide +kernel
theorem d_Model_setLocals_35 : decode b_Model_setLocals 35 = .ok (.aload_n 0, 1) := by decide +kernel
theorem d_Model_setLocals_36 : decode b_Model_setLocals 36 = .ok (.getfield 56, 3) := by decide +kernel
theorem d_Model_setLocals_39 : decode b_Model_setLocals 39 = .ok (.iload_n 2, 1) := by decide +kernel
theorem d_Model_setLocals_40 : decode b_Model_setLocals 40 = .ok (.iaload, 1) := by decide +kernel
theorem d_Model_setLocals_41 : decode b_Model_setLocals 41 = .ok (.istore_n 3, 1) := by decide +kernel
theorem d_Model_setLocals_42 : decode b_Model_setLocals 42 = .ok (.iload_n 3, 1) := by decide +kernel
theorem d_Model_setLocals_43 : decode b_Model_setLocals 43 = .ok (.iload_n 1, 1) := by decide +kernel
theorem d_Model_setLocals_44 : decode b_Model_setLocals 44 = .ok (.if_icmp .ge 37, 3) := by decide +kernel
theorem d_Model_setLocals_47 : decode b_Model_setLocals 47 = .ok (.aload_n 0, 1) := by decide +kernel
theorem d_Model_setLocals_48 : decode b_Model_setLocals 48 = .ok (.getfield 63, 3) := by decide +kernel
theorem d_Model_setLocals_51 : decode b_Model_setLocals 51 = .ok (.aload_n 0, 1) := by decide +kernel
theorem d_Model_setLocals_52 : decode b_Model_setLocals 52 = .ok (.getfield 53, 3) := by decide +kernel
theorem d_Model_setLocals_55 : decode b_Model_setLocals 55 = .ok (.iload_n 2, 1) := by decide +kernel
theorem d_Model_setLocals_56 : decode b_Model_setLocals 56 = .ok (.iaload, 1) := by decide +kernel
theorem d_Model_setLocals_57 : decode b_Model_setLocals 57 = .ok (.iload_n 3, 1) := by decide +kernel
theorem d_Model_setLocals_58 : decode b_Model_setLocals 58 = .ok (.iadd, 1) := by decide +kernel
theorem d_Model_setLocals_59 : decode b_Model_setLocals 59 = .ok (.iconst 0, 1) := by decide +kernel
theorem d_Model_setLocals_60 : decode b_Model_setLocals 60 = .ok (.iastore, 1) := by decide +kernel
theorem d_Model_setLocals_61 : decode b_Model_setLocals 61 = .ok (.aload_n 0, 1) := by decide +kernel
theorem d_Model_setLocals_62 : decode b_Model_setLocals 62 = .ok (.getfield 66, 3) := by decide +kernel
theorem d_Model_setLocals_65 : decode b_Model_setLocals 65 = .ok (.aload_n 0, 1) := by decide +kernel
theorem d_Model_setLocals_66 : decode b_Model_setLocals 66 = .ok (.getfield 53, 3) := by decide +kernel
theorem d_Model_setLocals_69 : decode b_Model_setLocals 69 = .ok (.iload_n 2, 1) := by decide +kernel
theorem d_Model_setLocals_70 : decode b_Model_setLocals 70 = .ok (.iaload, 1) := by decide +kernel
theorem d_Model_setLocals_71 : decode b_Model_setLocals 71 = .ok (.iload_n 3, 1) := by decide +kernel
theorem d_Model_setLocals_72 : decode b_Model_setLocals 72 = .ok (.iadd, 1) := by decide +kernel
theorem d_Model_setLocals_73 : decode b_Model_setLocals 73 = .ok (.iconst 0, 1) := by decide +kernel
theorem d_Model_setLocals_74 : decode b_Model_setLocals 74 = .ok (.iastore, 1) := by decide +kernel
theorem d_Model_setLocals_75 : decode b_Model_setLocals 75 = .ok (.iinc 3 1, 3) := by decide +kernel
theorem d_Model_setLocals_78 : decode b_Model_setLocals 78 = .ok (.goto (-36), 3) := by decide +kernel
theorem d_Model_setLocals_81 : decode b_Model_setLocals 81 = .ok (.aload_n 0, 1) := by decide +kernel
theorem d_Model_setLocals_82 : decode b_Model_setLocals 82 = .ok (.getfield 56, 3) := by decide +kernel
theorem d_Model_setLocals_85 : decode b_Model_setLocals 85 = .ok (.iload_n 2, 1) := by decide +kernel
theorem d_Model_setLocals_86 : decode b_Model_setLocals 86 = .ok (.iload_n 1, 1) := by decide +kernel
theorem d_Model_setLocals_87 : decode b_Model_setLocals 87 = .ok (.iastore, 1) := by decide +kernel
theorem d_Model_setLocals_88 : decode b_Model_setLocals 88 = .ok (.aload_n 0, 1) := by decide +kernel
theorem d_Model_setLocals_89 : decode b_Model_setLocals 89 = .ok (.aload_n 0, 1) := by decide +kernel
theorem d_Model_setLocals_90 : decode b_Model_setLocals 90 = .ok (.getfield 53, 3) := by decide +kernel
theorem d_Model_setLocals_93 : decode b_Model_setLocals 93 = .ok (.iload_n 2, 1) := by decide +kernel
theorem d_Model_setLocals_94 : decode b_Model_setLocals 94 = .ok (.iaload, 1) := by decide +kernel
theorem d_Model_setLocals_95 : decode b_Model_setLocals 95 = .ok (.iload_n 1, 1) := by decide +kernel
theorem d_Model_setLocals_96 : decode b_Model_setLocals 96 = .ok (.iadd, 1) := by decide +kernel
theorem d_Model_setLocals_97 : decode b_Model_setLocals 97 = .ok (.putfield 135, 3) := by decide +kernel
theorem d_Model_setLocals_100 : decode b_Model_setLocals 100 = .ok (.iconst 5, 1) := by decide +kernel
theorem d_Model_setLocals_101 : decode b_Model_setLocals 101 = .ok (.ireturn, 1) := by decide +kernel
theorem d_Model_swap_0 : decode b_Model_swap 0 = .ok (.aload_n 0, 1) := by decide +kernel
theorem d_Model_swap_1 : decode b_Model_swap 1 = .ok (.getfield 63, 3) := by decide +kernel
theorem d_Model_swap_4 : decode b_Model_swap 4 = .ok (.aload_n 0, 1) := by decide +kernel
theorem d_Model_swap_5 : decode b_Model_swap 5 = .ok (.getfield 135, 3) := by decide +kernel
theorem d_Model_swap_8 : decode b_Model_swap 8 = .ok (.iconst 1, 1) := by decide +kernel
theorem d_Model_swap_9 : decode b_Model_swap 9 = .ok (.isub, 1) := by decide +kernel
theorem d_Model_swap_10 : decode b_Model_swap 10 = .ok (.iaload, 1) := by decide +kernel
theorem d_Model_swap_11 : decode b_Model_swap 11 = .ok (.istore_n 1, 1) := by decide +kernel
theorem d_Model_swap_12 : decode b_Model_swap 12 = .ok (.aload_n 0, 1) := by decide +kernel
theorem d_Model_swap_13 : decode b_Model_swap 13 = .ok (.getfield 66, 3) := by decide +kernel
theorem d_Model_swap_16 : decode b_Model_swap 16 = .ok (.aload_n 0, 1) := by decide +kernel
theorem d_Model_swap_17 : decode b_Model_swap 17 = .ok (.getfield 135, 3) := by decide +kernel
theorem d_Model_swap_20 : decode b_Model_swap 20 = .ok (.iconst 1, 1) := by decide +kernel
theorem d_Model_swap_21 : decode b_Model_swap 21 = .ok (.isub, 1) := by decide +kernel
theorem d_Model_swap_22 : decode b_Model_swap 22 = .ok (.iaload, 1) := by decide +kernel
theorem d_Model_swap_23 : decode b_Model_swap 23 = .ok (.istore_n 2, 1) := by decide +kernel
theorem d_Model_swap_24 : decode b_Model_swap 24 = .ok (.aload_n 0, 1) := by decide +kernel
theorem d_Model_swap_25 : decode b_Model_swap 25 = .ok (.getfield 63, 3) := by decide +kernel
theorem d_Model_swap_28 : decode b_Model_swap 28 = .ok (.aload_n 0, 1) := by decide +kernel
theorem d_Model_swap_29 : decode b_Model_swap 29 = .ok (.getfield 135, 3) := by decide +kernel
theorem d_Model_swap_32 : decode b_Model_swap 32 = .ok (.iconst 1, 1) := by decide +kernel
theorem d_Model_swap_33 : decode b_Model_swap 33 = .ok (.isub, 1) := by decide +kernel
theorem d_Model_swap_34 : decode b_Model_swap 34 = .ok (.aload_n 0, 1) := by decide +kernel
theorem d_Model_swap_35 : decode b_Model_swap 35 = .ok (.getfield 63, 3) := by decide +kernel
theorem d_Model_swap_38 : decode b_Model_swap 38 = .ok (.aload_n 0, 1) := by decide +kernel
theorem d_Model_swap_39 : decode b_Model_swap 39 = .ok (.getfield 135, 3) := by decide +kernel
theorem d_Model_swap_42 : decode b_Model_swap 42 = .ok (.iconst 2, 1) := by decide +kernel
theorem d_Model_swap_43 : decode b_Model_swap 43 = .ok (.isub, 1) := by decide +kernel
theorem d_Model_swap_44 : decode b_Model_swap 44 = .ok (.iaload, 1) := by decide +kernel
theorem d_Model_swap_45 : decode b_Model_swap 45 = .ok (.iastore, 1) := by decide +kernel
theorem d_Model_swap_46 : decode b_Model_swap 46 = .ok (.aload_n 0, 1) := by decide +kernel
theorem d_Model_swap_47 : decode b_Model_swap 47 = .ok (.getfield 66, 3) := by decide +kernel
theorem d_Model_swap_50 : decode b_Model_swap 50 = .ok (.aload_n 0, 1) := by decide +kernel
theorem d_Model_swap_51 : decode b_Model_swap 51 = .ok (.getfield 135, 3) := by decide +kernel
theorem d_Model_swap_54 : decode b_Model_swap 54 = .ok (.iconst 1, 1) := by decide +kernel
theorem d_Model_swap_55 : decode b_Model_swap 55 = .ok (.isub, 1) := by decide +kernel
theorem d_Model_swap_56 : decode b_Model_swap 56 = .ok (.aload_n 0, 1) := by decide +kernel
theorem d_Model_swap_57 : decode b_Model_swap 57 = .ok (.getfield 66, 3) := by decide +kernel
theorem d_Model_swap_60 : decode b_Model_swap 60 = .ok (.aload_n 0, 1) := by decide +kernel
theorem d_Model_swap_61 : decode b_Model_swap 61 = .ok (.getfield 135, 3) := by decide +kernel
theorem d_Model_swap_64 : decode b_Model_swap 64 = .ok (.iconst 2, 1) := by decide +kernel
theorem d_Model_swap_65 : decode b_Model_swap 65 = .ok (.isub, 1) := by decide +kernel
theorem d_Model_swap_66 : decode b_Model_swap 66 = .ok (.iaload, 1) := by decide +kernel
theorem d_Model_swap_67 : decode b_Model_swap 67 = .ok (.iastore, 1) := by decide +kernel
theorem d_Model_swap_68 : decode b_Model_swap 68 = .ok (.aload_n 0, 1) := by decide +kernel
theorem d_Model_swap_69 : decode b_Model_swap 69 = .ok (.getfield 63, 3) := by decide +kernel
theorem d_Model_swap_72 : decode b_Model_swap 72 = .ok (.aload_n 0, 1) := by decide +kernel
theorem d_Model_swap_73 : decode b_Model_swap 73 = .ok (.getfield 135, 3) := by decide +kernel
theorem d_Model_swap_76 : decode b_Model_swap 76 = .ok (.iconst 2, 1) := by decide +kernel
theorem d_Model_swap_77 : decode b_Model_swap 77 = .ok (.isub, 1) := by decide +kernel
theorem d_Model_swap_78 : decode b_Model_swap 78 = .ok (.iload_n 1, 1) := by decide +kernel
theorem d_Model_swap_79 : decode b_Model_swap 79 = .ok (.iastore, 1) := by decide +kernel
theorem d_Model_swap_80 : decode b_Model_swap 80 = .ok (.aload_n 0, 1) := by decide +kernel
theorem d_Model_swap_81 : decode b_Model_swap 81 = .ok (.getfield 66, 3) := by decide +kernel
theorem d_Model_swap_84 : decode b_Model_swap 84 = .ok (.aload_n 0, 1) := by decide +kernel
theorem d_Model_swap_85 : decode b_Model_swap 85 = .ok (.getfield 135, 3) := by decide +kernel
theorem d_Model_swap_88 : decode b_Model_swap 88 = .ok (.iconst 2, 1) := by decide +kernel
theorem d_Model_swap_89 : decode b_Model_swap 89 = .ok (.isub, 1) := by decide +kernel
theorem d_Model_swap_90 : decode b_Model_swap 90 = .ok (.iload_n 2, 1) := by decide +kernel
theorem d_Model_swap_91 : decode b_Model_swap 91 = .ok (.iastore, 1) := by decide +kernel
theorem d_Model_swap_92 : decode b_Model_swap 92 = .ok (.iconst 5, 1) := by decide +kernel
theorem d_Model_swap_93 : decode b_Model_swap 93 = .ok (.ireturn, 1) := by decide +kernel
theorem k929 : Cond.code y_Model_numbers b_Model_numbers 8 (some .int) ∈ lw_g := kg (List.mem_append_right _ (List.mem_of_getElem? (i := 1423) (by decide +kernel))) rfl
theorem k930 : Cond.methodLink R_Model 353 y_Model_numbers ∈ lw_g := kg (List.mem_append_right _ (List.mem_of_getElem? (i := 1420) (by decide +kernel))) rfl
theorem k931 : Cond.instanceMethod y_Model_numbers ∈ lw_g := kg (List.mem_append_right _ (List.mem_of_getElem? (i := 1422) (by decide +kernel))) rfl
theorem k932 : Cond.selects R_Model y_Model_numbers y_Model_numbers ∈ lw_g := kg (List.mem_append_left _ (List.mem_of_getElem? (i := 89) (by decide +kernel))) rfl
set_option maxRecDepth 20000 in
theorem k933 : Cond.code y_Model_strings b_Model_strings 2 (some .int) ∈ lw_g := kg (List.mem_append_right _ (show _ ∈ tables_1 from List.mem_append_right _ (List.mem_append_right _ (List.mem_append_right _ (List.mem_append_right _ (List.mem_append_right _ (List.mem_append_right _ (List.mem_of_getElem? (i := 14) rfl)))))))) rfl
theorem k934 : Cond.methodLink R_Model 357 y_Model_strings ∈ lw_g := kg (List.mem_append_right _ (List.mem_of_getElem? (i := 1451) (by decide +kernel))) rfl
theorem k935 : Cond.instanceMethod y_Model_strings ∈ lw_g := kg (List.mem_append_right _ (List.mem_of_getElem? (i := 1453) (by decide +kernel))) rfl
theorem k936 : Cond.selects R_Model y_Model_strings y_Model_strings ∈ lw_g := kg (List.mem_append_left _ (List.mem_of_getElem? (i := 95) (by decide +kernel))) rfl
theorem k937 : Cond.fieldLink R_Model 92 "CellEngineModel" "mostDepth" "I" ∈ lw_g := kg (List.mem_append_right _ (List.mem_of_getElem? (i := 1064) (by decide +kernel))) rfl
theorem k938 : Cond.code y_Model_handle b_Model_handle 2 (some .int) ∈ lw_g := kg (List.mem_append_right _ (List.mem_of_getElem? (i := 1367) (by decide +kernel))) rfl
theorem k939 : Cond.methodLink R_Model 280 y_Model_handle ∈ lw_g := kg (List.mem_append_right _ (List.mem_of_getElem? (i := 1364) (by decide +kernel))) rfl
theorem k940 : Cond.instanceMethod y_Model_handle ∈ lw_g := kg (List.mem_append_right _ (List.mem_of_getElem? (i := 1366) (by decide +kernel))) rfl
theorem k941 : Cond.selects R_Model y_Model_handle y_Model_handle ∈ lw_g := kg (List.mem_append_left _ (List.mem_of_getElem? (i := 76) (by decide +kernel))) rfl
theorem k942 : Cond.code y_Model_name b_Model_name 2 (some .int) ∈ lw_g := kg (List.mem_append_right _ (List.mem_of_getElem? (i := 1379) (by decide +kernel))) rfl
theorem k943 : Cond.methodLink R_Model 290 y_Model_name ∈ lw_g := kg (List.mem_append_right _ (List.mem_of_getElem? (i := 1376) (by decide +kernel))) rfl
theorem k944 : Cond.instanceMethod y_Model_name ∈ lw_g := kg (List.mem_append_right _ (List.mem_of_getElem? (i := 1378) (by decide +kernel))) rfl
theorem k945 : Cond.selects R_Model y_Model_name y_Model_name ∈ lw_g := kg (List.mem_append_left _ (List.mem_of_getElem? (i := 79) (by decide +kernel))) rfl
theorem k946 : Cond.code y_Model_packet b_Model_packet 2 (some .int) ∈ lw_g := kg (List.mem_append_right _ (List.mem_of_getElem? (i := 1384) (by decide +kernel))) rfl
theorem k947 : Cond.methodLink R_Model 293 y_Model_packet ∈ lw_g := kg (List.mem_append_right _ (List.mem_of_getElem? (i := 1381) (by decide +kernel))) rfl
theorem k948 : Cond.instanceMethod y_Model_packet ∈ lw_g := kg (List.mem_append_right _ (List.mem_of_getElem? (i := 1383) (by decide +kernel))) rfl
theorem k949 : Cond.selects R_Model y_Model_packet y_Model_packet ∈ lw_g := kg (List.mem_append_left _ (List.mem_of_getElem? (i := 80) (by decide +kernel))) rfl
theorem k950 : Cond.code y_Model_isSame b_Model_isSame 3 (some .boolean) ∈ lw_g := kg (List.mem_append_right _ (List.mem_of_getElem? (i := 1388) (by decide +kernel))) rfl
theorem k951 : Cond.methodLink R_Model 296 y_Model_isSame ∈ lw_g := kg (List.mem_append_right _ (List.mem_of_getElem? (i := 1385) (by decide +kernel))) rfl
theorem k952 : Cond.instanceMethod y_Model_isSame ∈ lw_g := kg (List.mem_append_right _ (List.mem_of_getElem? (i := 1387) (by decide +kernel))) rfl
theorem k953 : Cond.selects R_Model y_Model_isSame y_Model_isSame ∈ lw_g := kg (List.mem_append_left _ (List.mem_of_getElem? (i := 81) (by decide +kernel))) rfl
theorem k954 : Cond.code y_Model_isEqual b_Model_isEqual 5 (some .boolean) ∈ lw_g := kg (List.mem_append_right _ (List.mem_of_getElem? (i := 1395) (by decide +kernel))) rfl
theorem k955 : Cond.methodLink R_Model 299 y_Model_isEqual ∈ lw_g := kg (List.mem_append_right _ (List.mem_of_getElem? (i := 1392) (by decide +kernel))) rfl
theorem k956 : Cond.instanceMethod y_Model_isEqual ∈ lw_g := kg (List.mem_append_right _ (List.mem_of_getElem? (i := 1394) (by decide +kernel))) rfl
theorem k957 : Cond.selects R_Model y_Model_isEqual y_Model_isEqual ∈ lw_g := kg (List.mem_append_left _ (List.mem_of_getElem? (i := 82) (by decide +kernel))) rfl
theorem k958 : Cond.code y_Model_primitive b_Model_primitive 4 (some .int) ∈ lw_g := kg (List.mem_append_right _ (List.mem_of_getElem? (i := 1419) (by decide +kernel))) rfl
theorem k959 : Cond.methodLink R_Model 302 y_Model_primitive ∈ lw_g := kg (List.mem_append_right _ (List.mem_of_getElem? (i := 1416) (by decide +kernel))) rfl
theorem k960 : Cond.instanceMethod y_Model_primitive ∈ lw_g := kg (List.mem_append_right _ (List.mem_of_getElem? (i := 1418) (by decide +kernel))) rfl
theorem k961 : Cond.selects R_Model y_Model_primitive y_Model_primitive ∈ lw_g := kg (List.mem_append_left _ (List.mem_of_getElem? (i := 88) (by decide +kernel))) rfl
theorem k962 : Cond.code y_Model_setLocals b_Model_setLocals 4 (some .int) ∈ lw_g := kg (List.mem_append_right _ (List.mem_of_getElem? (i := 1485) (by decide +kernel))) rfl
theorem k963 : Cond.methodLink R_Model 305 y_Model_setLocals ∈ lw_g := kg (List.mem_append_right _ (List.mem_of_getElem? (i := 1482) (by decide +kernel))) rfl
theorem k964 : Cond.instanceMethod y_Model_setLocals ∈ lw_g := kg (List.mem_append_right _ (List.mem_of_getElem? (i := 1484) (by decide +kernel))) rfl
theorem k965 : Cond.selects R_Model y_Model_setLocals y_Model_setLocals ∈ lw_g := kg (List.mem_append_left _ (List.mem_of_getElem? (i := 102) (by decide +kernel))) rfl
theorem k966 : Cond.code y_Model_swap b_Model_swap 3 (some .int) ∈ lw_g := kg (List.mem_append_right _ (List.mem_of_getElem? (i := 1489) (by decide +kernel))) rfl
theorem k967 : Cond.methodLink R_Model 308 y_Model_swap ∈ lw_g := kg (List.mem_append_right _ (List.mem_of_getElem? (i := 1486) (by decide +kernel))) rfl
theorem k968 : Cond.instanceMethod y_Model_swap ∈ lw_g := kg (List.mem_append_right _ (List.mem_of_getElem? (i := 1488) (by decide +kernel))) rfl
theorem k969 : Cond.selects R_Model y_Model_swap y_Model_swap ∈ lw_g := kg (List.mem_append_left _ (List.mem_of_getElem? (i := 103) (by decide +kernel))) rfl
set_option maxHeartbeats 4000000 in
set_option maxRecDepth 100000 in
theorem l_Model_primitive_1 {p : Program} {l : Launch} {e : Env} {s : State} {m : MethodId} {args : Array Value} {below : List Frame} {meth : Method} {c : Code} {Q : State → Prop} {A : Nat → Prop} (dC : Nat → ClassId) (dI : Nat → Nat → Nat) (N : Nat) (cB : ClassId) (cI : ClassId) (o_Model : Nat) (r : Nat → Nat) (I : Nat → Int32) (F : Nat → Nat → Int32) (p0 : Int32) {ζ : Type} {z : ζ} (hx : p.tables.exec = Jvm.exec) (hb : c.code = b_Model_primitive) (hml : c.maxLocals = 4) (hown : s.vm.findClass R_Model = some m.cls) (hg : ∀ w ∈ lw_g, w.before args s = true) (hN : dz_N s) (hK : va_K (dC, dI) classes [(cB, .byte), (cI, .int)] s) (hA : ∀ q : Nat, s.heap.size ≤ q → A q) {k1_57 : Int32 → Option (ζ)} (hk1_57 : ∀   (y1_0 : Int32)  (H : Heap) (locs : List Loc) (ls : Array Slot), k1_57 y1_0 = some z → va_P (dC, dI) classes (wD cB cI o_Model r I F) H → va_D A (wD cB cI o_Model r I F) → va_S A s.heap H locs → lv_has ls 4 [(0, .ref o_Model), (1, .int p0)] → W p l e ({ frames := 10, cells := 0, slots := 0, locals := 227 } : Room) s m args below meth c H locs 0 0 Q (F0 m 57 ls [.int y1_0])) : ∀    (H : Heap) (locs : List Loc) (ls : Array Slot), lm_Model_primitive_1 N p0 k1_57  = some z → va_P (dC, dI) classes (wD cB cI o_Model r I F) H → va_D A (wD cB cI o_Model r I F) → va_S A s.heap H locs → lv_has ls 4 [(0, .ref o_Model), (1, .int p0)] → W p l e ({ frames := 10, cells := 0, slots := 0, locals := 227 } : Room) s m args below meth c H locs 0 0 Q (F0 m 12 ls []) := by
  intro H locs ls h hP hD hS hl
  unfold lm_Model_primitive_1 at h
  refine lv_iload_n hx hb d_Model_primitive_12 rfl (lv_at hl 1 rfl) ?_
  refine lv_iconst (v := 3) hx hb d_Model_primitive_13 (by decide) ?_
  refine lv_icmp_eq (tgt := 52) hx hb d_Model_primitive_14 (by decide) (fun c3 => ?_) (fun c3 => ?_)
  · rw [if_pos c3] at h
    refine lv_iconst (v := 1) hx hb d_Model_primitive_52 (by decide) ?_
    refine lv_goto (tgt := 57) hx hb d_Model_primitive_53 (by decide) ?_
    exact hk1_57 (1 : Int32) _ _ _ h hP hD hS (lv_sub hl [0, 1] rfl)
  · rw [if_neg c3] at h
    refine lv_iload_n hx hb d_Model_primitive_17 rfl (lv_at hl 1 rfl) ?_
    refine lv_iconst (v := 4) hx hb d_Model_primitive_18 (by decide) ?_
    refine lv_icmp_eq (tgt := 52) hx hb d_Model_primitive_19 (by decide) (fun c4 => ?_) (fun c4 => ?_)
    · rw [if_pos c4] at h
      refine lv_iconst (v := 1) hx hb d_Model_primitive_52 (by decide) ?_
      refine lv_goto (tgt := 57) hx hb d_Model_primitive_53 (by decide) ?_
      exact hk1_57 (1 : Int32) _ _ _ h hP hD hS (lv_sub hl [0, 1] rfl)
    · rw [if_neg c4] at h
      refine lv_iload_n hx hb d_Model_primitive_22 rfl (lv_at hl 1 rfl) ?_
      refine lv_bipush (v := 23) hx hb d_Model_primitive_23 (by decide) ?_
      refine lv_icmp_eq (tgt := 52) hx hb d_Model_primitive_25 (by decide) (fun c5 => ?_) (fun c5 => ?_)
      · rw [if_pos c5] at h
        refine lv_iconst (v := 1) hx hb d_Model_primitive_52 (by decide) ?_
        refine lv_goto (tgt := 57) hx hb d_Model_primitive_53 (by decide) ?_
        exact hk1_57 (1 : Int32) _ _ _ h hP hD hS (lv_sub hl [0, 1] rfl)
      · rw [if_neg c5] at h
        refine lv_iload_n hx hb d_Model_primitive_28 rfl (lv_at hl 1 rfl) ?_
        refine lv_bipush (v := 26) hx hb d_Model_primitive_29 (by decide) ?_
        refine lv_icmp_eq (tgt := 52) hx hb d_Model_primitive_31 (by decide) (fun c6 => ?_) (fun c6 => ?_)
        · rw [if_pos c6] at h
          refine lv_iconst (v := 1) hx hb d_Model_primitive_52 (by decide) ?_
          refine lv_goto (tgt := 57) hx hb d_Model_primitive_53 (by decide) ?_
          exact hk1_57 (1 : Int32) _ _ _ h hP hD hS (lv_sub hl [0, 1] rfl)
        · rw [if_neg c6] at h
          refine lv_iload_n hx hb d_Model_primitive_34 rfl (lv_at hl 1 rfl) ?_
          refine lv_bipush (v := 28) hx hb d_Model_primitive_35 (by decide) ?_
          refine lv_icmp_eq (tgt := 52) hx hb d_Model_primitive_37 (by decide) (fun c7 => ?_) (fun c7 => ?_)
          · rw [if_pos c7] at h
            refine lv_iconst (v := 1) hx hb d_Model_primitive_52 (by decide) ?_
            refine lv_goto (tgt := 57) hx hb d_Model_primitive_53 (by decide) ?_
            exact hk1_57 (1 : Int32) _ _ _ h hP hD hS (lv_sub hl [0, 1] rfl)
          · rw [if_neg c7] at h
            refine lv_iload_n hx hb d_Model_primitive_40 rfl (lv_at hl 1 rfl) ?_
            refine lv_bipush (v := 29) hx hb d_Model_primitive_41 (by decide) ?_
            refine lv_icmp_eq (tgt := 52) hx hb d_Model_primitive_43 (by decide) (fun c8 => ?_) (fun c8 => ?_)
            · rw [if_pos c8] at h
              refine lv_iconst (v := 1) hx hb d_Model_primitive_52 (by decide) ?_
              refine lv_goto (tgt := 57) hx hb d_Model_primitive_53 (by decide) ?_
              exact hk1_57 (1 : Int32) _ _ _ h hP hD hS (lv_sub hl [0, 1] rfl)
            · rw [if_neg c8] at h
              refine lv_iload_n hx hb d_Model_primitive_46 rfl (lv_at hl 1 rfl) ?_
              refine lv_bipush (v := 36) hx hb d_Model_primitive_47 (by decide) ?_
              refine lv_icmp_le (tgt := 56) hx hb d_Model_primitive_49 (by decide) (fun c9 => ?_) (fun c9 => ?_)
              · rw [if_pos c9] at h
                refine lv_iconst (v := 0) hx hb d_Model_primitive_56 (by decide) ?_
                exact hk1_57 (0 : Int32) _ _ _ h hP hD hS (lv_sub hl [0, 1] rfl)
              · rw [if_neg c9] at h
                refine lv_iconst (v := 1) hx hb d_Model_primitive_52 (by decide) ?_
                refine lv_goto (tgt := 57) hx hb d_Model_primitive_53 (by decide) ?_
                exact hk1_57 (1 : Int32) _ _ _ h hP hD hS (lv_sub hl [0, 1] rfl)
set_option maxHeartbeats 4000000 in
set_option maxRecDepth 100000 in
theorem l_Model_primitive_2 {p : Program} {l : Launch} {e : Env} {s : State} {m : MethodId} {args : Array Value} {below : List Frame} {meth : Method} {c : Code} {Q : State → Prop} {A : Nat → Prop} (dC : Nat → ClassId) (dI : Nat → Nat → Nat) (N : Nat) (cB : ClassId) (cI : ClassId) (o_Model : Nat) (r : Nat → Nat) (I : Nat → Int32) (F : Nat → Nat → Int32) (p0 : Int32) (y1_0 : Int32) {ζ : Type} {z : ζ} (hx : p.tables.exec = Jvm.exec) (hb : c.code = b_Model_primitive) (hml : c.maxLocals = 4) (hown : s.vm.findClass R_Model = some m.cls) (hg : ∀ w ∈ lw_g, w.before args s = true) (hN : dz_N s) (hK : va_K (dC, dI) classes [(cB, .byte), (cI, .int)] s) (hA : ∀ q : Nat, s.heap.size ≤ q → A q) {k2_77 : Int32 → Option (ζ)} (hk2_77 : ∀   (y2_0 : Int32)  (H : Heap) (locs : List Loc) (ls : Array Slot), k2_77 y2_0 = some z → va_P (dC, dI) classes (wD cB cI o_Model r I F) H → va_D A (wD cB cI o_Model r I F) → va_S A s.heap H locs → lv_has ls 4 [(2, .int y1_0), (0, .ref o_Model), (1, .int p0)] → W p l e ({ frames := 10, cells := 0, slots := 0, locals := 227 } : Room) s m args below meth c H locs 0 0 Q (F0 m 77 ls [.int y2_0])) : ∀    (H : Heap) (locs : List Loc) (ls : Array Slot), lm_Model_primitive_2 N p0 y1_0 k2_77  = some z → va_P (dC, dI) classes (wD cB cI o_Model r I F) H → va_D A (wD cB cI o_Model r I F) → va_S A s.heap H locs → lv_has ls 4 [(2, .int y1_0), (0, .ref o_Model), (1, .int p0)] → W p l e ({ frames := 10, cells := 0, slots := 0, locals := 227 } : Room) s m args below meth c H locs 0 0 Q (F0 m 58 ls []) := by
  intro H locs ls h hP hD hS hl
  unfold lm_Model_primitive_2 at h
  refine lv_iload_n hx hb d_Model_primitive_58 rfl (lv_at hl 0 rfl) ?_
  refine lv_if_eq (tgt := 66) hx hb d_Model_primitive_59 (by decide) (fun c10 => ?_) (fun c10 => ?_)
  · rw [if_pos c10] at h
    refine lv_iload_n hx hb d_Model_primitive_66 rfl (lv_at hl 2 rfl) ?_
    refine lv_bipush (v := 30) hx hb d_Model_primitive_67 (by decide) ?_
    refine lv_icmp_ne (tgt := 76) hx hb d_Model_primitive_69 (by decide) (fun c11 => ?_) (fun c11 => ?_)
    · rw [if_neg c11] at h
      refine lv_iconst (v := 2) hx hb d_Model_primitive_76 (by decide) ?_
      exact hk2_77 (2 : Int32) _ _ _ h hP hD hS (lv_sub hl [0, 1, 2] rfl)
    · rw [if_pos c11] at h
      refine lv_iconst (v := 3) hx hb d_Model_primitive_72 (by decide) ?_
      refine lv_goto (tgt := 77) hx hb d_Model_primitive_73 (by decide) ?_
      exact hk2_77 (3 : Int32) _ _ _ h hP hD hS (lv_sub hl [0, 1, 2] rfl)
  · rw [if_neg c10] at h
    refine lv_iconst (v := 1) hx hb d_Model_primitive_62 (by decide) ?_
    refine lv_goto (tgt := 77) hx hb d_Model_primitive_63 (by decide) ?_
    exact hk2_77 (1 : Int32) _ _ _ h hP hD hS (lv_sub hl [0, 1, 2] rfl)
set_option maxHeartbeats 4000000 in
set_option maxRecDepth 100000 in
theorem c_Model_primitive (l : Launch) (dC : Nat → ClassId) (dI : Nat → Nat → Nat) (N : Nat) (cB : ClassId) (cI : ClassId) (o_Model : Nat) (r : Nat → Nat) (I : Nat → Int32) (F : Nat → Nat → Int32) (p0 : Int32) (sz : Nat) (z : Int32 × (Nat → Nat → Int32) × (Nat → Int32)) (h : m_Model_primitive N I F p0 = some z) : Met l y_Model_primitive (.code y_Model_primitive b_Model_primitive 4 (some .int) :: lw_g) ({ frames := 10, cells := 0, slots := 0, locals := 227 }) (va_Pc [.ref o_Model, .int p0] (fun U => dz_N U ∧ U.heap.size = sz ∧ va_P (dC, dI) classes (wD cB cI o_Model r I F) U.heap ∧ va_K (dC, dI) classes [(cB, .byte), (cI, .int)] U ∧ va_D (fun _ => True) (wD cB cI o_Model r I F))) (va_Qi (fun (r : Int32) (_ : Unit) => r = z.1) (fun (u : Unit) t => va_P (dC, dI) classes (wD cB cI o_Model r z.2.2 z.2.1) t.heap ∧ va_K (dC, dI) classes [(cB, .byte), (cI, .int)] t ∧ va_D (va_A (wD cB cI o_Model r I F) sz) (wD cB cI o_Model r z.2.2 z.2.1)) (va_A (wD cB cI o_Model r I F) sz)) 0 0 (va_A (wD cB cI o_Model r I F) sz) := by
  refine Met.ofW (cc := b_Model_primitive) (maxL := 4) (ret := (some .int)) (by decide +kernel) rfl ?_
  intro p e s m args below meth c s₁ B hml hv
  obtain ⟨rfl, hN, hsz, hP, hK, hD0⟩ := hv
  have hx := B.exec
  have hb := B.bytes
  have hr := B.returns
  have hg : ∀ w ∈ lw_g, w.before _ s = true := fun w hw => atoms_spec (ws := .code y_Model_primitive b_Model_primitive 4 (some .int) :: lw_g) B.pre w (List.mem_cons_of_mem _ hw)
  have hown : s.vm.findClass R_Model = some m.cls := findClass_of_methodNamed B.named
  have hlocks := B.notSynchronized
  clear B
  subst hsz
  have hD := hD0.self (sz := s.heap.size)
  generalize hAe : va_A (wD cB cI o_Model r I F) s.heap.size = A at hD ⊢
  have hA : ∀ q : Nat, s.heap.size ≤ q → A q := fun q h => by rw [← hAe]; exact Or.inr h
  have hS : va_S A s.heap s.heap [] := va_S.rf
  have hP : va_P (dC, dI) classes (wD cB cI o_Model r I F) s.heap := hP
  have hl := lv_entry ([.ref o_Model, .int p0]) (n := 4) (Nat.le_of_ble_eq_true rfl)
  rw [lg_entry_eq]
  generalize (lg_sl ([.ref o_Model, .int p0]) ++ List.replicate (4 - (lg_sl ([.ref o_Model, .int p0])).length) Slot.unset).toArray = ls at hl ⊢
  have hl : lv_has ls 4 [(0, .ref o_Model), (1, .int p0)] := hl
  unfold m_Model_primitive at h
  refine lv_iload_n hx hb d_Model_primitive_0 rfl (lv_at hl 1 rfl) ?_
  refine lv_if_lt (tgt := 10) hx hb d_Model_primitive_1 (by decide) (fun c1 => ?_) (fun c1 => ?_)
  · rw [if_pos c1] at h
    refine lv_iconst (v := 4) hx hb d_Model_primitive_10 (by decide) ?_
    obtain rfl := Option.some.inj h
    have hP9 := hP
    have hD9 := hD
    have hK9 := hK
    exact W.iret (v := 4) hx hb hr (fun t ht hW => ⟨⟨4, (), rfl, rfl, by rw [ht]; exact hP9, va_K.moved hW.alike hK9, hD9⟩, hS.F ht⟩) hS.2.2 d_Model_primitive_11
  · rw [if_neg c1] at h
    refine lv_iload_n hx hb d_Model_primitive_4 rfl (lv_at hl 1 rfl) ?_
    refine lv_bipush (v := 41) hx hb d_Model_primitive_5 (by decide) ?_
    refine lv_icmp_le (tgt := 12) hx hb d_Model_primitive_7 (by decide) (fun c2 => ?_) (fun c2 => ?_)
    · rw [if_pos c2] at h
      refine l_Model_primitive_1 dC dI N cB cI o_Model r I F p0 hx hb hml hown hg hN hK hA (fun y1_0 H locs ls h hP hD hS hl => ?_)  _ _ _ h hP hD hS (lv_sub hl [0, 1] rfl)
      refine lv_istore_n (lv' := [(2, .int y1_0), (0, .ref o_Model), (1, .int p0)]) hx hb d_Model_primitive_57 rfl hl (by decide) rfl (fun ls hl => ?_)
      refine l_Model_primitive_2 dC dI N cB cI o_Model r I F p0 y1_0 hx hb hml hown hg hN hK hA (fun y2_0 H locs ls h hP hD hS hl => ?_)  _ _ _ h hP hD hS (lv_sub hl [0, 1, 2] rfl)
      refine lv_istore_n (lv' := [(3, .int y2_0), (2, .int y1_0), (0, .ref o_Model), (1, .int p0)]) hx hb d_Model_primitive_77 rfl hl (by decide) rfl (fun ls hl => ?_)
      refine lv_aload_n hx hb d_Model_primitive_78 rfl (lv_at hl 2 rfl) ?_
      obtain ⟨z12_1, hc12, h⟩ := dz_ob h
      try dsimp only at h
      have hPc := hP
      have hKc := hK
      refine vp_callSi (va_Run.run (va_runV (As := []) (rest := []) ⟨hx, hb, hml, hown, hg⟩ (c_Model_height l dC dI N cB cI o_Model r I F z12_1 hc12) (cwV 0 hg (gd_V k829 k830 k831 k707 k828) rfl rfl rfl (by decide +kernel) ⟨Nat.le_of_ble_eq_true rfl, Nat.le_of_ble_eq_true rfl⟩) ⟨dz_blindR, va_recv hKc hPc (ci := 10) (q0 := 0) rfl rfl, fun U hU hW => ⟨rfl, dz_Nw hW hN, by rw [hU]; exact hPc, va_K.moved hW.alike hKc⟩⟩ rfl rfl hl.1 rfl (lv_room (Nat.le_of_ble_eq_true rfl)) d_Model_primitive_79 ⟨Nat.le_of_ble_eq_true rfl, Nat.le_of_ble_eq_true rfl⟩)) (fun r12 hw => ?_)
      have hw : z12_1 = r12 := hw.symm
      subst hw
      refine lv_iload_n hx hb d_Model_primitive_82 rfl (lv_at hl 0 rfl) ?_
      refine lv_icmp_ge (tgt := 88) hx hb d_Model_primitive_83 (by decide) (fun c13 => ?_) (fun c13 => ?_)
      · rw [if_pos c13] at h
        refine lv_iload_n hx hb d_Model_primitive_88 rfl (lv_at hl 3 rfl) ?_
        refine lv_bipush (v := 27) hx hb d_Model_primitive_89 (by decide) ?_
        refine lv_icmp_lt (tgt := 112) hx hb d_Model_primitive_91 (by decide) (fun c14 => ?_) (fun c14 => ?_)
        · rw [if_pos c14] at h
          refine lv_aload_n hx hb d_Model_primitive_112 rfl (lv_at hl 2 rfl) ?_
          refine lv_iconst (v := 1) hx hb d_Model_primitive_113 (by decide) ?_
          obtain ⟨z15_1, hc15, h⟩ := dz_ob h
          try dsimp only at h
          have hPc := hP
          have hKc := hK
          refine vp_callSi (va_Run.run (va_runV (As := [.int 1]) (rest := []) ⟨hx, hb, hml, hown, hg⟩ (c_Model_isScalar l dC dI N cB cI o_Model r I F (1 : Int32) z15_1 hc15) (cwV 1 hg (gd_V k818 k819 k820 k707 k817) rfl rfl rfl (by decide +kernel) ⟨Nat.le_of_ble_eq_true rfl, Nat.le_of_ble_eq_true rfl⟩) ⟨dz_blindR, va_recv hKc hPc (ci := 10) (q0 := 0) rfl rfl, fun U hU hW => ⟨rfl, dz_Nw hW hN, by rw [hU]; exact hPc, va_K.moved hW.alike hKc⟩⟩ rfl rfl hl.1 rfl (lv_room (Nat.le_of_ble_eq_true rfl)) d_Model_primitive_114 ⟨Nat.le_of_ble_eq_true rfl, Nat.le_of_ble_eq_true rfl⟩)) (fun r15 hw => ?_)
          obtain ⟨hw, hbz15⟩ := hw
          have hw : z15_1 = r15 := hw.symm
          subst hw
          refine lv_if_eq (tgt := 141) hx hb d_Model_primitive_117 (by decide) (fun c16 => ?_) (fun c16 => ?_)
          · rw [if_pos c16] at h
            refine lv_iconst (v := 4) hx hb d_Model_primitive_141 (by decide) ?_
            obtain rfl := Option.some.inj h
            have hP9 := hP
            have hD9 := hD
            have hK9 := hK
            exact W.iret (v := 4) hx hb hr (fun t ht hW => ⟨⟨4, (), rfl, rfl, by rw [ht]; exact hP9, va_K.moved hW.alike hK9, hD9⟩, hS.F ht⟩) hS.2.2 d_Model_primitive_142
          · rw [if_neg c16] at h
            refine lv_iload_n hx hb d_Model_primitive_120 rfl (lv_at hl 1 rfl) ?_
            refine lv_if_ne (tgt := 132) hx hb d_Model_primitive_121 (by decide) (fun c17 => ?_) (fun c17 => ?_)
            · rw [if_neg c17] at h
              refine lv_aload_n hx hb d_Model_primitive_132 rfl (lv_at hl 2 rfl) ?_
              refine lv_iload_n hx hb d_Model_primitive_133 rfl (lv_at hl 3 rfl) ?_
              refine lv_iload_n hx hb d_Model_primitive_134 rfl (lv_at hl 1 rfl) ?_
              obtain ⟨⟨z18_1, z18_2, z18_3⟩, hc18, h⟩ := dz_ob h
              try dsimp only at h
              have hPc := hP
              have hKc := hK
              have hDc := hD
              have hFc := dz_freeall hD hS hA
              refine va_calli (va_runV (As := [.int p0, .int y1_0]) (rest := []) ⟨hx, hb, hml, hown, hg⟩ (c_Model_numbers l dC dI N cB cI o_Model r I F p0 y1_0 H.size (z18_1, z18_2, z18_3) hc18) (cwV 2 hg (gd_V k930 k931 k932 k707 k929) rfl rfl rfl (by decide +kernel) ⟨Nat.le_of_ble_eq_true rfl, Nat.le_of_ble_eq_true rfl⟩) ⟨dz_blind, va_recv hKc hPc (ci := 10) (q0 := 0) rfl rfl, fun U hU hW => ⟨rfl, dz_Nw hW hN, by rw [hU], by rw [hU]; exact hPc, va_K.moved hW.alike hKc, hDc.weaken (fun _ _ _ _ => trivial)⟩⟩ rfl rfl hl.1 rfl (lv_room (Nat.le_of_ble_eq_true rfl)) d_Model_primitive_135 ⟨Nat.le_of_ble_eq_true rfl, Nat.le_of_ble_eq_true rfl⟩) hS (fun q _ h => hFc q h) hFc (fun r18 u18 t18 H1 locs ht hvm hw hB hz1 hk1 hS => ?_)
              obtain ⟨hP1, hK1, hD1⟩ := hB
              rw [ht] at hP1
              have hP := hP1
              have hD := hD1.weaken (fun _ q _ h => hFc q.1 h)
              have hw : z18_1 = r18 := hw.symm
              subst hw
              generalize H1 = H at hP hS ⊢
              have hP : va_P (dC, dI) classes (wD cB cI o_Model r z18_3 z18_2) H := hP
              have hD : va_D A (wD cB cI o_Model r z18_3 z18_2) := hD
              refine lv_goto (tgt := 142) hx hb d_Model_primitive_138 (by decide) ?_
              obtain rfl := Option.some.inj h
              have hP9 := hP
              have hD9 := hD
              have hK9 := hK
              exact W.iret (v := z18_1) hx hb hr (fun t ht hW => ⟨⟨z18_1, (), rfl, rfl, by rw [ht]; exact hP9, va_K.moved hW.alike hK9, hD9⟩, hS.F ht⟩) hS.2.2 d_Model_primitive_142
            · rw [if_pos c17] at h
              refine lv_aload_n hx hb d_Model_primitive_124 rfl (lv_at hl 2 rfl) ?_
              refine lv_iconst (v := 2) hx hb d_Model_primitive_125 (by decide) ?_
              obtain ⟨z19_1, hc19, h⟩ := dz_ob h
              try dsimp only at h
              have hPc := hP
              have hKc := hK
              refine vp_callSi (va_Run.run (va_runV (As := [.int 2]) (rest := []) ⟨hx, hb, hml, hown, hg⟩ (c_Model_isScalar l dC dI N cB cI o_Model r I F (2 : Int32) z19_1 hc19) (cwV 1 hg (gd_V k818 k819 k820 k707 k817) rfl rfl rfl (by decide +kernel) ⟨Nat.le_of_ble_eq_true rfl, Nat.le_of_ble_eq_true rfl⟩) ⟨dz_blindR, va_recv hKc hPc (ci := 10) (q0 := 0) rfl rfl, fun U hU hW => ⟨rfl, dz_Nw hW hN, by rw [hU]; exact hPc, va_K.moved hW.alike hKc⟩⟩ rfl rfl hl.1 rfl (lv_room (Nat.le_of_ble_eq_true rfl)) d_Model_primitive_126 ⟨Nat.le_of_ble_eq_true rfl, Nat.le_of_ble_eq_true rfl⟩)) (fun r19 hw => ?_)
              obtain ⟨hw, hbz19⟩ := hw
              have hw : z19_1 = r19 := hw.symm
              subst hw
              refine lv_if_eq (tgt := 141) hx hb d_Model_primitive_129 (by decide) (fun c20 => ?_) (fun c20 => ?_)
              · rw [if_pos c20] at h
                refine lv_iconst (v := 4) hx hb d_Model_primitive_141 (by decide) ?_
                obtain rfl := Option.some.inj h
                have hP9 := hP
                have hD9 := hD
                have hK9 := hK
                exact W.iret (v := 4) hx hb hr (fun t ht hW => ⟨⟨4, (), rfl, rfl, by rw [ht]; exact hP9, va_K.moved hW.alike hK9, hD9⟩, hS.F ht⟩) hS.2.2 d_Model_primitive_142
              · rw [if_neg c20] at h
                refine lv_aload_n hx hb d_Model_primitive_132 rfl (lv_at hl 2 rfl) ?_
                refine lv_iload_n hx hb d_Model_primitive_133 rfl (lv_at hl 3 rfl) ?_
                refine lv_iload_n hx hb d_Model_primitive_134 rfl (lv_at hl 1 rfl) ?_
                obtain ⟨⟨z21_1, z21_2, z21_3⟩, hc21, h⟩ := dz_ob h
                try dsimp only at h
                have hPc := hP
                have hKc := hK
                have hDc := hD
                have hFc := dz_freeall hD hS hA
                refine va_calli (va_runV (As := [.int p0, .int y1_0]) (rest := []) ⟨hx, hb, hml, hown, hg⟩ (c_Model_numbers l dC dI N cB cI o_Model r I F p0 y1_0 H.size (z21_1, z21_2, z21_3) hc21) (cwV 2 hg (gd_V k930 k931 k932 k707 k929) rfl rfl rfl (by decide +kernel) ⟨Nat.le_of_ble_eq_true rfl, Nat.le_of_ble_eq_true rfl⟩) ⟨dz_blind, va_recv hKc hPc (ci := 10) (q0 := 0) rfl rfl, fun U hU hW => ⟨rfl, dz_Nw hW hN, by rw [hU], by rw [hU]; exact hPc, va_K.moved hW.alike hKc, hDc.weaken (fun _ _ _ _ => trivial)⟩⟩ rfl rfl hl.1 rfl (lv_room (Nat.le_of_ble_eq_true rfl)) d_Model_primitive_135 ⟨Nat.le_of_ble_eq_true rfl, Nat.le_of_ble_eq_true rfl⟩) hS (fun q _ h => hFc q h) hFc (fun r21 u21 t21 H1 locs ht hvm hw hB hz1 hk1 hS => ?_)
                obtain ⟨hP1, hK1, hD1⟩ := hB
                rw [ht] at hP1
                have hP := hP1
                have hD := hD1.weaken (fun _ q _ h => hFc q.1 h)
                have hw : z21_1 = r21 := hw.symm
                subst hw
                generalize H1 = H at hP hS ⊢
                have hP : va_P (dC, dI) classes (wD cB cI o_Model r z21_3 z21_2) H := hP
                have hD : va_D A (wD cB cI o_Model r z21_3 z21_2) := hD
                refine lv_goto (tgt := 142) hx hb d_Model_primitive_138 (by decide) ?_
                obtain rfl := Option.some.inj h
                have hP9 := hP
                have hD9 := hD
                have hK9 := hK
                exact W.iret (v := z21_1) hx hb hr (fun t ht hW => ⟨⟨z21_1, (), rfl, rfl, by rw [ht]; exact hP9, va_K.moved hW.alike hK9, hD9⟩, hS.F ht⟩) hS.2.2 d_Model_primitive_142
        · rw [if_neg c14] at h
          refine lv_iload_n hx hb d_Model_primitive_94 rfl (lv_at hl 3 rfl) ?_
          refine lv_bipush (v := 29) hx hb d_Model_primitive_95 (by decide) ?_
          refine lv_icmp_eq (tgt := 112) hx hb d_Model_primitive_97 (by decide) (fun c22 => ?_) (fun c22 => ?_)
          · rw [if_pos c22] at h
            refine lv_aload_n hx hb d_Model_primitive_112 rfl (lv_at hl 2 rfl) ?_
            refine lv_iconst (v := 1) hx hb d_Model_primitive_113 (by decide) ?_
            obtain ⟨z23_1, hc23, h⟩ := dz_ob h
            try dsimp only at h
            have hPc := hP
            have hKc := hK
            refine vp_callSi (va_Run.run (va_runV (As := [.int 1]) (rest := []) ⟨hx, hb, hml, hown, hg⟩ (c_Model_isScalar l dC dI N cB cI o_Model r I F (1 : Int32) z23_1 hc23) (cwV 1 hg (gd_V k818 k819 k820 k707 k817) rfl rfl rfl (by decide +kernel) ⟨Nat.le_of_ble_eq_true rfl, Nat.le_of_ble_eq_true rfl⟩) ⟨dz_blindR, va_recv hKc hPc (ci := 10) (q0 := 0) rfl rfl, fun U hU hW => ⟨rfl, dz_Nw hW hN, by rw [hU]; exact hPc, va_K.moved hW.alike hKc⟩⟩ rfl rfl hl.1 rfl (lv_room (Nat.le_of_ble_eq_true rfl)) d_Model_primitive_114 ⟨Nat.le_of_ble_eq_true rfl, Nat.le_of_ble_eq_true rfl⟩)) (fun r23 hw => ?_)
            obtain ⟨hw, hbz23⟩ := hw
            have hw : z23_1 = r23 := hw.symm
            subst hw
            refine lv_if_eq (tgt := 141) hx hb d_Model_primitive_117 (by decide) (fun c24 => ?_) (fun c24 => ?_)
            · rw [if_pos c24] at h
              refine lv_iconst (v := 4) hx hb d_Model_primitive_141 (by decide) ?_
              obtain rfl := Option.some.inj h
              have hP9 := hP
              have hD9 := hD
              have hK9 := hK
              exact W.iret (v := 4) hx hb hr (fun t ht hW => ⟨⟨4, (), rfl, rfl, by rw [ht]; exact hP9, va_K.moved hW.alike hK9, hD9⟩, hS.F ht⟩) hS.2.2 d_Model_primitive_142
            · rw [if_neg c24] at h
              refine lv_iload_n hx hb d_Model_primitive_120 rfl (lv_at hl 1 rfl) ?_
              refine lv_if_ne (tgt := 132) hx hb d_Model_primitive_121 (by decide) (fun c25 => ?_) (fun c25 => ?_)
              · rw [if_neg c25] at h
                refine lv_aload_n hx hb d_Model_primitive_132 rfl (lv_at hl 2 rfl) ?_
                refine lv_iload_n hx hb d_Model_primitive_133 rfl (lv_at hl 3 rfl) ?_
                refine lv_iload_n hx hb d_Model_primitive_134 rfl (lv_at hl 1 rfl) ?_
                obtain ⟨⟨z26_1, z26_2, z26_3⟩, hc26, h⟩ := dz_ob h
                try dsimp only at h
                have hPc := hP
                have hKc := hK
                have hDc := hD
                have hFc := dz_freeall hD hS hA
                refine va_calli (va_runV (As := [.int p0, .int y1_0]) (rest := []) ⟨hx, hb, hml, hown, hg⟩ (c_Model_numbers l dC dI N cB cI o_Model r I F p0 y1_0 H.size (z26_1, z26_2, z26_3) hc26) (cwV 2 hg (gd_V k930 k931 k932 k707 k929) rfl rfl rfl (by decide +kernel) ⟨Nat.le_of_ble_eq_true rfl, Nat.le_of_ble_eq_true rfl⟩) ⟨dz_blind, va_recv hKc hPc (ci := 10) (q0 := 0) rfl rfl, fun U hU hW => ⟨rfl, dz_Nw hW hN, by rw [hU], by rw [hU]; exact hPc, va_K.moved hW.alike hKc, hDc.weaken (fun _ _ _ _ => trivial)⟩⟩ rfl rfl hl.1 rfl (lv_room (Nat.le_of_ble_eq_true rfl)) d_Model_primitive_135 ⟨Nat.le_of_ble_eq_true rfl, Nat.le_of_ble_eq_true rfl⟩) hS (fun q _ h => hFc q h) hFc (fun r26 u26 t26 H1 locs ht hvm hw hB hz1 hk1 hS => ?_)
                obtain ⟨hP1, hK1, hD1⟩ := hB
                rw [ht] at hP1
                have hP := hP1
                have hD := hD1.weaken (fun _ q _ h => hFc q.1 h)
                have hw : z26_1 = r26 := hw.symm
                subst hw
                generalize H1 = H at hP hS ⊢
                have hP : va_P (dC, dI) classes (wD cB cI o_Model r z26_3 z26_2) H := hP
                have hD : va_D A (wD cB cI o_Model r z26_3 z26_2) := hD
                refine lv_goto (tgt := 142) hx hb d_Model_primitive_138 (by decide) ?_
                obtain rfl := Option.some.inj h
                have hP9 := hP
                have hD9 := hD
                have hK9 := hK
                exact W.iret (v := z26_1) hx hb hr (fun t ht hW => ⟨⟨z26_1, (), rfl, rfl, by rw [ht]; exact hP9, va_K.moved hW.alike hK9, hD9⟩, hS.F ht⟩) hS.2.2 d_Model_primitive_142
              · rw [if_pos c25] at h
                refine lv_aload_n hx hb d_Model_primitive_124 rfl (lv_at hl 2 rfl) ?_
                refine lv_iconst (v := 2) hx hb d_Model_primitive_125 (by decide) ?_
                obtain ⟨z27_1, hc27, h⟩ := dz_ob h
                try dsimp only at h
                have hPc := hP
                have hKc := hK
                refine vp_callSi (va_Run.run (va_runV (As := [.int 2]) (rest := []) ⟨hx, hb, hml, hown, hg⟩ (c_Model_isScalar l dC dI N cB cI o_Model r I F (2 : Int32) z27_1 hc27) (cwV 1 hg (gd_V k818 k819 k820 k707 k817) rfl rfl rfl (by decide +kernel) ⟨Nat.le_of_ble_eq_true rfl, Nat.le_of_ble_eq_true rfl⟩) ⟨dz_blindR, va_recv hKc hPc (ci := 10) (q0 := 0) rfl rfl, fun U hU hW => ⟨rfl, dz_Nw hW hN, by rw [hU]; exact hPc, va_K.moved hW.alike hKc⟩⟩ rfl rfl hl.1 rfl (lv_room (Nat.le_of_ble_eq_true rfl)) d_Model_primitive_126 ⟨Nat.le_of_ble_eq_true rfl, Nat.le_of_ble_eq_true rfl⟩)) (fun r27 hw => ?_)
                obtain ⟨hw, hbz27⟩ := hw
                have hw : z27_1 = r27 := hw.symm
                subst hw
                refine lv_if_eq (tgt := 141) hx hb d_Model_primitive_129 (by decide) (fun c28 => ?_) (fun c28 => ?_)
                · rw [if_pos c28] at h
                  refine lv_iconst (v := 4) hx hb d_Model_primitive_141 (by decide) ?_
                  obtain rfl := Option.some.inj h
                  have hP9 := hP
                  have hD9 := hD
                  have hK9 := hK
                  exact W.iret (v := 4) hx hb hr (fun t ht hW => ⟨⟨4, (), rfl, rfl, by rw [ht]; exact hP9, va_K.moved hW.alike hK9, hD9⟩, hS.F ht⟩) hS.2.2 d_Model_primitive_142
                · rw [if_neg c28] at h
                  refine lv_aload_n hx hb d_Model_primitive_132 rfl (lv_at hl 2 rfl) ?_
                  refine lv_iload_n hx hb d_Model_primitive_133 rfl (lv_at hl 3 rfl) ?_
                  refine lv_iload_n hx hb d_Model_primitive_134 rfl (lv_at hl 1 rfl) ?_
                  obtain ⟨⟨z29_1, z29_2, z29_3⟩, hc29, h⟩ := dz_ob h
                  try dsimp only at h
                  have hPc := hP
                  have hKc := hK
                  have hDc := hD
                  have hFc := dz_freeall hD hS hA
                  refine va_calli (va_runV (As := [.int p0, .int y1_0]) (rest := []) ⟨hx, hb, hml, hown, hg⟩ (c_Model_numbers l dC dI N cB cI o_Model r I F p0 y1_0 H.size (z29_1, z29_2, z29_3) hc29) (cwV 2 hg (gd_V k930 k931 k932 k707 k929) rfl rfl rfl (by decide +kernel) ⟨Nat.le_of_ble_eq_true rfl, Nat.le_of_ble_eq_true rfl⟩) ⟨dz_blind, va_recv hKc hPc (ci := 10) (q0 := 0) rfl rfl, fun U hU hW => ⟨rfl, dz_Nw hW hN, by rw [hU], by rw [hU]; exact hPc, va_K.moved hW.alike hKc, hDc.weaken (fun _ _ _ _ => trivial)⟩⟩ rfl rfl hl.1 rfl (lv_room (Nat.le_of_ble_eq_true rfl)) d_Model_primitive_135 ⟨Nat.le_of_ble_eq_true rfl, Nat.le_of_ble_eq_true rfl⟩) hS (fun q _ h => hFc q h) hFc (fun r29 u29 t29 H1 locs ht hvm hw hB hz1 hk1 hS => ?_)
                  obtain ⟨hP1, hK1, hD1⟩ := hB
                  rw [ht] at hP1
                  have hP := hP1
                  have hD := hD1.weaken (fun _ q _ h => hFc q.1 h)
                  have hw : z29_1 = r29 := hw.symm
                  subst hw
                  generalize H1 = H at hP hS ⊢
                  have hP : va_P (dC, dI) classes (wD cB cI o_Model r z29_3 z29_2) H := hP
                  have hD : va_D A (wD cB cI o_Model r z29_3 z29_2) := hD
                  refine lv_goto (tgt := 142) hx hb d_Model_primitive_138 (by decide) ?_
                  obtain rfl := Option.some.inj h
                  have hP9 := hP
                  have hD9 := hD
                  have hK9 := hK
                  exact W.iret (v := z29_1) hx hb hr (fun t ht hW => ⟨⟨z29_1, (), rfl, rfl, by rw [ht]; exact hP9, va_K.moved hW.alike hK9, hD9⟩, hS.F ht⟩) hS.2.2 d_Model_primitive_142
          · rw [if_neg c22] at h
            refine lv_iload_n hx hb d_Model_primitive_100 rfl (lv_at hl 3 rfl) ?_
            refine lv_bipush (v := 38) hx hb d_Model_primitive_101 (by decide) ?_
            refine lv_icmp_eq (tgt := 112) hx hb d_Model_primitive_103 (by decide) (fun c30 => ?_) (fun c30 => ?_)
            · rw [if_pos c30] at h
              refine lv_aload_n hx hb d_Model_primitive_112 rfl (lv_at hl 2 rfl) ?_
              refine lv_iconst (v := 1) hx hb d_Model_primitive_113 (by decide) ?_
              obtain ⟨z31_1, hc31, h⟩ := dz_ob h
              try dsimp only at h
              have hPc := hP
              have hKc := hK
              refine vp_callSi (va_Run.run (va_runV (As := [.int 1]) (rest := []) ⟨hx, hb, hml, hown, hg⟩ (c_Model_isScalar l dC dI N cB cI o_Model r I F (1 : Int32) z31_1 hc31) (cwV 1 hg (gd_V k818 k819 k820 k707 k817) rfl rfl rfl (by decide +kernel) ⟨Nat.le_of_ble_eq_true rfl, Nat.le_of_ble_eq_true rfl⟩) ⟨dz_blindR, va_recv hKc hPc (ci := 10) (q0 := 0) rfl rfl, fun U hU hW => ⟨rfl, dz_Nw hW hN, by rw [hU]; exact hPc, va_K.moved hW.alike hKc⟩⟩ rfl rfl hl.1 rfl (lv_room (Nat.le_of_ble_eq_true rfl)) d_Model_primitive_114 ⟨Nat.le_of_ble_eq_true rfl, Nat.le_of_ble_eq_true rfl⟩)) (fun r31 hw => ?_)
              obtain ⟨hw, hbz31⟩ := hw
              have hw : z31_1 = r31 := hw.symm
              subst hw
              refine lv_if_eq (tgt := 141) hx hb d_Model_primitive_117 (by decide) (fun c32 => ?_) (fun c32 => ?_)
              · rw [if_pos c32] at h
                refine lv_iconst (v := 4) hx hb d_Model_primitive_141 (by decide) ?_
                obtain rfl := Option.some.inj h
                have hP9 := hP
                have hD9 := hD
                have hK9 := hK
                exact W.iret (v := 4) hx hb hr (fun t ht hW => ⟨⟨4, (), rfl, rfl, by rw [ht]; exact hP9, va_K.moved hW.alike hK9, hD9⟩, hS.F ht⟩) hS.2.2 d_Model_primitive_142
              · rw [if_neg c32] at h
                refine lv_iload_n hx hb d_Model_primitive_120 rfl (lv_at hl 1 rfl) ?_
                refine lv_if_ne (tgt := 132) hx hb d_Model_primitive_121 (by decide) (fun c33 => ?_) (fun c33 => ?_)
                · rw [if_neg c33] at h
                  refine lv_aload_n hx hb d_Model_primitive_132 rfl (lv_at hl 2 rfl) ?_
                  refine lv_iload_n hx hb d_Model_primitive_133 rfl (lv_at hl 3 rfl) ?_
                  refine lv_iload_n hx hb d_Model_primitive_134 rfl (lv_at hl 1 rfl) ?_
                  obtain ⟨⟨z34_1, z34_2, z34_3⟩, hc34, h⟩ := dz_ob h
                  try dsimp only at h
                  have hPc := hP
                  have hKc := hK
                  have hDc := hD
                  have hFc := dz_freeall hD hS hA
                  refine va_calli (va_runV (As := [.int p0, .int y1_0]) (rest := []) ⟨hx, hb, hml, hown, hg⟩ (c_Model_numbers l dC dI N cB cI o_Model r I F p0 y1_0 H.size (z34_1, z34_2, z34_3) hc34) (cwV 2 hg (gd_V k930 k931 k932 k707 k929) rfl rfl rfl (by decide +kernel) ⟨Nat.le_of_ble_eq_true rfl, Nat.le_of_ble_eq_true rfl⟩) ⟨dz_blind, va_recv hKc hPc (ci := 10) (q0 := 0) rfl rfl, fun U hU hW => ⟨rfl, dz_Nw hW hN, by rw [hU], by rw [hU]; exact hPc, va_K.moved hW.alike hKc, hDc.weaken (fun _ _ _ _ => trivial)⟩⟩ rfl rfl hl.1 rfl (lv_room (Nat.le_of_ble_eq_true rfl)) d_Model_primitive_135 ⟨Nat.le_of_ble_eq_true rfl, Nat.le_of_ble_eq_true rfl⟩) hS (fun q _ h => hFc q h) hFc (fun r34 u34 t34 H1 locs ht hvm hw hB hz1 hk1 hS => ?_)
                  obtain ⟨hP1, hK1, hD1⟩ := hB
                  rw [ht] at hP1
                  have hP := hP1
                  have hD := hD1.weaken (fun _ q _ h => hFc q.1 h)
                  have hw : z34_1 = r34 := hw.symm
                  subst hw
                  generalize H1 = H at hP hS ⊢
                  have hP : va_P (dC, dI) classes (wD cB cI o_Model r z34_3 z34_2) H := hP
                  have hD : va_D A (wD cB cI o_Model r z34_3 z34_2) := hD
                  refine lv_goto (tgt := 142) hx hb d_Model_primitive_138 (by decide) ?_
                  obtain rfl := Option.some.inj h
                  have hP9 := hP
                  have hD9 := hD
                  have hK9 := hK
                  exact W.iret (v := z34_1) hx hb hr (fun t ht hW => ⟨⟨z34_1, (), rfl, rfl, by rw [ht]; exact hP9, va_K.moved hW.alike hK9, hD9⟩, hS.F ht⟩) hS.2.2 d_Model_primitive_142
                · rw [if_pos c33] at h
                  refine lv_aload_n hx hb d_Model_primitive_124 rfl (lv_at hl 2 rfl) ?_
                  refine lv_iconst (v := 2) hx hb d_Model_primitive_125 (by decide) ?_
                  obtain ⟨z35_1, hc35, h⟩ := dz_ob h
                  try dsimp only at h
                  have hPc := hP
                  have hKc := hK
                  refine vp_callSi (va_Run.run (va_runV (As := [.int 2]) (rest := []) ⟨hx, hb, hml, hown, hg⟩ (c_Model_isScalar l dC dI N cB cI o_Model r I F (2 : Int32) z35_1 hc35) (cwV 1 hg (gd_V k818 k819 k820 k707 k817) rfl rfl rfl (by decide +kernel) ⟨Nat.le_of_ble_eq_true rfl, Nat.le_of_ble_eq_true rfl⟩) ⟨dz_blindR, va_recv hKc hPc (ci := 10) (q0 := 0) rfl rfl, fun U hU hW => ⟨rfl, dz_Nw hW hN, by rw [hU]; exact hPc, va_K.moved hW.alike hKc⟩⟩ rfl rfl hl.1 rfl (lv_room (Nat.le_of_ble_eq_true rfl)) d_Model_primitive_126 ⟨Nat.le_of_ble_eq_true rfl, Nat.le_of_ble_eq_true rfl⟩)) (fun r35 hw => ?_)
                  obtain ⟨hw, hbz35⟩ := hw
                  have hw : z35_1 = r35 := hw.symm
                  subst hw
                  refine lv_if_eq (tgt := 141) hx hb d_Model_primitive_129 (by decide) (fun c36 => ?_) (fun c36 => ?_)
                  · rw [if_pos c36] at h
                    refine lv_iconst (v := 4) hx hb d_Model_primitive_141 (by decide) ?_
                    obtain rfl := Option.some.inj h
                    have hP9 := hP
                    have hD9 := hD
                    have hK9 := hK
                    exact W.iret (v := 4) hx hb hr (fun t ht hW => ⟨⟨4, (), rfl, rfl, by rw [ht]; exact hP9, va_K.moved hW.alike hK9, hD9⟩, hS.F ht⟩) hS.2.2 d_Model_primitive_142
                  · rw [if_neg c36] at h
                    refine lv_aload_n hx hb d_Model_primitive_132 rfl (lv_at hl 2 rfl) ?_
                    refine lv_iload_n hx hb d_Model_primitive_133 rfl (lv_at hl 3 rfl) ?_
                    refine lv_iload_n hx hb d_Model_primitive_134 rfl (lv_at hl 1 rfl) ?_
                    obtain ⟨⟨z37_1, z37_2, z37_3⟩, hc37, h⟩ := dz_ob h
                    try dsimp only at h
                    have hPc := hP
                    have hKc := hK
                    have hDc := hD
                    have hFc := dz_freeall hD hS hA
                    refine va_calli (va_runV (As := [.int p0, .int y1_0]) (rest := []) ⟨hx, hb, hml, hown, hg⟩ (c_Model_numbers l dC dI N cB cI o_Model r I F p0 y1_0 H.size (z37_1, z37_2, z37_3) hc37) (cwV 2 hg (gd_V k930 k931 k932 k707 k929) rfl rfl rfl (by decide +kernel) ⟨Nat.le_of_ble_eq_true rfl, Nat.le_of_ble_eq_true rfl⟩) ⟨dz_blind, va_recv hKc hPc (ci := 10) (q0 := 0) rfl rfl, fun U hU hW => ⟨rfl, dz_Nw hW hN, by rw [hU], by rw [hU]; exact hPc, va_K.moved hW.alike hKc, hDc.weaken (fun _ _ _ _ => trivial)⟩⟩ rfl rfl hl.1 rfl (lv_room (Nat.le_of_ble_eq_true rfl)) d_Model_primitive_135 ⟨Nat.le_of_ble_eq_true rfl, Nat.le_of_ble_eq_true rfl⟩) hS (fun q _ h => hFc q h) hFc (fun r37 u37 t37 H1 locs ht hvm hw hB hz1 hk1 hS => ?_)
                    obtain ⟨hP1, hK1, hD1⟩ := hB
                    rw [ht] at hP1
                    have hP := hP1
                    have hD := hD1.weaken (fun _ q _ h => hFc q.1 h)
                    have hw : z37_1 = r37 := hw.symm
                    subst hw
                    generalize H1 = H at hP hS ⊢
                    have hP : va_P (dC, dI) classes (wD cB cI o_Model r z37_3 z37_2) H := hP
                    have hD : va_D A (wD cB cI o_Model r z37_3 z37_2) := hD
                    refine lv_goto (tgt := 142) hx hb d_Model_primitive_138 (by decide) ?_
                    obtain rfl := Option.some.inj h
                    have hP9 := hP
                    have hD9 := hD
                    have hK9 := hK
                    exact W.iret (v := z37_1) hx hb hr (fun t ht hW => ⟨⟨z37_1, (), rfl, rfl, by rw [ht]; exact hP9, va_K.moved hW.alike hK9, hD9⟩, hS.F ht⟩) hS.2.2 d_Model_primitive_142
            · rw [if_neg c30] at h
              refine lv_iload_n hx hb d_Model_primitive_106 rfl (lv_at hl 3 rfl) ?_
              refine lv_bipush (v := 39) hx hb d_Model_primitive_107 (by decide) ?_
              refine lv_icmp_ne (tgt := 143) hx hb d_Model_primitive_109 (by decide) (fun c38 => ?_) (fun c38 => ?_)
              · rw [if_neg c38] at h
                refine lv_aload_n hx hb d_Model_primitive_143 rfl (lv_at hl 2 rfl) ?_
                refine lv_iload_n hx hb d_Model_primitive_144 rfl (lv_at hl 3 rfl) ?_
                obtain ⟨⟨z39_1, z39_2, z39_3⟩, hc39, h⟩ := dz_ob h
                try dsimp only at h
                have hPc := hP
                have hKc := hK
                have hDc := hD
                have hFc := dz_freeall hD hS hA
                refine va_calli (va_runV (As := [.int p0]) (rest := []) ⟨hx, hb, hml, hown, hg⟩ (c_Model_strings l dC dI N cB cI o_Model r I F p0 H.size (z39_1, z39_2, z39_3) hc39) (cwV 1 hg (gd_V k934 k935 k936 k707 k933) rfl rfl rfl (by decide +kernel) ⟨Nat.le_of_ble_eq_true rfl, Nat.le_of_ble_eq_true rfl⟩) ⟨dz_blind, va_recv hKc hPc (ci := 10) (q0 := 0) rfl rfl, fun U hU hW => ⟨rfl, dz_Nw hW hN, by rw [hU], by rw [hU]; exact hPc, va_K.moved hW.alike hKc, hDc.weaken (fun _ _ _ _ => trivial)⟩⟩ rfl rfl hl.1 rfl (lv_room (Nat.le_of_ble_eq_true rfl)) d_Model_primitive_145 ⟨Nat.le_of_ble_eq_true rfl, Nat.le_of_ble_eq_true rfl⟩) hS (fun q _ h => hFc q h) hFc (fun r39 u39 t39 H1 locs ht hvm hw hB hz1 hk1 hS => ?_)
                obtain ⟨hP1, hK1, hD1⟩ := hB
                rw [ht] at hP1
                have hP := hP1
                have hD := hD1.weaken (fun _ q _ h => hFc q.1 h)
                have hw : z39_1 = r39 := hw.symm
                subst hw
                generalize H1 = H at hP hS ⊢
                have hP : va_P (dC, dI) classes (wD cB cI o_Model r z39_3 z39_2) H := hP
                have hD : va_D A (wD cB cI o_Model r z39_3 z39_2) := hD
                obtain rfl := Option.some.inj h
                have hP9 := hP
                have hD9 := hD
                have hK9 := hK
                exact W.iret (v := z39_1) hx hb hr (fun t ht hW => ⟨⟨z39_1, (), rfl, rfl, by rw [ht]; exact hP9, va_K.moved hW.alike hK9, hD9⟩, hS.F ht⟩) hS.2.2 d_Model_primitive_148
              · rw [if_pos c38] at h
                refine lv_aload_n hx hb d_Model_primitive_112 rfl (lv_at hl 2 rfl) ?_
                refine lv_iconst (v := 1) hx hb d_Model_primitive_113 (by decide) ?_
                obtain ⟨z40_1, hc40, h⟩ := dz_ob h
                try dsimp only at h
                have hPc := hP
                have hKc := hK
                refine vp_callSi (va_Run.run (va_runV (As := [.int 1]) (rest := []) ⟨hx, hb, hml, hown, hg⟩ (c_Model_isScalar l dC dI N cB cI o_Model r I F (1 : Int32) z40_1 hc40) (cwV 1 hg (gd_V k818 k819 k820 k707 k817) rfl rfl rfl (by decide +kernel) ⟨Nat.le_of_ble_eq_true rfl, Nat.le_of_ble_eq_true rfl⟩) ⟨dz_blindR, va_recv hKc hPc (ci := 10) (q0 := 0) rfl rfl, fun U hU hW => ⟨rfl, dz_Nw hW hN, by rw [hU]; exact hPc, va_K.moved hW.alike hKc⟩⟩ rfl rfl hl.1 rfl (lv_room (Nat.le_of_ble_eq_true rfl)) d_Model_primitive_114 ⟨Nat.le_of_ble_eq_true rfl, Nat.le_of_ble_eq_true rfl⟩)) (fun r40 hw => ?_)
                obtain ⟨hw, hbz40⟩ := hw
                have hw : z40_1 = r40 := hw.symm
                subst hw
                refine lv_if_eq (tgt := 141) hx hb d_Model_primitive_117 (by decide) (fun c41 => ?_) (fun c41 => ?_)
                · rw [if_pos c41] at h
                  refine lv_iconst (v := 4) hx hb d_Model_primitive_141 (by decide) ?_
                  obtain rfl := Option.some.inj h
                  have hP9 := hP
                  have hD9 := hD
                  have hK9 := hK
                  exact W.iret (v := 4) hx hb hr (fun t ht hW => ⟨⟨4, (), rfl, rfl, by rw [ht]; exact hP9, va_K.moved hW.alike hK9, hD9⟩, hS.F ht⟩) hS.2.2 d_Model_primitive_142
                · rw [if_neg c41] at h
                  refine lv_iload_n hx hb d_Model_primitive_120 rfl (lv_at hl 1 rfl) ?_
                  refine lv_if_ne (tgt := 132) hx hb d_Model_primitive_121 (by decide) (fun c42 => ?_) (fun c42 => ?_)
                  · rw [if_neg c42] at h
                    refine lv_aload_n hx hb d_Model_primitive_132 rfl (lv_at hl 2 rfl) ?_
                    refine lv_iload_n hx hb d_Model_primitive_133 rfl (lv_at hl 3 rfl) ?_
                    refine lv_iload_n hx hb d_Model_primitive_134 rfl (lv_at hl 1 rfl) ?_
                    obtain ⟨⟨z43_1, z43_2, z43_3⟩, hc43, h⟩ := dz_ob h
                    try dsimp only at h
                    have hPc := hP
                    have hKc := hK
                    have hDc := hD
                    have hFc := dz_freeall hD hS hA
                    refine va_calli (va_runV (As := [.int p0, .int y1_0]) (rest := []) ⟨hx, hb, hml, hown, hg⟩ (c_Model_numbers l dC dI N cB cI o_Model r I F p0 y1_0 H.size (z43_1, z43_2, z43_3) hc43) (cwV 2 hg (gd_V k930 k931 k932 k707 k929) rfl rfl rfl (by decide +kernel) ⟨Nat.le_of_ble_eq_true rfl, Nat.le_of_ble_eq_true rfl⟩) ⟨dz_blind, va_recv hKc hPc (ci := 10) (q0 := 0) rfl rfl, fun U hU hW => ⟨rfl, dz_Nw hW hN, by rw [hU], by rw [hU]; exact hPc, va_K.moved hW.alike hKc, hDc.weaken (fun _ _ _ _ => trivial)⟩⟩ rfl rfl hl.1 rfl (lv_room (Nat.le_of_ble_eq_true rfl)) d_Model_primitive_135 ⟨Nat.le_of_ble_eq_true rfl, Nat.le_of_ble_eq_true rfl⟩) hS (fun q _ h => hFc q h) hFc (fun r43 u43 t43 H1 locs ht hvm hw hB hz1 hk1 hS => ?_)
                    obtain ⟨hP1, hK1, hD1⟩ := hB
                    rw [ht] at hP1
                    have hP := hP1
                    have hD := hD1.weaken (fun _ q _ h => hFc q.1 h)
                    have hw : z43_1 = r43 := hw.symm
                    subst hw
                    generalize H1 = H at hP hS ⊢
                    have hP : va_P (dC, dI) classes (wD cB cI o_Model r z43_3 z43_2) H := hP
                    have hD : va_D A (wD cB cI o_Model r z43_3 z43_2) := hD
                    refine lv_goto (tgt := 142) hx hb d_Model_primitive_138 (by decide) ?_
                    obtain rfl := Option.some.inj h
                    have hP9 := hP
                    have hD9 := hD
                    have hK9 := hK
                    exact W.iret (v := z43_1) hx hb hr (fun t ht hW => ⟨⟨z43_1, (), rfl, rfl, by rw [ht]; exact hP9, va_K.moved hW.alike hK9, hD9⟩, hS.F ht⟩) hS.2.2 d_Model_primitive_142
                  · rw [if_pos c42] at h
                    refine lv_aload_n hx hb d_Model_primitive_124 rfl (lv_at hl 2 rfl) ?_
                    refine lv_iconst (v := 2) hx hb d_Model_primitive_125 (by decide) ?_
                    obtain ⟨z44_1, hc44, h⟩ := dz_ob h
                    try dsimp only at h
                    have hPc := hP
                    have hKc := hK
                    refine vp_callSi (va_Run.run (va_runV (As := [.int 2]) (rest := []) ⟨hx, hb, hml, hown, hg⟩ (c_Model_isScalar l dC dI N cB cI o_Model r I F (2 : Int32) z44_1 hc44) (cwV 1 hg (gd_V k818 k819 k820 k707 k817) rfl rfl rfl (by decide +kernel) ⟨Nat.le_of_ble_eq_true rfl, Nat.le_of_ble_eq_true rfl⟩) ⟨dz_blindR, va_recv hKc hPc (ci := 10) (q0 := 0) rfl rfl, fun U hU hW => ⟨rfl, dz_Nw hW hN, by rw [hU]; exact hPc, va_K.moved hW.alike hKc⟩⟩ rfl rfl hl.1 rfl (lv_room (Nat.le_of_ble_eq_true rfl)) d_Model_primitive_126 ⟨Nat.le_of_ble_eq_true rfl, Nat.le_of_ble_eq_true rfl⟩)) (fun r44 hw => ?_)
                    obtain ⟨hw, hbz44⟩ := hw
                    have hw : z44_1 = r44 := hw.symm
                    subst hw
                    refine lv_if_eq (tgt := 141) hx hb d_Model_primitive_129 (by decide) (fun c45 => ?_) (fun c45 => ?_)
                    · rw [if_pos c45] at h
                      refine lv_iconst (v := 4) hx hb d_Model_primitive_141 (by decide) ?_
                      obtain rfl := Option.some.inj h
                      have hP9 := hP
                      have hD9 := hD
                      have hK9 := hK
                      exact W.iret (v := 4) hx hb hr (fun t ht hW => ⟨⟨4, (), rfl, rfl, by rw [ht]; exact hP9, va_K.moved hW.alike hK9, hD9⟩, hS.F ht⟩) hS.2.2 d_Model_primitive_142
                    · rw [if_neg c45] at h
                      refine lv_aload_n hx hb d_Model_primitive_132 rfl (lv_at hl 2 rfl) ?_
                      refine lv_iload_n hx hb d_Model_primitive_133 rfl (lv_at hl 3 rfl) ?_
                      refine lv_iload_n hx hb d_Model_primitive_134 rfl (lv_at hl 1 rfl) ?_
                      obtain ⟨⟨z46_1, z46_2, z46_3⟩, hc46, h⟩ := dz_ob h
                      try dsimp only at h
                      have hPc := hP
                      have hKc := hK
                      have hDc := hD
                      have hFc := dz_freeall hD hS hA
                      refine va_calli (va_runV (As := [.int p0, .int y1_0]) (rest := []) ⟨hx, hb, hml, hown, hg⟩ (c_Model_numbers l dC dI N cB cI o_Model r I F p0 y1_0 H.size (z46_1, z46_2, z46_3) hc46) (cwV 2 hg (gd_V k930 k931 k932 k707 k929) rfl rfl rfl (by decide +kernel) ⟨Nat.le_of_ble_eq_true rfl, Nat.le_of_ble_eq_true rfl⟩) ⟨dz_blind, va_recv hKc hPc (ci := 10) (q0 := 0) rfl rfl, fun U hU hW => ⟨rfl, dz_Nw hW hN, by rw [hU], by rw [hU]; exact hPc, va_K.moved hW.alike hKc, hDc.weaken (fun _ _ _ _ => trivial)⟩⟩ rfl rfl hl.1 rfl (lv_room (Nat.le_of_ble_eq_true rfl)) d_Model_primitive_135 ⟨Nat.le_of_ble_eq_true rfl, Nat.le_of_ble_eq_true rfl⟩) hS (fun q _ h => hFc q h) hFc (fun r46 u46 t46 H1 locs ht hvm hw hB hz1 hk1 hS => ?_)
                      obtain ⟨hP1, hK1, hD1⟩ := hB
                      rw [ht] at hP1
                      have hP := hP1
                      have hD := hD1.weaken (fun _ q _ h => hFc q.1 h)
                      have hw : z46_1 = r46 := hw.symm
                      subst hw
                      generalize H1 = H at hP hS ⊢
                      have hP : va_P (dC, dI) classes (wD cB cI o_Model r z46_3 z46_2) H := hP
                      have hD : va_D A (wD cB cI o_Model r z46_3 z46_2) := hD
                      refine lv_goto (tgt := 142) hx hb d_Model_primitive_138 (by decide) ?_
                      obtain rfl := Option.some.inj h
                      have hP9 := hP
                      have hD9 := hD
                      have hK9 := hK
                      exact W.iret (v := z46_1) hx hb hr (fun t ht hW => ⟨⟨z46_1, (), rfl, rfl, by rw [ht]; exact hP9, va_K.moved hW.alike hK9, hD9⟩, hS.F ht⟩) hS.2.2 d_Model_primitive_142
      · rw [if_neg c13] at h
        refine lv_iconst (v := 4) hx hb d_Model_primitive_86 (by decide) ?_
        obtain rfl := Option.some.inj h
        have hP9 := hP
        have hD9 := hD
        have hK9 := hK
        exact W.iret (v := 4) hx hb hr (fun t ht hW => ⟨⟨4, (), rfl, rfl, by rw [ht]; exact hP9, va_K.moved hW.alike hK9, hD9⟩, hS.F ht⟩) hS.2.2 d_Model_primitive_87
    · rw [if_neg c2] at h
      refine lv_iconst (v := 4) hx hb d_Model_primitive_10 (by decide) ?_
      obtain rfl := Option.some.inj h
      have hP9 := hP
      have hD9 := hD
      have hK9 := hK
      exact W.iret (v := 4) hx hb hr (fun t ht hW => ⟨⟨4, (), rfl, rfl, by rw [ht]; exact hP9, va_K.moved hW.alike hK9, hD9⟩, hS.F ht⟩) hS.2.2 d_Model_primitive_11

set_option maxHeartbeats 4000000 in
set_option maxRecDepth 100000 in
theorem l_Model_setLocals_1 {p : Program} {l : Launch} {e : Env} {s : State} {m : MethodId} {args : Array Value} {below : List Frame} {meth : Method} {c : Code} {Q : State → Prop} {A : Nat → Prop} (dC : Nat → ClassId) (dI : Nat → Nat → Nat) (N : Nat) (cB : ClassId) (cI : ClassId) (o_Model : Nat) (r : Nat → Nat) (I : Nat → Int32) (p0 : Int32) {ζ : Type} {z : ζ} (hx : p.tables.exec = Jvm.exec) (hb : c.code = b_Model_setLocals) (hml : c.maxLocals = 4) (hown : s.vm.findClass R_Model = some m.cls) (hg : ∀ w ∈ lw_g, w.before args s = true) (hN : dz_N s) (hK : va_K (dC, dI) classes [(cB, .byte), (cI, .int)] s) (hA : ∀ q : Nat, s.heap.size ≤ q → A q) {k1_81 : Int32 → (Nat → Nat → Int32) → Option (ζ)} (hk1_81 : ∀ (v1_3 : Int32) (w1_F : (Nat → Nat → Int32))    (H : Heap) (locs : List Loc) (ls : Array Slot), k1_81 v1_3 w1_F = some z → va_P (dC, dI) classes (wD cB cI o_Model r I w1_F) H → va_D A (wD cB cI o_Model r I w1_F) → va_S A s.heap H locs → lv_has ls 4 [(3, .int v1_3), (2, .int ((I 22) - 1)), (0, .ref o_Model), (1, .int p0)] → W p l e ({ frames := 0, cells := 0, slots := 0, locals := 0 } : Room) s m args below meth c H locs 0 0 Q (F0 m 81 ls [])) : ∀ (n1 : Nat) (v1_3 : Int32) (w1_F : (Nat → Nat → Int32))   (H : Heap) (locs : List Loc) (ls : Array Slot), lm_Model_setLocals_1 N I p0 k1_81 n1 v1_3 w1_F = some z → va_P (dC, dI) classes (wD cB cI o_Model r I w1_F) H → va_D A (wD cB cI o_Model r I w1_F) → va_S A s.heap H locs → lv_has ls 4 [(3, .int v1_3), (2, .int ((I 22) - 1)), (0, .ref o_Model), (1, .int p0)] → W p l e ({ frames := 0, cells := 0, slots := 0, locals := 0 } : Room) s m args below meth c H locs 0 0 Q (F0 m 42 ls []) := by
  intro n1
  induction n1 with
  | zero =>
    intro v1_3 w1_F H locs ls h hP hD hS hl
    rw [lm_Model_setLocals_1] at h
    cases h
  | succ n1 ih1 =>
    intro v1_3 w1_F H locs ls h hP hD hS hl
    rw [lm_Model_setLocals_1] at h
    refine lv_iload_n hx hb d_Model_setLocals_42 rfl (lv_at hl 0 rfl) ?_
    refine lv_iload_n hx hb d_Model_setLocals_43 rfl (lv_at hl 3 rfl) ?_
    refine lv_icmp_ge (tgt := 81) hx hb d_Model_setLocals_44 (by decide) (fun c6 => ?_) (fun c6 => ?_)
    · rw [if_pos c6] at h
      exact hk1_81 v1_3 w1_F _ _ _ h hP hD hS (lv_sub hl [0, 1, 2, 3] rfl)
    · rw [if_neg c6] at h
      refine lv_aload_n hx hb d_Model_setLocals_47 rfl (lv_at hl 2 rfl) ?_
      refine va_get (D := (dC, dI)) (ci := 10) (v := .ref (r 27)) (C := R_Model) (T := F_Model) (N := 54) hx hb hg i_Model hown hK hP 0 rfl rfl 27 (by decide) (hg _ k731) (fun _ h9 => h9) rfl d_Model_setLocals_48 ?_
      refine lv_aload_n hx hb d_Model_setLocals_51 rfl (lv_at hl 2 rfl) ?_
      refine va_get (D := (dC, dI)) (ci := 10) (v := .ref (r 24)) (C := R_Model) (T := F_Model) (N := 54) hx hb hg i_Model hown hK hP 0 rfl rfl 24 (by decide) (hg _ k717) (fun _ h9 => h9) rfl d_Model_setLocals_52 ?_
      refine lv_iload_n hx hb d_Model_setLocals_55 rfl (lv_at hl 1 rfl) ?_
      obtain ⟨i7, h⟩ := dz_oi h
      refine va_iald (D := (dC, dI)) (f := w1_F 24) hx hb hK hP 14 1 rfl rfl i7 d_Model_setLocals_56 ?_
      refine lv_iload_n hx hb d_Model_setLocals_57 rfl (lv_at hl 0 rfl) ?_
      refine lv_iadd hx hb d_Model_setLocals_58 ?_
      refine lv_iconst (v := 0) hx hb d_Model_setLocals_59 (by decide) ?_
      obtain ⟨i8, h⟩ := dz_oi h
      refine va_iast (D := (dC, dI)) (f := w1_F 27) hx hb hK hP hD hS 17 1 rfl rfl i8 d_Model_setLocals_60 (fun H locs hP hD hS => ?_)
      obtain ⟨G9, eG9, h⟩ := dz_lt h
      have hP : va_P (dC, dI) classes (wD cB cI o_Model r I G9) H := by rw [eG9]; exact hP
      have hD : va_D A (wD cB cI o_Model r I G9) := by rw [eG9]; exact hD
      refine lv_aload_n hx hb d_Model_setLocals_61 rfl (lv_at hl 2 rfl) ?_
      refine va_get (D := (dC, dI)) (ci := 10) (v := .ref (r 28)) (C := R_Model) (T := F_Model) (N := 54) hx hb hg i_Model hown hK hP 0 rfl rfl 28 (by decide) (hg _ k732) (fun _ h9 => h9) rfl d_Model_setLocals_62 ?_
      refine lv_aload_n hx hb d_Model_setLocals_65 rfl (lv_at hl 2 rfl) ?_
      refine va_get (D := (dC, dI)) (ci := 10) (v := .ref (r 24)) (C := R_Model) (T := F_Model) (N := 54) hx hb hg i_Model hown hK hP 0 rfl rfl 24 (by decide) (hg _ k717) (fun _ h9 => h9) rfl d_Model_setLocals_66 ?_
      refine lv_iload_n hx hb d_Model_setLocals_69 rfl (lv_at hl 1 rfl) ?_
      obtain ⟨i10, h⟩ := dz_oi h
      refine va_iald (D := (dC, dI)) (f := G9 24) hx hb hK hP 14 1 rfl rfl i10 d_Model_setLocals_70 ?_
      refine lv_iload_n hx hb d_Model_setLocals_71 rfl (lv_at hl 0 rfl) ?_
      refine lv_iadd hx hb d_Model_setLocals_72 ?_
      refine lv_iconst (v := 0) hx hb d_Model_setLocals_73 (by decide) ?_
      obtain ⟨i11, h⟩ := dz_oi h
      refine va_iast (D := (dC, dI)) (f := G9 28) hx hb hK hP hD hS 18 1 rfl rfl i11 d_Model_setLocals_74 (fun H locs hP hD hS => ?_)
      obtain ⟨G12, eG12, h⟩ := dz_lt h
      have hP : va_P (dC, dI) classes (wD cB cI o_Model r I G12) H := by rw [eG12]; exact hP
      have hD : va_D A (wD cB cI o_Model r I G12) := by rw [eG12]; exact hD
      refine lv_iinc (v := v1_3 + 1) (lv' := [(3, .int (v1_3 + 1)), (2, .int ((I 22) - 1)), (0, .ref o_Model), (1, .int p0)]) hx hb d_Model_setLocals_75 hl (k := 0) rfl rfl (by decide) rfl (fun ls hl => ?_)
      refine lv_goto (tgt := 42) hx hb d_Model_setLocals_78 (by decide) ?_
      exact ih1 (v1_3 + 1) G12 _ _ _ h hP hD hS (lv_sub hl [0, 1, 2, 3] rfl)
set_option maxHeartbeats 4000000 in
set_option maxRecDepth 100000 in
theorem c_Model_setLocals (l : Launch) (dC : Nat → ClassId) (dI : Nat → Nat → Nat) (N : Nat) (cB : ClassId) (cI : ClassId) (o_Model : Nat) (r : Nat → Nat) (I : Nat → Int32) (F : Nat → Nat → Int32) (p0 : Int32) (sz : Nat) (z : Int32 × (Nat → Nat → Int32) × (Nat → Int32)) (h : m_Model_setLocals N I F p0 = some z) : Met l y_Model_setLocals (.code y_Model_setLocals b_Model_setLocals 4 (some .int) :: lw_g) ({ frames := 0, cells := 0, slots := 0, locals := 0 }) (va_Pc [.ref o_Model, .int p0] (fun U => dz_N U ∧ U.heap.size = sz ∧ va_P (dC, dI) classes (wD cB cI o_Model r I F) U.heap ∧ va_K (dC, dI) classes [(cB, .byte), (cI, .int)] U ∧ va_D (fun _ => True) (wD cB cI o_Model r I F))) (va_Qi (fun (r : Int32) (_ : Unit) => r = z.1) (fun (u : Unit) t => va_P (dC, dI) classes (wD cB cI o_Model r z.2.2 z.2.1) t.heap ∧ va_K (dC, dI) classes [(cB, .byte), (cI, .int)] t ∧ va_D (va_A (wD cB cI o_Model r I F) sz) (wD cB cI o_Model r z.2.2 z.2.1)) (va_A (wD cB cI o_Model r I F) sz)) 0 0 (va_A (wD cB cI o_Model r I F) sz) := by
  refine Met.ofW (cc := b_Model_setLocals) (maxL := 4) (ret := (some .int)) (by decide +kernel) rfl ?_
  intro p e s m args below meth c s₁ B hml hv
  obtain ⟨rfl, hN, hsz, hP, hK, hD0⟩ := hv
  have hx := B.exec
  have hb := B.bytes
  have hr := B.returns
  have hg : ∀ w ∈ lw_g, w.before _ s = true := fun w hw => atoms_spec (ws := .code y_Model_setLocals b_Model_setLocals 4 (some .int) :: lw_g) B.pre w (List.mem_cons_of_mem _ hw)
  have hown : s.vm.findClass R_Model = some m.cls := findClass_of_methodNamed B.named
  have hlocks := B.notSynchronized
  clear B
  subst hsz
  have hD := hD0.self (sz := s.heap.size)
  generalize hAe : va_A (wD cB cI o_Model r I F) s.heap.size = A at hD ⊢
  have hA : ∀ q : Nat, s.heap.size ≤ q → A q := fun q h => by rw [← hAe]; exact Or.inr h
  have hS : va_S A s.heap s.heap [] := va_S.rf
  have hP : va_P (dC, dI) classes (wD cB cI o_Model r I F) s.heap := hP
  have hl := lv_entry ([.ref o_Model, .int p0]) (n := 4) (Nat.le_of_ble_eq_true rfl)
  rw [lg_entry_eq]
  generalize (lg_sl ([.ref o_Model, .int p0]) ++ List.replicate (4 - (lg_sl ([.ref o_Model, .int p0])).length) Slot.unset).toArray = ls at hl ⊢
  have hl : lv_has ls 4 [(0, .ref o_Model), (1, .int p0)] := hl
  unfold m_Model_setLocals at h
  refine lv_iload_n hx hb d_Model_setLocals_0 rfl (lv_at hl 1 rfl) ?_
  refine lv_if_lt (tgt := 11) hx hb d_Model_setLocals_1 (by decide) (fun c1 => ?_) (fun c1 => ?_)
  · rw [if_pos c1] at h
    refine lv_iconst (v := 4) hx hb d_Model_setLocals_11 (by decide) ?_
    obtain rfl := Option.some.inj h
    have hP9 := hP
    have hD9 := hD
    have hK9 := hK
    exact W.iret (v := 4) hx hb hr (fun t ht hW => ⟨⟨4, (), rfl, rfl, by rw [ht]; exact hP9, va_K.moved hW.alike hK9, hD9⟩, hS.F ht⟩) hS.2.2 d_Model_setLocals_12
  · rw [if_neg c1] at h
    refine lv_iload_n hx hb d_Model_setLocals_4 rfl (lv_at hl 1 rfl) ?_
    refine lv_sipush (v := 16383) hx hb d_Model_setLocals_5 (by decide) ?_
    refine lv_icmp_le (tgt := 13) hx hb d_Model_setLocals_8 (by decide) (fun c2 => ?_) (fun c2 => ?_)
    · rw [if_pos c2] at h
      refine lv_aload_n hx hb d_Model_setLocals_13 rfl (lv_at hl 0 rfl) ?_
      refine va_get (D := (dC, dI)) (ci := 10) (v := .int (I 22)) (C := R_Model) (T := F_Model) (N := 54) hx hb hg i_Model hown hK hP 0 rfl rfl 22 (by decide) (hg _ k715) (fun _ h9 => h9) rfl d_Model_setLocals_14 ?_
      refine lv_iconst (v := 1) hx hb d_Model_setLocals_17 (by decide) ?_
      refine lv_isub hx hb d_Model_setLocals_18 ?_
      refine lv_istore_n (lv' := [(2, .int ((I 22) - 1)), (0, .ref o_Model), (1, .int p0)]) hx hb d_Model_setLocals_19 rfl hl (by decide) rfl (fun ls hl => ?_)
      refine lv_aload_n hx hb d_Model_setLocals_20 rfl (lv_at hl 1 rfl) ?_
      refine va_get (D := (dC, dI)) (ci := 10) (v := .ref (r 24)) (C := R_Model) (T := F_Model) (N := 54) hx hb hg i_Model hown hK hP 0 rfl rfl 24 (by decide) (hg _ k717) (fun _ h9 => h9) rfl d_Model_setLocals_21 ?_
      refine lv_iload_n hx hb d_Model_setLocals_24 rfl (lv_at hl 0 rfl) ?_
      obtain ⟨i3, h⟩ := dz_oi h
      refine va_iald (D := (dC, dI)) (f := F 24) hx hb hK hP 14 1 rfl rfl i3 d_Model_setLocals_25 ?_
      refine lv_iload_n hx hb d_Model_setLocals_26 rfl (lv_at hl 2 rfl) ?_
      refine lv_iadd hx hb d_Model_setLocals_27 ?_
      refine lv_ldc (v := 65536) hx hb hown (hg _ k713) d_Model_setLocals_28 ?_
      refine lv_icmp_le (tgt := 35) hx hb d_Model_setLocals_30 (by decide) (fun c4 => ?_) (fun c4 => ?_)
      · rw [if_pos c4] at h
        refine lv_aload_n hx hb d_Model_setLocals_35 rfl (lv_at hl 1 rfl) ?_
        refine va_get (D := (dC, dI)) (ci := 10) (v := .ref (r 25)) (C := R_Model) (T := F_Model) (N := 54) hx hb hg i_Model hown hK hP 0 rfl rfl 25 (by decide) (hg _ k718) (fun _ h9 => h9) rfl d_Model_setLocals_36 ?_
        refine lv_iload_n hx hb d_Model_setLocals_39 rfl (lv_at hl 0 rfl) ?_
        obtain ⟨i5, h⟩ := dz_oi h
        refine va_iald (D := (dC, dI)) (f := F 25) hx hb hK hP 15 1 rfl rfl i5 d_Model_setLocals_40 ?_
        refine lv_istore_n (lv' := [(3, .int ((F 25) ((I 22) - 1).toNatClampNeg)), (2, .int ((I 22) - 1)), (0, .ref o_Model), (1, .int p0)]) hx hb d_Model_setLocals_41 rfl hl (by decide) rfl (fun ls hl => ?_)
        refine l_Model_setLocals_1 dC dI N cB cI o_Model r I p0 hx hb hml hown hg hN hK hA (fun v1_3 w1_F H locs ls h hP hD hS hl => ?_) N ((F 25) ((I 22) - 1).toNatClampNeg) F _ _ _ h hP hD hS (lv_sub hl [0, 1, 2, 3] rfl)
        refine lv_aload_n hx hb d_Model_setLocals_81 rfl (lv_at hl 2 rfl) ?_
        refine va_get (D := (dC, dI)) (ci := 10) (v := .ref (r 25)) (C := R_Model) (T := F_Model) (N := 54) hx hb hg i_Model hown hK hP 0 rfl rfl 25 (by decide) (hg _ k718) (fun _ h9 => h9) rfl d_Model_setLocals_82 ?_
        refine lv_iload_n hx hb d_Model_setLocals_85 rfl (lv_at hl 1 rfl) ?_
        refine lv_iload_n hx hb d_Model_setLocals_86 rfl (lv_at hl 3 rfl) ?_
        obtain ⟨i13, h⟩ := dz_oi h
        refine va_iast (D := (dC, dI)) (f := w1_F 25) hx hb hK hP hD hS 15 1 rfl rfl i13 d_Model_setLocals_87 (fun H locs hP hD hS => ?_)
        obtain ⟨G14, eG14, h⟩ := dz_lt h
        have hP : va_P (dC, dI) classes (wD cB cI o_Model r I G14) H := by rw [eG14]; exact hP
        have hD : va_D A (wD cB cI o_Model r I G14) := by rw [eG14]; exact hD
        refine lv_aload_n hx hb d_Model_setLocals_88 rfl (lv_at hl 2 rfl) ?_
        refine lv_aload_n hx hb d_Model_setLocals_89 rfl (lv_at hl 2 rfl) ?_
        refine va_get (D := (dC, dI)) (ci := 10) (v := .ref (r 24)) (C := R_Model) (T := F_Model) (N := 54) hx hb hg i_Model hown hK hP 0 rfl rfl 24 (by decide) (hg _ k717) (fun _ h9 => h9) rfl d_Model_setLocals_90 ?_
        refine lv_iload_n hx hb d_Model_setLocals_93 rfl (lv_at hl 1 rfl) ?_
        obtain ⟨i15, h⟩ := dz_oi h
        refine va_iald (D := (dC, dI)) (f := G14 24) hx hb hK hP 14 1 rfl rfl i15 d_Model_setLocals_94 ?_
        refine lv_iload_n hx hb d_Model_setLocals_95 rfl (lv_at hl 3 rfl) ?_
        refine lv_iadd hx hb d_Model_setLocals_96 ?_
        refine va_put (D := (dC, dI)) (ci := 10) (v := .int (((G14 24) ((I 22) - 1).toNatClampNeg) + p0)) (ty := .int) (C := R_Model) (T := F_Model) (N := 54) hx hb hg i_Model t_Model t_Model_ok n_Model hown hK hP hD hS 0 rfl rfl 29 (by decide) (hg _ k719) (fun _ h9 => h9) rfl (by decide +kernel) rfl rfl (Nat.le_of_ble_eq_true rfl) d_Model_setLocals_97 (fun H locs hP hD hS => ?_)
        obtain ⟨J16, eJ16, h⟩ := dz_lt h
        have hP : va_P (dC, dI) classes (wD cB cI o_Model r J16 G14) H := by rw [eJ16]; exact hP
        have hD : va_D A (wD cB cI o_Model r J16 G14) := by rw [eJ16]; exact hD
        refine lv_iconst (v := 5) hx hb d_Model_setLocals_100 (by decide) ?_
        obtain rfl := Option.some.inj h
        have hP9 := hP
        have hD9 := hD
        have hK9 := hK
        exact W.iret (v := 5) hx hb hr (fun t ht hW => ⟨⟨5, (), rfl, rfl, by rw [ht]; exact hP9, va_K.moved hW.alike hK9, hD9⟩, hS.F ht⟩) hS.2.2 d_Model_setLocals_101
      · rw [if_neg c4] at h
        refine lv_iconst (v := 3) hx hb d_Model_setLocals_33 (by decide) ?_
        obtain rfl := Option.some.inj h
        have hP9 := hP
        have hD9 := hD
        have hK9 := hK
        exact W.iret (v := 3) hx hb hr (fun t ht hW => ⟨⟨3, (), rfl, rfl, by rw [ht]; exact hP9, va_K.moved hW.alike hK9, hD9⟩, hS.F ht⟩) hS.2.2 d_Model_setLocals_34
    · rw [if_neg c2] at h
      refine lv_iconst (v := 4) hx hb d_Model_setLocals_11 (by decide) ?_
      obtain rfl := Option.some.inj h
      have hP9 := hP
      have hD9 := hD
      have hK9 := hK
      exact W.iret (v := 4) hx hb hr (fun t ht hW => ⟨⟨4, (), rfl, rfl, by rw [ht]; exact hP9, va_K.moved hW.alike hK9, hD9⟩, hS.F ht⟩) hS.2.2 d_Model_setLocals_12

set_option maxHeartbeats 4000000 in
set_option maxRecDepth 100000 in
theorem c_Model_swap (l : Launch) (dC : Nat → ClassId) (dI : Nat → Nat → Nat) (N : Nat) (cB : ClassId) (cI : ClassId) (o_Model : Nat) (r : Nat → Nat) (I : Nat → Int32) (F : Nat → Nat → Int32) (sz : Nat) (z : Int32 × (Nat → Nat → Int32)) (h : m_Model_swap N I F = some z) : Met l y_Model_swap (.code y_Model_swap b_Model_swap 3 (some .int) :: lw_g) ({ frames := 0, cells := 0, slots := 0, locals := 0 }) (va_Pc [.ref o_Model] (fun U => dz_N U ∧ U.heap.size = sz ∧ va_P (dC, dI) classes (wD cB cI o_Model r I F) U.heap ∧ va_K (dC, dI) classes [(cB, .byte), (cI, .int)] U ∧ va_D (fun _ => True) (wD cB cI o_Model r I F))) (va_Qi (fun (r : Int32) (_ : Unit) => r = z.1) (fun (u : Unit) t => va_P (dC, dI) classes (wD cB cI o_Model r I z.2) t.heap ∧ va_K (dC, dI) classes [(cB, .byte), (cI, .int)] t ∧ va_D (va_A (wD cB cI o_Model r I F) sz) (wD cB cI o_Model r I z.2)) (va_A (wD cB cI o_Model r I F) sz)) 0 0 (va_A (wD cB cI o_Model r I F) sz) := by
  refine Met.ofW (cc := b_Model_swap) (maxL := 3) (ret := (some .int)) (by decide +kernel) rfl ?_
  intro p e s m args below meth c s₁ B hml hv
  obtain ⟨rfl, hN, hsz, hP, hK, hD0⟩ := hv
  have hx := B.exec
  have hb := B.bytes
  have hr := B.returns
  have hg : ∀ w ∈ lw_g, w.before _ s = true := fun w hw => atoms_spec (ws := .code y_Model_swap b_Model_swap 3 (some .int) :: lw_g) B.pre w (List.mem_cons_of_mem _ hw)
  have hown : s.vm.findClass R_Model = some m.cls := findClass_of_methodNamed B.named
  have hlocks := B.notSynchronized
  clear B
  subst hsz
  have hD := hD0.self (sz := s.heap.size)
  generalize hAe : va_A (wD cB cI o_Model r I F) s.heap.size = A at hD ⊢
  have hA : ∀ q : Nat, s.heap.size ≤ q → A q := fun q h => by rw [← hAe]; exact Or.inr h
  have hS : va_S A s.heap s.heap [] := va_S.rf
  have hP : va_P (dC, dI) classes (wD cB cI o_Model r I F) s.heap := hP
  have hl := lv_entry ([.ref o_Model]) (n := 3) (Nat.le_of_ble_eq_true rfl)
  rw [lg_entry_eq]
  generalize (lg_sl ([.ref o_Model]) ++ List.replicate (3 - (lg_sl ([.ref o_Model])).length) Slot.unset).toArray = ls at hl ⊢
  have hl : lv_has ls 3 [(0, .ref o_Model)] := hl
  unfold m_Model_swap at h
  refine lv_aload_n hx hb d_Model_swap_0 rfl (lv_at hl 0 rfl) ?_
  refine va_get (D := (dC, dI)) (ci := 10) (v := .ref (r 27)) (C := R_Model) (T := F_Model) (N := 54) hx hb hg i_Model hown hK hP 0 rfl rfl 27 (by decide) (hg _ k731) (fun _ h9 => h9) rfl d_Model_swap_1 ?_
  refine lv_aload_n hx hb d_Model_swap_4 rfl (lv_at hl 0 rfl) ?_
  refine va_get (D := (dC, dI)) (ci := 10) (v := .int (I 29)) (C := R_Model) (T := F_Model) (N := 54) hx hb hg i_Model hown hK hP 0 rfl rfl 29 (by decide) (hg _ k719) (fun _ h9 => h9) rfl d_Model_swap_5 ?_
  refine lv_iconst (v := 1) hx hb d_Model_swap_8 (by decide) ?_
  refine lv_isub hx hb d_Model_swap_9 ?_
  obtain ⟨i1, h⟩ := dz_oi h
  refine va_iald (D := (dC, dI)) (f := F 27) hx hb hK hP 17 1 rfl rfl i1 d_Model_swap_10 ?_
  refine lv_istore_n (lv' := [(1, .int ((F 27) ((I 29) - 1).toNatClampNeg)), (0, .ref o_Model)]) hx hb d_Model_swap_11 rfl hl (by decide) rfl (fun ls hl => ?_)
  refine lv_aload_n hx hb d_Model_swap_12 rfl (lv_at hl 1 rfl) ?_
  refine va_get (D := (dC, dI)) (ci := 10) (v := .ref (r 28)) (C := R_Model) (T := F_Model) (N := 54) hx hb hg i_Model hown hK hP 0 rfl rfl 28 (by decide) (hg _ k732) (fun _ h9 => h9) rfl d_Model_swap_13 ?_
  refine lv_aload_n hx hb d_Model_swap_16 rfl (lv_at hl 1 rfl) ?_
  refine va_get (D := (dC, dI)) (ci := 10) (v := .int (I 29)) (C := R_Model) (T := F_Model) (N := 54) hx hb hg i_Model hown hK hP 0 rfl rfl 29 (by decide) (hg _ k719) (fun _ h9 => h9) rfl d_Model_swap_17 ?_
  refine lv_iconst (v := 1) hx hb d_Model_swap_20 (by decide) ?_
  refine lv_isub hx hb d_Model_swap_21 ?_
  obtain ⟨i2, h⟩ := dz_oi h
  refine va_iald (D := (dC, dI)) (f := F 28) hx hb hK hP 18 1 rfl rfl i2 d_Model_swap_22 ?_
  refine lv_istore_n (lv' := [(2, .int ((F 28) ((I 29) - 1).toNatClampNeg)), (1, .int ((F 27) ((I 29) - 1).toNatClampNeg)), (0, .ref o_Model)]) hx hb d_Model_swap_23 rfl hl (by decide) rfl (fun ls hl => ?_)
  refine lv_aload_n hx hb d_Model_swap_24 rfl (lv_at hl 2 rfl) ?_
  refine va_get (D := (dC, dI)) (ci := 10) (v := .ref (r 27)) (C := R_Model) (T := F_Model) (N := 54) hx hb hg i_Model hown hK hP 0 rfl rfl 27 (by decide) (hg _ k731) (fun _ h9 => h9) rfl d_Model_swap_25 ?_
  refine lv_aload_n hx hb d_Model_swap_28 rfl (lv_at hl 2 rfl) ?_
  refine va_get (D := (dC, dI)) (ci := 10) (v := .int (I 29)) (C := R_Model) (T := F_Model) (N := 54) hx hb hg i_Model hown hK hP 0 rfl rfl 29 (by decide) (hg _ k719) (fun _ h9 => h9) rfl d_Model_swap_29 ?_
  refine lv_iconst (v := 1) hx hb d_Model_swap_32 (by decide) ?_
  refine lv_isub hx hb d_Model_swap_33 ?_
  refine lv_aload_n hx hb d_Model_swap_34 rfl (lv_at hl 2 rfl) ?_
  refine va_get (D := (dC, dI)) (ci := 10) (v := .ref (r 27)) (C := R_Model) (T := F_Model) (N := 54) hx hb hg i_Model hown hK hP 0 rfl rfl 27 (by decide) (hg _ k731) (fun _ h9 => h9) rfl d_Model_swap_35 ?_
  refine lv_aload_n hx hb d_Model_swap_38 rfl (lv_at hl 2 rfl) ?_
  refine va_get (D := (dC, dI)) (ci := 10) (v := .int (I 29)) (C := R_Model) (T := F_Model) (N := 54) hx hb hg i_Model hown hK hP 0 rfl rfl 29 (by decide) (hg _ k719) (fun _ h9 => h9) rfl d_Model_swap_39 ?_
  refine lv_iconst (v := 2) hx hb d_Model_swap_42 (by decide) ?_
  refine lv_isub hx hb d_Model_swap_43 ?_
  obtain ⟨i3, h⟩ := dz_oi h
  refine va_iald (D := (dC, dI)) (f := F 27) hx hb hK hP 17 1 rfl rfl i3 d_Model_swap_44 ?_
  obtain ⟨i4, h⟩ := dz_oi h
  refine va_iast (D := (dC, dI)) (f := F 27) hx hb hK hP hD hS 17 1 rfl rfl i4 d_Model_swap_45 (fun H locs hP hD hS => ?_)
  obtain ⟨G5, eG5, h⟩ := dz_lt h
  have hP : va_P (dC, dI) classes (wD cB cI o_Model r I G5) H := by rw [eG5]; exact hP
  have hD : va_D A (wD cB cI o_Model r I G5) := by rw [eG5]; exact hD
  refine lv_aload_n hx hb d_Model_swap_46 rfl (lv_at hl 2 rfl) ?_
  refine va_get (D := (dC, dI)) (ci := 10) (v := .ref (r 28)) (C := R_Model) (T := F_Model) (N := 54) hx hb hg i_Model hown hK hP 0 rfl rfl 28 (by decide) (hg _ k732) (fun _ h9 => h9) rfl d_Model_swap_47 ?_
  refine lv_aload_n hx hb d_Model_swap_50 rfl (lv_at hl 2 rfl) ?_
  refine va_get (D := (dC, dI)) (ci := 10) (v := .int (I 29)) (C := R_Model) (T := F_Model) (N := 54) hx hb hg i_Model hown hK hP 0 rfl rfl 29 (by decide) (hg _ k719) (fun _ h9 => h9) rfl d_Model_swap_51 ?_
  refine lv_iconst (v := 1) hx hb d_Model_swap_54 (by decide) ?_
  refine lv_isub hx hb d_Model_swap_55 ?_
  refine lv_aload_n hx hb d_Model_swap_56 rfl (lv_at hl 2 rfl) ?_
  refine va_get (D := (dC, dI)) (ci := 10) (v := .ref (r 28)) (C := R_Model) (T := F_Model) (N := 54) hx hb hg i_Model hown hK hP 0 rfl rfl 28 (by decide) (hg _ k732) (fun _ h9 => h9) rfl d_Model_swap_57 ?_
  refine lv_aload_n hx hb d_Model_swap_60 rfl (lv_at hl 2 rfl) ?_
  refine va_get (D := (dC, dI)) (ci := 10) (v := .int (I 29)) (C := R_Model) (T := F_Model) (N := 54) hx hb hg i_Model hown hK hP 0 rfl rfl 29 (by decide) (hg _ k719) (fun _ h9 => h9) rfl d_Model_swap_61 ?_
  refine lv_iconst (v := 2) hx hb d_Model_swap_64 (by decide) ?_
  refine lv_isub hx hb d_Model_swap_65 ?_
  obtain ⟨i6, h⟩ := dz_oi h
  refine va_iald (D := (dC, dI)) (f := G5 28) hx hb hK hP 18 1 rfl rfl i6 d_Model_swap_66 ?_
  obtain ⟨i7, h⟩ := dz_oi h
  refine va_iast (D := (dC, dI)) (f := G5 28) hx hb hK hP hD hS 18 1 rfl rfl i7 d_Model_swap_67 (fun H locs hP hD hS => ?_)
  obtain ⟨G8, eG8, h⟩ := dz_lt h
  have hP : va_P (dC, dI) classes (wD cB cI o_Model r I G8) H := by rw [eG8]; exact hP
  have hD : va_D A (wD cB cI o_Model r I G8) := by rw [eG8]; exact hD
  refine lv_aload_n hx hb d_Model_swap_68 rfl (lv_at hl 2 rfl) ?_
  refine va_get (D := (dC, dI)) (ci := 10) (v := .ref (r 27)) (C := R_Model) (T := F_Model) (N := 54) hx hb hg i_Model hown hK hP 0 rfl rfl 27 (by decide) (hg _ k731) (fun _ h9 => h9) rfl d_Model_swap_69 ?_
  refine lv_aload_n hx hb d_Model_swap_72 rfl (lv_at hl 2 rfl) ?_
  refine va_get (D := (dC, dI)) (ci := 10) (v := .int (I 29)) (C := R_Model) (T := F_Model) (N := 54) hx hb hg i_Model hown hK hP 0 rfl rfl 29 (by decide) (hg _ k719) (fun _ h9 => h9) rfl d_Model_swap_73 ?_
  refine lv_iconst (v := 2) hx hb d_Model_swap_76 (by decide) ?_
  refine lv_isub hx hb d_Model_swap_77 ?_
  refine lv_iload_n hx hb d_Model_swap_78 rfl (lv_at hl 1 rfl) ?_
  obtain ⟨i9, h⟩ := dz_oi h
  refine va_iast (D := (dC, dI)) (f := G8 27) hx hb hK hP hD hS 17 1 rfl rfl i9 d_Model_swap_79 (fun H locs hP hD hS => ?_)
  obtain ⟨G10, eG10, h⟩ := dz_lt h
  have hP : va_P (dC, dI) classes (wD cB cI o_Model r I G10) H := by rw [eG10]; exact hP
  have hD : va_D A (wD cB cI o_Model r I G10) := by rw [eG10]; exact hD
  refine lv_aload_n hx hb d_Model_swap_80 rfl (lv_at hl 2 rfl) ?_
  refine va_get (D := (dC, dI)) (ci := 10) (v := .ref (r 28)) (C := R_Model) (T := F_Model) (N := 54) hx hb hg i_Model hown hK hP 0 rfl rfl 28 (by decide) (hg _ k732) (fun _ h9 => h9) rfl d_Model_swap_81 ?_
  refine lv_aload_n hx hb d_Model_swap_84 rfl (lv_at hl 2 rfl) ?_
  refine va_get (D := (dC, dI)) (ci := 10) (v := .int (I 29)) (C := R_Model) (T := F_Model) (N := 54) hx hb hg i_Model hown hK hP 0 rfl rfl 29 (by decide) (hg _ k719) (fun _ h9 => h9) rfl d_Model_swap_85 ?_
  refine lv_iconst (v := 2) hx hb d_Model_swap_88 (by decide) ?_
  refine lv_isub hx hb d_Model_swap_89 ?_
  refine lv_iload_n hx hb d_Model_swap_90 rfl (lv_at hl 0 rfl) ?_
  obtain ⟨i11, h⟩ := dz_oi h
  refine va_iast (D := (dC, dI)) (f := G10 28) hx hb hK hP hD hS 18 1 rfl rfl i11 d_Model_swap_91 (fun H locs hP hD hS => ?_)
  obtain ⟨G12, eG12, h⟩ := dz_lt h
  have hP : va_P (dC, dI) classes (wD cB cI o_Model r I G12) H := by rw [eG12]; exact hP
  have hD : va_D A (wD cB cI o_Model r I G12) := by rw [eG12]; exact hD
  refine lv_iconst (v := 5) hx hb d_Model_swap_92 (by decide) ?_
  obtain rfl := Option.some.inj h
  have hP9 := hP
  have hD9 := hD
  have hK9 := hK
  exact W.iret (v := 5) hx hb hr (fun t ht hW => ⟨⟨5, (), rfl, rfl, by rw [ht]; exact hP9, va_K.moved hW.alike hK9, hD9⟩, hS.F ht⟩) hS.2.2 d_Model_swap_93

set_option maxHeartbeats 4000000 in
set_option maxRecDepth 100000 in
theorem c_Model_others (l : Launch) (dC : Nat → ClassId) (dI : Nat → Nat → Nat) (N : Nat) (cB : ClassId) (cI : ClassId) (o_Model : Nat) (r : Nat → Nat) (I : Nat → Int32) (F : Nat → Nat → Int32) (p0 : Int32) (p1 : Int32) (p2 : Int32) (sz : Nat) (z : Int32 × (Nat → Nat → Int32) × (Nat → Int32)) (h : m_Model_others N I F p0 p1 p2 = some z) : Met l y_Model_others (.code y_Model_others b_Model_others 4 (some .int) :: lw_g) ({ frames := 11, cells := 0, slots := 0, locals := 250 }) (va_Pc [.ref o_Model, .int p0, .int p1, .int p2] (fun U => dz_N U ∧ U.heap.size = sz ∧ va_P (dC, dI) classes (wD cB cI o_Model r I F) U.heap ∧ va_K (dC, dI) classes [(cB, .byte), (cI, .int)] U ∧ va_D (fun _ => True) (wD cB cI o_Model r I F))) (va_Qi (fun (r : Int32) (_ : Unit) => r = z.1) (fun (u : Unit) t => va_P (dC, dI) classes (wD cB cI o_Model r z.2.2 z.2.1) t.heap ∧ va_K (dC, dI) classes [(cB, .byte), (cI, .int)] t ∧ va_D (va_A (wD cB cI o_Model r I F) sz) (wD cB cI o_Model r z.2.2 z.2.1)) (va_A (wD cB cI o_Model r I F) sz)) 0 0 (va_A (wD cB cI o_Model r I F) sz) := by
  refine Met.ofW (cc := b_Model_others) (maxL := 4) (ret := (some .int)) (by decide +kernel) rfl ?_
  intro p e s m args below meth c s₁ B hml hv
  obtain ⟨rfl, hN, hsz, hP, hK, hD0⟩ := hv
  have hx := B.exec
  have hb := B.bytes
  have hr := B.returns
  have hg : ∀ w ∈ lw_g, w.before _ s = true := fun w hw => atoms_spec (ws := .code y_Model_others b_Model_others 4 (some .int) :: lw_g) B.pre w (List.mem_cons_of_mem _ hw)
  have hown : s.vm.findClass R_Model = some m.cls := findClass_of_methodNamed B.named
  have hlocks := B.notSynchronized
  clear B
  subst hsz
  have hD := hD0.self (sz := s.heap.size)
  generalize hAe : va_A (wD cB cI o_Model r I F) s.heap.size = A at hD ⊢
  have hA : ∀ q : Nat, s.heap.size ≤ q → A q := fun q h => by rw [← hAe]; exact Or.inr h
  have hS : va_S A s.heap s.heap [] := va_S.rf
  have hP : va_P (dC, dI) classes (wD cB cI o_Model r I F) s.heap := hP
  have hl := lv_entry ([.ref o_Model, .int p0, .int p1, .int p2]) (n := 4) (Nat.le_of_ble_eq_true rfl)
  rw [lg_entry_eq]
  generalize (lg_sl ([.ref o_Model, .int p0, .int p1, .int p2]) ++ List.replicate (4 - (lg_sl ([.ref o_Model, .int p0, .int p1, .int p2])).length) Slot.unset).toArray = ls at hl ⊢
  have hl : lv_has ls 4 [(0, .ref o_Model), (1, .int p0), (2, .int p1), (3, .int p2)] := hl
  unfold m_Model_others at h
  refine lv_iload_n hx hb d_Model_others_0 rfl (lv_at hl 2 rfl) ?_
  by_cases s1_26 : p1 = 26
  · rw [if_pos s1_26] at h
    refine lv_tableIn (off := 67) (tgt := 68) hx hb d_Model_others_1 (by rw [s1_26]; decide) (by rw [s1_26]; decide) (by rw [s1_26]; decide) (by decide) ?_
    refine lv_aload_n hx hb d_Model_others_68 rfl (lv_at hl 0 rfl) ?_
    refine lv_iconst (v := 2) hx hb d_Model_others_69 (by decide) ?_
    refine lv_aload_n hx hb d_Model_others_70 rfl (lv_at hl 0 rfl) ?_
    refine lv_iload_n hx hb d_Model_others_71 rfl (lv_at hl 3 rfl) ?_
    obtain ⟨⟨z2_1, z2_2, z2_3⟩, hc2, h⟩ := dz_ob h
    try dsimp only at h
    have hPc := hP
    have hKc := hK
    have hDc := hD
    have hFc := dz_freeall hD hS hA
    refine va_calli (va_runV (As := [.int p2]) (rest := [.int 2, .ref o_Model]) ⟨hx, hb, hml, hown, hg⟩ (c_Model_handle l dC dI N cB cI o_Model r I F p2 s.heap.size (z2_1, z2_2, z2_3) hc2) (cwV 1 hg (gd_V k939 k940 k941 k707 k938) rfl rfl rfl (by decide +kernel) ⟨Nat.le_of_ble_eq_true rfl, Nat.le_of_ble_eq_true rfl⟩) ⟨dz_blind, va_recv hKc hPc (ci := 10) (q0 := 0) rfl rfl, fun U hU hW => ⟨rfl, dz_Nw hW hN, by rw [hU], by rw [hU]; exact hPc, va_K.moved hW.alike hKc, hDc.weaken (fun _ _ _ _ => trivial)⟩⟩ rfl rfl hl.1 rfl (lv_room (Nat.le_of_ble_eq_true rfl)) d_Model_others_72 ⟨Nat.le_of_ble_eq_true rfl, Nat.le_of_ble_eq_true rfl⟩) hS (fun q _ h => hFc q h) hFc (fun r2 u2 t2 H1 locs ht hvm hw hB hz1 hk1 hS => ?_)
    obtain ⟨hP1, hK1, hD1⟩ := hB
    rw [ht] at hP1
    have hP := hP1
    have hD := hD1.weaken (fun _ q _ h => hFc q.1 h)
    have hw : z2_1 = r2 := hw.symm
    subst hw
    generalize H1 = H at hP hS ⊢
    have hP : va_P (dC, dI) classes (wD cB cI o_Model r z2_3 z2_2) H := hP
    have hD : va_D A (wD cB cI o_Model r z2_3 z2_2) := hD
    obtain ⟨⟨z3_1, z3_2⟩, hc3, h⟩ := dz_ob h
    try dsimp only at h
    have hPc := hP
    have hKc := hK
    have hDc := hD
    have hFc := dz_freeall hD hS hA
    refine va_calli (va_runV (As := [.int 2, .int z2_1]) (rest := []) ⟨hx, hb, hml, hown, hg⟩ (c_Model_next l dC dI N cB cI o_Model r z2_3 z2_2 (2 : Int32) z2_1 H.size (z3_1, z3_2) hc3) (cwV 2 hg (gd_V k871 k872 k873 k707 k870) rfl rfl rfl (by decide +kernel) ⟨Nat.le_of_ble_eq_true rfl, Nat.le_of_ble_eq_true rfl⟩) ⟨dz_blind, va_recv hKc hPc (ci := 10) (q0 := 0) rfl rfl, fun U hU hW => ⟨rfl, dz_Nw hW hN, by rw [hU], by rw [hU]; exact hPc, va_K.moved hW.alike hKc, hDc.weaken (fun _ _ _ _ => trivial)⟩⟩ rfl rfl hl.1 rfl (lv_room (Nat.le_of_ble_eq_true rfl)) d_Model_others_75 ⟨Nat.le_of_ble_eq_true rfl, Nat.le_of_ble_eq_true rfl⟩) hS (fun q _ h => hFc q h) hFc (fun r3 u3 t3 H1 locs ht hvm hw hB hz1 hk1 hS => ?_)
    obtain ⟨hP1, hK1, hD1⟩ := hB
    rw [ht] at hP1
    have hP := hP1
    have hD := hD1.weaken (fun _ q _ h => hFc q.1 h)
    have hw : z3_1 = r3 := hw.symm
    subst hw
    generalize H1 = H at hP hS ⊢
    have hP : va_P (dC, dI) classes (wD cB cI o_Model r z3_2 z2_2) H := hP
    have hD : va_D A (wD cB cI o_Model r z3_2 z2_2) := hD
    obtain rfl := Option.some.inj h
    have hP9 := hP
    have hD9 := hD
    have hK9 := hK
    exact W.iret (v := z3_1) hx hb hr (fun t ht hW => ⟨⟨z3_1, (), rfl, rfl, by rw [ht]; exact hP9, va_K.moved hW.alike hK9, hD9⟩, hS.F ht⟩) hS.2.2 d_Model_others_78
  rw [if_neg s1_26] at h
  by_cases s1_27 : p1 = 27
  · rw [if_pos s1_27] at h
    refine lv_tableIn (off := 78) (tgt := 79) hx hb d_Model_others_1 (by rw [s1_27]; decide) (by rw [s1_27]; decide) (by rw [s1_27]; decide) (by decide) ?_
    refine lv_aload_n hx hb d_Model_others_79 rfl (lv_at hl 0 rfl) ?_
    refine va_get (D := (dC, dI)) (ci := 10) (v := .int (I 30)) (C := R_Model) (T := F_Model) (N := 54) hx hb hg i_Model hown hK hP 0 rfl rfl 30 (by decide) (hg _ k720) (fun _ h9 => h9) rfl d_Model_others_80 ?_
    refine lv_if_eq (tgt := 106) hx hb d_Model_others_83 (by decide) (fun c4 => ?_) (fun c4 => ?_)
    · rw [if_pos c4] at h
      refine lv_iconst (v := 4) hx hb d_Model_others_106 (by decide) ?_
      obtain rfl := Option.some.inj h
      have hP9 := hP
      have hD9 := hD
      have hK9 := hK
      exact W.iret (v := 4) hx hb hr (fun t ht hW => ⟨⟨4, (), rfl, rfl, by rw [ht]; exact hP9, va_K.moved hW.alike hK9, hD9⟩, hS.F ht⟩) hS.2.2 d_Model_others_107
    · rw [if_neg c4] at h
      refine lv_aload_n hx hb d_Model_others_86 rfl (lv_at hl 0 rfl) ?_
      refine va_get (D := (dC, dI)) (ci := 10) (v := .ref (r 31)) (C := R_Model) (T := F_Model) (N := 54) hx hb hg i_Model hown hK hP 0 rfl rfl 31 (by decide) (hg _ k812) (fun _ h9 => h9) rfl d_Model_others_87 ?_
      refine lv_aload_n hx hb d_Model_others_90 rfl (lv_at hl 0 rfl) ?_
      refine va_get (D := (dC, dI)) (ci := 10) (v := .int (I 30)) (C := R_Model) (T := F_Model) (N := 54) hx hb hg i_Model hown hK hP 0 rfl rfl 30 (by decide) (hg _ k720) (fun _ h9 => h9) rfl d_Model_others_91 ?_
      refine lv_iconst (v := 1) hx hb d_Model_others_94 (by decide) ?_
      refine lv_isub hx hb d_Model_others_95 ?_
      obtain ⟨i5, h⟩ := dz_oi h
      refine va_iald (D := (dC, dI)) (f := F 31) hx hb hK hP 19 1 rfl rfl i5 d_Model_others_96 ?_
      refine lv_aload_n hx hb d_Model_others_97 rfl (lv_at hl 0 rfl) ?_
      refine va_get (D := (dC, dI)) (ci := 10) (v := .int (I 22)) (C := R_Model) (T := F_Model) (N := 54) hx hb hg i_Model hown hK hP 0 rfl rfl 22 (by decide) (hg _ k715) (fun _ h9 => h9) rfl d_Model_others_98 ?_
      refine lv_iconst (v := 1) hx hb d_Model_others_101 (by decide) ?_
      refine lv_isub hx hb d_Model_others_102 ?_
      refine lv_icmp_eq (tgt := 108) hx hb d_Model_others_103 (by decide) (fun c6 => ?_) (fun c6 => ?_)
      · rw [if_pos c6] at h
        refine lv_aload_n hx hb d_Model_others_108 rfl (lv_at hl 0 rfl) ?_
        refine lv_dup hx hb d_Model_others_109 rfl ?_
        refine va_get (D := (dC, dI)) (ci := 10) (v := .int (I 30)) (C := R_Model) (T := F_Model) (N := 54) hx hb hg i_Model hown hK hP 0 rfl rfl 30 (by decide) (hg _ k720) (fun _ h9 => h9) rfl d_Model_others_110 ?_
        refine lv_iconst (v := 1) hx hb d_Model_others_113 (by decide) ?_
        refine lv_isub hx hb d_Model_others_114 ?_
        refine va_put (D := (dC, dI)) (ci := 10) (v := .int ((I 30) - 1)) (ty := .int) (C := R_Model) (T := F_Model) (N := 54) hx hb hg i_Model t_Model t_Model_ok n_Model hown hK hP hD hS 0 rfl rfl 30 (by decide) (hg _ k720) (fun _ h9 => h9) rfl (by decide +kernel) rfl rfl (Nat.le_of_ble_eq_true rfl) d_Model_others_115 (fun H locs hP hD hS => ?_)
        obtain ⟨J7, eJ7, h⟩ := dz_lt h
        have hP : va_P (dC, dI) classes (wD cB cI o_Model r J7 F) H := by rw [eJ7]; exact hP
        have hD : va_D A (wD cB cI o_Model r J7 F) := by rw [eJ7]; exact hD
        refine lv_aload_n hx hb d_Model_others_118 rfl (lv_at hl 0 rfl) ?_
        refine lv_iconst (v := 1) hx hb d_Model_others_119 (by decide) ?_
        refine lv_iconst (v := 5) hx hb d_Model_others_120 (by decide) ?_
        obtain ⟨⟨z8_1, z8_2⟩, hc8, h⟩ := dz_ob h
        try dsimp only at h
        have hPc := hP
        have hKc := hK
        have hDc := hD
        have hFc := dz_freeall hD hS hA
        refine va_calli (va_runV (As := [.int 1, .int 5]) (rest := []) ⟨hx, hb, hml, hown, hg⟩ (c_Model_next l dC dI N cB cI o_Model r J7 F (1 : Int32) (5 : Int32) H.size (z8_1, z8_2) hc8) (cwV 2 hg (gd_V k871 k872 k873 k707 k870) rfl rfl rfl (by decide +kernel) ⟨Nat.le_of_ble_eq_true rfl, Nat.le_of_ble_eq_true rfl⟩) ⟨dz_blind, va_recv hKc hPc (ci := 10) (q0 := 0) rfl rfl, fun U hU hW => ⟨rfl, dz_Nw hW hN, by rw [hU], by rw [hU]; exact hPc, va_K.moved hW.alike hKc, hDc.weaken (fun _ _ _ _ => trivial)⟩⟩ rfl rfl hl.1 rfl (lv_room (Nat.le_of_ble_eq_true rfl)) d_Model_others_121 ⟨Nat.le_of_ble_eq_true rfl, Nat.le_of_ble_eq_true rfl⟩) hS (fun q _ h => hFc q h) hFc (fun r8 u8 t8 H1 locs ht hvm hw hB hz1 hk1 hS => ?_)
        obtain ⟨hP1, hK1, hD1⟩ := hB
        rw [ht] at hP1
        have hP := hP1
        have hD := hD1.weaken (fun _ q _ h => hFc q.1 h)
        have hw : z8_1 = r8 := hw.symm
        subst hw
        generalize H1 = H at hP hS ⊢
        have hP : va_P (dC, dI) classes (wD cB cI o_Model r z8_2 F) H := hP
        have hD : va_D A (wD cB cI o_Model r z8_2 F) := hD
        obtain rfl := Option.some.inj h
        have hP9 := hP
        have hD9 := hD
        have hK9 := hK
        exact W.iret (v := z8_1) hx hb hr (fun t ht hW => ⟨⟨z8_1, (), rfl, rfl, by rw [ht]; exact hP9, va_K.moved hW.alike hK9, hD9⟩, hS.F ht⟩) hS.2.2 d_Model_others_124
      · rw [if_neg c6] at h
        refine lv_iconst (v := 4) hx hb d_Model_others_106 (by decide) ?_
        obtain rfl := Option.some.inj h
        have hP9 := hP
        have hD9 := hD
        have hK9 := hK
        exact W.iret (v := 4) hx hb hr (fun t ht hW => ⟨⟨4, (), rfl, rfl, by rw [ht]; exact hP9, va_K.moved hW.alike hK9, hD9⟩, hS.F ht⟩) hS.2.2 d_Model_others_107
  rw [if_neg s1_27] at h
  by_cases s1_28 : p1 = 28
  · rw [if_pos s1_28] at h
    refine lv_tableIn (off := 124) (tgt := 125) hx hb d_Model_others_1 (by rw [s1_28]; decide) (by rw [s1_28]; decide) (by rw [s1_28]; decide) (by decide) ?_
    refine lv_aload_n hx hb d_Model_others_125 rfl (lv_at hl 0 rfl) ?_
    refine lv_iconst (v := 1) hx hb d_Model_others_126 (by decide) ?_
    obtain ⟨z9_1, hc9, h⟩ := dz_ob h
    try dsimp only at h
    have hPc := hP
    have hKc := hK
    refine vp_callSi (va_Run.run (va_runV (As := [.int 1]) (rest := []) ⟨hx, hb, hml, hown, hg⟩ (c_Model_isName l dC dI N cB cI o_Model r I F (1 : Int32) z9_1 hc9) (cwV 1 hg (gd_V k835 k836 k837 k707 k834) rfl rfl rfl (by decide +kernel) ⟨Nat.le_of_ble_eq_true rfl, Nat.le_of_ble_eq_true rfl⟩) ⟨dz_blindR, va_recv hKc hPc (ci := 10) (q0 := 0) rfl rfl, fun U hU hW => ⟨rfl, dz_Nw hW hN, by rw [hU]; exact hPc, va_K.moved hW.alike hKc⟩⟩ rfl rfl hl.1 rfl (lv_room (Nat.le_of_ble_eq_true rfl)) d_Model_others_127 ⟨Nat.le_of_ble_eq_true rfl, Nat.le_of_ble_eq_true rfl⟩)) (fun r9 hw => ?_)
    obtain ⟨hw, hbz9⟩ := hw
    have hw : z9_1 = r9 := hw.symm
    subst hw
    refine lv_if_ne (tgt := 143) hx hb d_Model_others_130 (by decide) (fun c10 => ?_) (fun c10 => ?_)
    · rw [if_neg c10] at h
      refine lv_aload_n hx hb d_Model_others_143 rfl (lv_at hl 0 rfl) ?_
      refine lv_iconst (v := 1) hx hb d_Model_others_144 (by decide) ?_
      refine lv_aload_n hx hb d_Model_others_145 rfl (lv_at hl 0 rfl) ?_
      refine va_get (D := (dC, dI)) (ci := 10) (v := .ref (r 27)) (C := R_Model) (T := F_Model) (N := 54) hx hb hg i_Model hown hK hP 0 rfl rfl 27 (by decide) (hg _ k731) (fun _ h9 => h9) rfl d_Model_others_146 ?_
      refine lv_aload_n hx hb d_Model_others_149 rfl (lv_at hl 0 rfl) ?_
      refine va_get (D := (dC, dI)) (ci := 10) (v := .int (I 29)) (C := R_Model) (T := F_Model) (N := 54) hx hb hg i_Model hown hK hP 0 rfl rfl 29 (by decide) (hg _ k719) (fun _ h9 => h9) rfl d_Model_others_150 ?_
      refine lv_iconst (v := 1) hx hb d_Model_others_153 (by decide) ?_
      refine lv_isub hx hb d_Model_others_154 ?_
      obtain ⟨i11, h⟩ := dz_oi h
      refine va_iald (D := (dC, dI)) (f := F 27) hx hb hK hP 17 1 rfl rfl i11 d_Model_others_155 ?_
      refine lv_aload_n hx hb d_Model_others_156 rfl (lv_at hl 0 rfl) ?_
      refine va_get (D := (dC, dI)) (ci := 10) (v := .ref (r 28)) (C := R_Model) (T := F_Model) (N := 54) hx hb hg i_Model hown hK hP 0 rfl rfl 28 (by decide) (hg _ k732) (fun _ h9 => h9) rfl d_Model_others_157 ?_
      refine lv_aload_n hx hb d_Model_others_160 rfl (lv_at hl 0 rfl) ?_
      refine va_get (D := (dC, dI)) (ci := 10) (v := .int (I 29)) (C := R_Model) (T := F_Model) (N := 54) hx hb hg i_Model hown hK hP 0 rfl rfl 29 (by decide) (hg _ k719) (fun _ h9 => h9) rfl d_Model_others_161 ?_
      refine lv_iconst (v := 1) hx hb d_Model_others_164 (by decide) ?_
      refine lv_isub hx hb d_Model_others_165 ?_
      obtain ⟨i12, h⟩ := dz_oi h
      refine va_iald (D := (dC, dI)) (f := F 28) hx hb hK hP 18 1 rfl rfl i12 d_Model_others_166 ?_
      refine lv_iconst (v := 1) hx hb d_Model_others_167 (by decide) ?_
      obtain ⟨⟨z13_1, z13_2, z13_3⟩, hc13, h⟩ := dz_ob h
      try dsimp only at h
      have hPc := hP
      have hKc := hK
      have hDc := hD
      have hFc := dz_freeall hD hS hA
      refine va_calli (va_runV (As := [.int 1, .int ((F 27) ((I 29) - 1).toNatClampNeg), .int ((F 28) ((I 29) - 1).toNatClampNeg), .int 1]) (rest := []) ⟨hx, hb, hml, hown, hg⟩ (c_Model_raise l dC dI N cB cI o_Model r I F (1 : Int32) ((F 27) ((I 29) - 1).toNatClampNeg) ((F 28) ((I 29) - 1).toNatClampNeg) (1 : Int32) s.heap.size (z13_1, z13_2, z13_3) hc13) (cwV 4 hg (gd_V k866 k867 k868 k707 k865) rfl rfl rfl (by decide +kernel) ⟨Nat.le_of_ble_eq_true rfl, Nat.le_of_ble_eq_true rfl⟩) ⟨dz_blind, va_recv hKc hPc (ci := 10) (q0 := 0) rfl rfl, fun U hU hW => ⟨rfl, dz_Nw hW hN, by rw [hU], by rw [hU]; exact hPc, va_K.moved hW.alike hKc, hDc.weaken (fun _ _ _ _ => trivial)⟩⟩ rfl rfl hl.1 rfl (lv_room (Nat.le_of_ble_eq_true rfl)) d_Model_others_168 ⟨Nat.le_of_ble_eq_true rfl, Nat.le_of_ble_eq_true rfl⟩) hS (fun q _ h => hFc q h) hFc (fun r13 u13 t13 H1 locs ht hvm hw hB hz1 hk1 hS => ?_)
      obtain ⟨hP1, hK1, hD1⟩ := hB
      rw [ht] at hP1
      have hP := hP1
      have hD := hD1.weaken (fun _ q _ h => hFc q.1 h)
      have hw : z13_1 = r13 := hw.symm
      subst hw
      generalize H1 = H at hP hS ⊢
      have hP : va_P (dC, dI) classes (wD cB cI o_Model r z13_3 z13_2) H := hP
      have hD : va_D A (wD cB cI o_Model r z13_3 z13_2) := hD
      refine lv_goto (tgt := 175) hx hb d_Model_others_171 (by decide) ?_
      obtain rfl := Option.some.inj h
      have hP9 := hP
      have hD9 := hD
      have hK9 := hK
      exact W.iret (v := z13_1) hx hb hr (fun t ht hW => ⟨⟨z13_1, (), rfl, rfl, by rw [ht]; exact hP9, va_K.moved hW.alike hK9, hD9⟩, hS.F ht⟩) hS.2.2 d_Model_others_175
    · rw [if_pos c10] at h
      refine lv_aload_n hx hb d_Model_others_133 rfl (lv_at hl 0 rfl) ?_
      refine lv_iconst (v := 1) hx hb d_Model_others_134 (by decide) ?_
      refine lv_bipush (v := 7) hx hb d_Model_others_135 (by decide) ?_
      obtain ⟨z14_1, hc14, h⟩ := dz_ob h
      try dsimp only at h
      have hPc := hP
      have hKc := hK
      refine vp_callSi (va_Run.run (va_runV (As := [.int 1, .int 7]) (rest := []) ⟨hx, hb, hml, hown, hg⟩ (c_Model_is l dC dI N cB cI o_Model r I F (1 : Int32) (7 : Int32) z14_1 hc14) (cwV 2 hg (gd_V k808 k809 k810 k707 k807) rfl rfl rfl (by decide +kernel) ⟨Nat.le_of_ble_eq_true rfl, Nat.le_of_ble_eq_true rfl⟩) ⟨dz_blindR, va_recv hKc hPc (ci := 10) (q0 := 0) rfl rfl, fun U hU hW => ⟨rfl, dz_Nw hW hN, by rw [hU]; exact hPc, va_K.moved hW.alike hKc⟩⟩ rfl rfl hl.1 rfl (lv_room (Nat.le_of_ble_eq_true rfl)) d_Model_others_137 ⟨Nat.le_of_ble_eq_true rfl, Nat.le_of_ble_eq_true rfl⟩)) (fun r14 hw => ?_)
      obtain ⟨hw, hbz14⟩ := hw
      have hw : z14_1 = r14 := hw.symm
      subst hw
      refine lv_if_eq (tgt := 174) hx hb d_Model_others_140 (by decide) (fun c15 => ?_) (fun c15 => ?_)
      · rw [if_pos c15] at h
        refine lv_iconst (v := 4) hx hb d_Model_others_174 (by decide) ?_
        obtain rfl := Option.some.inj h
        have hP9 := hP
        have hD9 := hD
        have hK9 := hK
        exact W.iret (v := 4) hx hb hr (fun t ht hW => ⟨⟨4, (), rfl, rfl, by rw [ht]; exact hP9, va_K.moved hW.alike hK9, hD9⟩, hS.F ht⟩) hS.2.2 d_Model_others_175
      · rw [if_neg c15] at h
        refine lv_aload_n hx hb d_Model_others_143 rfl (lv_at hl 0 rfl) ?_
        refine lv_iconst (v := 1) hx hb d_Model_others_144 (by decide) ?_
        refine lv_aload_n hx hb d_Model_others_145 rfl (lv_at hl 0 rfl) ?_
        refine va_get (D := (dC, dI)) (ci := 10) (v := .ref (r 27)) (C := R_Model) (T := F_Model) (N := 54) hx hb hg i_Model hown hK hP 0 rfl rfl 27 (by decide) (hg _ k731) (fun _ h9 => h9) rfl d_Model_others_146 ?_
        refine lv_aload_n hx hb d_Model_others_149 rfl (lv_at hl 0 rfl) ?_
        refine va_get (D := (dC, dI)) (ci := 10) (v := .int (I 29)) (C := R_Model) (T := F_Model) (N := 54) hx hb hg i_Model hown hK hP 0 rfl rfl 29 (by decide) (hg _ k719) (fun _ h9 => h9) rfl d_Model_others_150 ?_
        refine lv_iconst (v := 1) hx hb d_Model_others_153 (by decide) ?_
        refine lv_isub hx hb d_Model_others_154 ?_
        obtain ⟨i16, h⟩ := dz_oi h
        refine va_iald (D := (dC, dI)) (f := F 27) hx hb hK hP 17 1 rfl rfl i16 d_Model_others_155 ?_
        refine lv_aload_n hx hb d_Model_others_156 rfl (lv_at hl 0 rfl) ?_
        refine va_get (D := (dC, dI)) (ci := 10) (v := .ref (r 28)) (C := R_Model) (T := F_Model) (N := 54) hx hb hg i_Model hown hK hP 0 rfl rfl 28 (by decide) (hg _ k732) (fun _ h9 => h9) rfl d_Model_others_157 ?_
        refine lv_aload_n hx hb d_Model_others_160 rfl (lv_at hl 0 rfl) ?_
        refine va_get (D := (dC, dI)) (ci := 10) (v := .int (I 29)) (C := R_Model) (T := F_Model) (N := 54) hx hb hg i_Model hown hK hP 0 rfl rfl 29 (by decide) (hg _ k719) (fun _ h9 => h9) rfl d_Model_others_161 ?_
        refine lv_iconst (v := 1) hx hb d_Model_others_164 (by decide) ?_
        refine lv_isub hx hb d_Model_others_165 ?_
        obtain ⟨i17, h⟩ := dz_oi h
        refine va_iald (D := (dC, dI)) (f := F 28) hx hb hK hP 18 1 rfl rfl i17 d_Model_others_166 ?_
        refine lv_iconst (v := 1) hx hb d_Model_others_167 (by decide) ?_
        obtain ⟨⟨z18_1, z18_2, z18_3⟩, hc18, h⟩ := dz_ob h
        try dsimp only at h
        have hPc := hP
        have hKc := hK
        have hDc := hD
        have hFc := dz_freeall hD hS hA
        refine va_calli (va_runV (As := [.int 1, .int ((F 27) ((I 29) - 1).toNatClampNeg), .int ((F 28) ((I 29) - 1).toNatClampNeg), .int 1]) (rest := []) ⟨hx, hb, hml, hown, hg⟩ (c_Model_raise l dC dI N cB cI o_Model r I F (1 : Int32) ((F 27) ((I 29) - 1).toNatClampNeg) ((F 28) ((I 29) - 1).toNatClampNeg) (1 : Int32) s.heap.size (z18_1, z18_2, z18_3) hc18) (cwV 4 hg (gd_V k866 k867 k868 k707 k865) rfl rfl rfl (by decide +kernel) ⟨Nat.le_of_ble_eq_true rfl, Nat.le_of_ble_eq_true rfl⟩) ⟨dz_blind, va_recv hKc hPc (ci := 10) (q0 := 0) rfl rfl, fun U hU hW => ⟨rfl, dz_Nw hW hN, by rw [hU], by rw [hU]; exact hPc, va_K.moved hW.alike hKc, hDc.weaken (fun _ _ _ _ => trivial)⟩⟩ rfl rfl hl.1 rfl (lv_room (Nat.le_of_ble_eq_true rfl)) d_Model_others_168 ⟨Nat.le_of_ble_eq_true rfl, Nat.le_of_ble_eq_true rfl⟩) hS (fun q _ h => hFc q h) hFc (fun r18 u18 t18 H1 locs ht hvm hw hB hz1 hk1 hS => ?_)
        obtain ⟨hP1, hK1, hD1⟩ := hB
        rw [ht] at hP1
        have hP := hP1
        have hD := hD1.weaken (fun _ q _ h => hFc q.1 h)
        have hw : z18_1 = r18 := hw.symm
        subst hw
        generalize H1 = H at hP hS ⊢
        have hP : va_P (dC, dI) classes (wD cB cI o_Model r z18_3 z18_2) H := hP
        have hD : va_D A (wD cB cI o_Model r z18_3 z18_2) := hD
        refine lv_goto (tgt := 175) hx hb d_Model_others_171 (by decide) ?_
        obtain rfl := Option.some.inj h
        have hP9 := hP
        have hD9 := hD
        have hK9 := hK
        exact W.iret (v := z18_1) hx hb hr (fun t ht hW => ⟨⟨z18_1, (), rfl, rfl, by rw [ht]; exact hP9, va_K.moved hW.alike hK9, hD9⟩, hS.F ht⟩) hS.2.2 d_Model_others_175
  rw [if_neg s1_28] at h
  by_cases s1_29 : p1 = 29
  · rw [if_pos s1_29] at h
    refine lv_tableIn (off := 175) (tgt := 176) hx hb d_Model_others_1 (by rw [s1_29]; decide) (by rw [s1_29]; decide) (by rw [s1_29]; decide) (by decide) ?_
    refine lv_aload_n hx hb d_Model_others_176 rfl (lv_at hl 0 rfl) ?_
    refine lv_iconst (v := 2) hx hb d_Model_others_177 (by decide) ?_
    refine lv_aload_n hx hb d_Model_others_178 rfl (lv_at hl 0 rfl) ?_
    refine lv_iload_n hx hb d_Model_others_179 rfl (lv_at hl 3 rfl) ?_
    obtain ⟨⟨z19_1, z19_2, z19_3⟩, hc19, h⟩ := dz_ob h
    try dsimp only at h
    have hPc := hP
    have hKc := hK
    have hDc := hD
    have hFc := dz_freeall hD hS hA
    refine va_calli (va_runV (As := [.int p2]) (rest := [.int 2, .ref o_Model]) ⟨hx, hb, hml, hown, hg⟩ (c_Model_name l dC dI N cB cI o_Model r I F p2 s.heap.size (z19_1, z19_2, z19_3) hc19) (cwV 1 hg (gd_V k943 k944 k945 k707 k942) rfl rfl rfl (by decide +kernel) ⟨Nat.le_of_ble_eq_true rfl, Nat.le_of_ble_eq_true rfl⟩) ⟨dz_blind, va_recv hKc hPc (ci := 10) (q0 := 0) rfl rfl, fun U hU hW => ⟨rfl, dz_Nw hW hN, by rw [hU], by rw [hU]; exact hPc, va_K.moved hW.alike hKc, hDc.weaken (fun _ _ _ _ => trivial)⟩⟩ rfl rfl hl.1 rfl (lv_room (Nat.le_of_ble_eq_true rfl)) d_Model_others_180 ⟨Nat.le_of_ble_eq_true rfl, Nat.le_of_ble_eq_true rfl⟩) hS (fun q _ h => hFc q h) hFc (fun r19 u19 t19 H1 locs ht hvm hw hB hz1 hk1 hS => ?_)
    obtain ⟨hP1, hK1, hD1⟩ := hB
    rw [ht] at hP1
    have hP := hP1
    have hD := hD1.weaken (fun _ q _ h => hFc q.1 h)
    have hw : z19_1 = r19 := hw.symm
    subst hw
    generalize H1 = H at hP hS ⊢
    have hP : va_P (dC, dI) classes (wD cB cI o_Model r z19_3 z19_2) H := hP
    have hD : va_D A (wD cB cI o_Model r z19_3 z19_2) := hD
    obtain ⟨⟨z20_1, z20_2⟩, hc20, h⟩ := dz_ob h
    try dsimp only at h
    have hPc := hP
    have hKc := hK
    have hDc := hD
    have hFc := dz_freeall hD hS hA
    refine va_calli (va_runV (As := [.int 2, .int z19_1]) (rest := []) ⟨hx, hb, hml, hown, hg⟩ (c_Model_next l dC dI N cB cI o_Model r z19_3 z19_2 (2 : Int32) z19_1 H.size (z20_1, z20_2) hc20) (cwV 2 hg (gd_V k871 k872 k873 k707 k870) rfl rfl rfl (by decide +kernel) ⟨Nat.le_of_ble_eq_true rfl, Nat.le_of_ble_eq_true rfl⟩) ⟨dz_blind, va_recv hKc hPc (ci := 10) (q0 := 0) rfl rfl, fun U hU hW => ⟨rfl, dz_Nw hW hN, by rw [hU], by rw [hU]; exact hPc, va_K.moved hW.alike hKc, hDc.weaken (fun _ _ _ _ => trivial)⟩⟩ rfl rfl hl.1 rfl (lv_room (Nat.le_of_ble_eq_true rfl)) d_Model_others_183 ⟨Nat.le_of_ble_eq_true rfl, Nat.le_of_ble_eq_true rfl⟩) hS (fun q _ h => hFc q h) hFc (fun r20 u20 t20 H1 locs ht hvm hw hB hz1 hk1 hS => ?_)
    obtain ⟨hP1, hK1, hD1⟩ := hB
    rw [ht] at hP1
    have hP := hP1
    have hD := hD1.weaken (fun _ q _ h => hFc q.1 h)
    have hw : z20_1 = r20 := hw.symm
    subst hw
    generalize H1 = H at hP hS ⊢
    have hP : va_P (dC, dI) classes (wD cB cI o_Model r z20_2 z19_2) H := hP
    have hD : va_D A (wD cB cI o_Model r z20_2 z19_2) := hD
    obtain rfl := Option.some.inj h
    have hP9 := hP
    have hD9 := hD
    have hK9 := hK
    exact W.iret (v := z20_1) hx hb hr (fun t ht hW => ⟨⟨z20_1, (), rfl, rfl, by rw [ht]; exact hP9, va_K.moved hW.alike hK9, hD9⟩, hS.F ht⟩) hS.2.2 d_Model_others_186
  rw [if_neg s1_29] at h
  by_cases s1_30 : p1 = 30
  · rw [if_pos s1_30] at h
    refine lv_tableIn (off := 186) (tgt := 187) hx hb d_Model_others_1 (by rw [s1_30]; decide) (by rw [s1_30]; decide) (by rw [s1_30]; decide) (by decide) ?_
    refine lv_aload_n hx hb d_Model_others_187 rfl (lv_at hl 0 rfl) ?_
    refine lv_iconst (v := 1) hx hb d_Model_others_188 (by decide) ?_
    refine lv_aload_n hx hb d_Model_others_189 rfl (lv_at hl 0 rfl) ?_
    obtain ⟨⟨z21_1, z21_2, z21_3⟩, hc21, h⟩ := dz_ob h
    try dsimp only at h
    have hPc := hP
    have hKc := hK
    have hDc := hD
    have hFc := dz_freeall hD hS hA
    refine va_calli (va_runV (As := []) (rest := [.int 1, .ref o_Model]) ⟨hx, hb, hml, hown, hg⟩ (c_Model_packet l dC dI N cB cI o_Model r I F s.heap.size (z21_1, z21_2, z21_3) hc21) (cwV 0 hg (gd_V k947 k948 k949 k707 k946) rfl rfl rfl (by decide +kernel) ⟨Nat.le_of_ble_eq_true rfl, Nat.le_of_ble_eq_true rfl⟩) ⟨dz_blind, va_recv hKc hPc (ci := 10) (q0 := 0) rfl rfl, fun U hU hW => ⟨rfl, dz_Nw hW hN, by rw [hU], by rw [hU]; exact hPc, va_K.moved hW.alike hKc, hDc.weaken (fun _ _ _ _ => trivial)⟩⟩ rfl rfl hl.1 rfl (lv_room (Nat.le_of_ble_eq_true rfl)) d_Model_others_190 ⟨Nat.le_of_ble_eq_true rfl, Nat.le_of_ble_eq_true rfl⟩) hS (fun q _ h => hFc q h) hFc (fun r21 u21 t21 H1 locs ht hvm hw hB hz1 hk1 hS => ?_)
    obtain ⟨hP1, hK1, hD1⟩ := hB
    rw [ht] at hP1
    have hP := hP1
    have hD := hD1.weaken (fun _ q _ h => hFc q.1 h)
    have hw : z21_1 = r21 := hw.symm
    subst hw
    generalize H1 = H at hP hS ⊢
    have hP : va_P (dC, dI) classes (wD cB cI o_Model r z21_3 z21_2) H := hP
    have hD : va_D A (wD cB cI o_Model r z21_3 z21_2) := hD
    obtain ⟨⟨z22_1, z22_2⟩, hc22, h⟩ := dz_ob h
    try dsimp only at h
    have hPc := hP
    have hKc := hK
    have hDc := hD
    have hFc := dz_freeall hD hS hA
    refine va_calli (va_runV (As := [.int 1, .int z21_1]) (rest := []) ⟨hx, hb, hml, hown, hg⟩ (c_Model_next l dC dI N cB cI o_Model r z21_3 z21_2 (1 : Int32) z21_1 H.size (z22_1, z22_2) hc22) (cwV 2 hg (gd_V k871 k872 k873 k707 k870) rfl rfl rfl (by decide +kernel) ⟨Nat.le_of_ble_eq_true rfl, Nat.le_of_ble_eq_true rfl⟩) ⟨dz_blind, va_recv hKc hPc (ci := 10) (q0 := 0) rfl rfl, fun U hU hW => ⟨rfl, dz_Nw hW hN, by rw [hU], by rw [hU]; exact hPc, va_K.moved hW.alike hKc, hDc.weaken (fun _ _ _ _ => trivial)⟩⟩ rfl rfl hl.1 rfl (lv_room (Nat.le_of_ble_eq_true rfl)) d_Model_others_193 ⟨Nat.le_of_ble_eq_true rfl, Nat.le_of_ble_eq_true rfl⟩) hS (fun q _ h => hFc q h) hFc (fun r22 u22 t22 H1 locs ht hvm hw hB hz1 hk1 hS => ?_)
    obtain ⟨hP1, hK1, hD1⟩ := hB
    rw [ht] at hP1
    have hP := hP1
    have hD := hD1.weaken (fun _ q _ h => hFc q.1 h)
    have hw : z22_1 = r22 := hw.symm
    subst hw
    generalize H1 = H at hP hS ⊢
    have hP : va_P (dC, dI) classes (wD cB cI o_Model r z22_2 z21_2) H := hP
    have hD : va_D A (wD cB cI o_Model r z22_2 z21_2) := hD
    obtain rfl := Option.some.inj h
    have hP9 := hP
    have hD9 := hD
    have hK9 := hK
    exact W.iret (v := z22_1) hx hb hr (fun t ht hW => ⟨⟨z22_1, (), rfl, rfl, by rw [ht]; exact hP9, va_K.moved hW.alike hK9, hD9⟩, hS.F ht⟩) hS.2.2 d_Model_others_196
  rw [if_neg s1_30] at h
  by_cases s1_31 : p1 = 31
  · rw [if_pos s1_31] at h
    refine lv_tableIn (off := 196) (tgt := 197) hx hb d_Model_others_1 (by rw [s1_31]; decide) (by rw [s1_31]; decide) (by rw [s1_31]; decide) (by decide) ?_
    refine lv_aload_n hx hb d_Model_others_197 rfl (lv_at hl 0 rfl) ?_
    refine lv_iconst (v := 1) hx hb d_Model_others_198 (by decide) ?_
    refine lv_aload_n hx hb d_Model_others_199 rfl (lv_at hl 0 rfl) ?_
    refine lv_iconst (v := 1) hx hb d_Model_others_200 (by decide) ?_
    obtain ⟨z23_1, hc23, h⟩ := dz_ob h
    try dsimp only at h
    have hPc := hP
    have hKc := hK
    refine vp_callSi (va_Run.run (va_runV (As := [.int 1]) (rest := [.int 1, .ref o_Model]) ⟨hx, hb, hml, hown, hg⟩ (c_Model_isName l dC dI N cB cI o_Model r I F (1 : Int32) z23_1 hc23) (cwV 1 hg (gd_V k835 k836 k837 k707 k834) rfl rfl rfl (by decide +kernel) ⟨Nat.le_of_ble_eq_true rfl, Nat.le_of_ble_eq_true rfl⟩) ⟨dz_blindR, va_recv hKc hPc (ci := 10) (q0 := 0) rfl rfl, fun U hU hW => ⟨rfl, dz_Nw hW hN, by rw [hU]; exact hPc, va_K.moved hW.alike hKc⟩⟩ rfl rfl hl.1 rfl (lv_room (Nat.le_of_ble_eq_true rfl)) d_Model_others_201 ⟨Nat.le_of_ble_eq_true rfl, Nat.le_of_ble_eq_true rfl⟩)) (fun r23 hw => ?_)
    obtain ⟨hw, hbz23⟩ := hw
    have hw : z23_1 = r23 := hw.symm
    subst hw
    refine lv_if_eq (tgt := 211) hx hb d_Model_others_204 (by decide) (fun c24 => ?_) (fun c24 => ?_)
    · rw [if_pos c24] at h
      refine lv_aload_n hx hb d_Model_others_211 rfl (lv_at hl 0 rfl) ?_
      refine lv_iconst (v := 1) hx hb d_Model_others_212 (by decide) ?_
      refine lv_bipush (v := 7) hx hb d_Model_others_213 (by decide) ?_
      obtain ⟨z25_1, hc25, h⟩ := dz_ob h
      try dsimp only at h
      have hPc := hP
      have hKc := hK
      refine vp_callSi (va_Run.run (va_runV (As := [.int 1, .int 7]) (rest := [.int 1, .ref o_Model]) ⟨hx, hb, hml, hown, hg⟩ (c_Model_is l dC dI N cB cI o_Model r I F (1 : Int32) (7 : Int32) z25_1 hc25) (cwV 2 hg (gd_V k808 k809 k810 k707 k807) rfl rfl rfl (by decide +kernel) ⟨Nat.le_of_ble_eq_true rfl, Nat.le_of_ble_eq_true rfl⟩) ⟨dz_blindR, va_recv hKc hPc (ci := 10) (q0 := 0) rfl rfl, fun U hU hW => ⟨rfl, dz_Nw hW hN, by rw [hU]; exact hPc, va_K.moved hW.alike hKc⟩⟩ rfl rfl hl.1 rfl (lv_room (Nat.le_of_ble_eq_true rfl)) d_Model_others_215 ⟨Nat.le_of_ble_eq_true rfl, Nat.le_of_ble_eq_true rfl⟩)) (fun r25 hw => ?_)
      obtain ⟨hw, hbz25⟩ := hw
      have hw : z25_1 = r25 := hw.symm
      subst hw
      refine lv_if_eq (tgt := 257) hx hb d_Model_others_218 (by decide) (fun c26 => ?_) (fun c26 => ?_)
      · rw [if_pos c26] at h
        refine lv_iconst (v := 4) hx hb d_Model_others_257 (by decide) ?_
        obtain ⟨⟨z27_1, z27_2⟩, hc27, h⟩ := dz_ob h
        try dsimp only at h
        have hPc := hP
        have hKc := hK
        have hDc := hD
        have hFc := dz_freeall hD hS hA
        refine va_calli (va_runV (As := [.int 1, .int 4]) (rest := []) ⟨hx, hb, hml, hown, hg⟩ (c_Model_next l dC dI N cB cI o_Model r I F (1 : Int32) (4 : Int32) s.heap.size (z27_1, z27_2) hc27) (cwV 2 hg (gd_V k871 k872 k873 k707 k870) rfl rfl rfl (by decide +kernel) ⟨Nat.le_of_ble_eq_true rfl, Nat.le_of_ble_eq_true rfl⟩) ⟨dz_blind, va_recv hKc hPc (ci := 10) (q0 := 0) rfl rfl, fun U hU hW => ⟨rfl, dz_Nw hW hN, by rw [hU], by rw [hU]; exact hPc, va_K.moved hW.alike hKc, hDc.weaken (fun _ _ _ _ => trivial)⟩⟩ rfl rfl hl.1 rfl (lv_room (Nat.le_of_ble_eq_true rfl)) d_Model_others_258 ⟨Nat.le_of_ble_eq_true rfl, Nat.le_of_ble_eq_true rfl⟩) hS (fun q _ h => hFc q h) hFc (fun r27 u27 t27 H1 locs ht hvm hw hB hz1 hk1 hS => ?_)
        obtain ⟨hP1, hK1, hD1⟩ := hB
        rw [ht] at hP1
        have hP := hP1
        have hD := hD1.weaken (fun _ q _ h => hFc q.1 h)
        have hw : z27_1 = r27 := hw.symm
        subst hw
        generalize H1 = H at hP hS ⊢
        have hP : va_P (dC, dI) classes (wD cB cI o_Model r z27_2 F) H := hP
        have hD : va_D A (wD cB cI o_Model r z27_2 F) := hD
        obtain rfl := Option.some.inj h
        have hP9 := hP
        have hD9 := hD
        have hK9 := hK
        exact W.iret (v := z27_1) hx hb hr (fun t ht hW => ⟨⟨z27_1, (), rfl, rfl, by rw [ht]; exact hP9, va_K.moved hW.alike hK9, hD9⟩, hS.F ht⟩) hS.2.2 d_Model_others_261
      · rw [if_neg c26] at h
        refine lv_aload_n hx hb d_Model_others_221 rfl (lv_at hl 0 rfl) ?_
        refine lv_iconst (v := 1) hx hb d_Model_others_222 (by decide) ?_
        refine lv_iconst (v := 1) hx hb d_Model_others_223 (by decide) ?_
        refine lv_aload_n hx hb d_Model_others_224 rfl (lv_at hl 0 rfl) ?_
        refine va_get (D := (dC, dI)) (ci := 10) (v := .ref (r 0)) (C := R_Model) (T := F_Model) (N := 54) hx hb hg i_Model hown hK hP 0 rfl rfl 0 (by decide) (hg _ k737) (fun _ h9 => h9) rfl d_Model_others_225 ?_
        refine lv_aload_n hx hb d_Model_others_228 rfl (lv_at hl 0 rfl) ?_
        refine lv_iconst (v := 1) hx hb d_Model_others_229 (by decide) ?_
        obtain ⟨z28_1, hc28, h⟩ := dz_ob h
        try dsimp only at h
        have hPc := hP
        have hKc := hK
        refine vp_callSi (va_Run.run (va_runV (As := [.int 1]) (rest := [.ref (r 0), .int 1, .int 1, .ref o_Model, .int 1, .ref o_Model]) ⟨hx, hb, hml, hown, hg⟩ (c_Model_scalar l dC dI N cB cI o_Model r I F (1 : Int32) z28_1 hc28) (cwV 1 hg (gd_V k804 k805 k806 k707 k803) rfl rfl rfl (by decide +kernel) ⟨Nat.le_of_ble_eq_true rfl, Nat.le_of_ble_eq_true rfl⟩) ⟨dz_blindR, va_recv hKc hPc (ci := 10) (q0 := 0) rfl rfl, fun U hU hW => ⟨rfl, dz_Nw hW hN, by rw [hU]; exact hPc, va_K.moved hW.alike hKc⟩⟩ rfl rfl hl.1 rfl (lv_room (Nat.le_of_ble_eq_true rfl)) d_Model_others_230 ⟨Nat.le_of_ble_eq_true rfl, Nat.le_of_ble_eq_true rfl⟩)) (fun r28 hw => ?_)
        have hw : z28_1 = r28 := hw.symm
        subst hw
        obtain ⟨i29, h⟩ := dz_oi h
        refine va_iald (D := (dC, dI)) (f := F 0) hx hb hK hP 1 1 rfl rfl i29 d_Model_others_233 ?_
        refine lv_bipush (v := 8) hx hb d_Model_others_234 (by decide) ?_
        refine lv_iushr (v := (((F 0) z28_1.toNatClampNeg).toUInt32 >>> ((8 : Int32).toUInt32 &&& Int32.toUInt32 31)).toInt32) hx hb d_Model_others_236 rfl ?_
        obtain ⟨x30, ex30, h⟩ := dz_lt h
        refine dz_topi ex30 ?_
        refine lv_bipush (v := 8) hx hb d_Model_others_237 (by decide) ?_
        refine lv_ishl hx hb d_Model_others_239 ?_
        refine lv_ior hx hb d_Model_others_240 ?_
        refine lv_aload_n hx hb d_Model_others_241 rfl (lv_at hl 0 rfl) ?_
        refine va_get (D := (dC, dI)) (ci := 10) (v := .ref (r 1)) (C := R_Model) (T := F_Model) (N := 54) hx hb hg i_Model hown hK hP 0 rfl rfl 1 (by decide) (hg _ k742) (fun _ h9 => h9) rfl d_Model_others_242 ?_
        refine lv_aload_n hx hb d_Model_others_245 rfl (lv_at hl 0 rfl) ?_
        refine lv_iconst (v := 1) hx hb d_Model_others_246 (by decide) ?_
        obtain ⟨z31_1, hc31, h⟩ := dz_ob h
        try dsimp only at h
        have hPc := hP
        have hKc := hK
        refine vp_callSi (va_Run.run (va_runV (As := [.int 1]) (rest := [.ref (r 1), .int ((1 : Int32) ||| (x30 <<< ((8 : Int32) &&& 31))), .int 1, .ref o_Model, .int 1, .ref o_Model]) ⟨hx, hb, hml, hown, hg⟩ (c_Model_scalar l dC dI N cB cI o_Model r I F (1 : Int32) z31_1 hc31) (cwV 1 hg (gd_V k804 k805 k806 k707 k803) rfl rfl rfl (by decide +kernel) ⟨Nat.le_of_ble_eq_true rfl, Nat.le_of_ble_eq_true rfl⟩) ⟨dz_blindR, va_recv hKc hPc (ci := 10) (q0 := 0) rfl rfl, fun U hU hW => ⟨rfl, dz_Nw hW hN, by rw [hU]; exact hPc, va_K.moved hW.alike hKc⟩⟩ rfl rfl hl.1 rfl (lv_room (Nat.le_of_ble_eq_true rfl)) d_Model_others_247 ⟨Nat.le_of_ble_eq_true rfl, Nat.le_of_ble_eq_true rfl⟩)) (fun r31 hw => ?_)
        have hw : z31_1 = r31 := hw.symm
        subst hw
        obtain ⟨i32, h⟩ := dz_oi h
        refine va_iald (D := (dC, dI)) (f := F 1) hx hb hK hP 2 1 rfl rfl i32 d_Model_others_250 ?_
        obtain ⟨⟨z33_1, z33_2, z33_3⟩, hc33, h⟩ := dz_ob h
        try dsimp only at h
        have hPc := hP
        have hKc := hK
        have hDc := hD
        have hFc := dz_freeall hD hS hA
        refine va_calli (va_runV (As := [.int 1, .int ((1 : Int32) ||| (x30 <<< ((8 : Int32) &&& 31))), .int ((F 1) z31_1.toNatClampNeg)]) (rest := [.int 1, .ref o_Model]) ⟨hx, hb, hml, hown, hg⟩ (c_Model_give l dC dI N cB cI o_Model r I F (1 : Int32) ((1 : Int32) ||| (x30 <<< ((8 : Int32) &&& 31))) ((F 1) z31_1.toNatClampNeg) s.heap.size (z33_1, z33_2, z33_3) hc33) (cwV 3 hg (gd_V k734 k735 k736 k707 k733) rfl rfl rfl (by decide +kernel) ⟨Nat.le_of_ble_eq_true rfl, Nat.le_of_ble_eq_true rfl⟩) ⟨dz_blind, va_recv hKc hPc (ci := 10) (q0 := 0) rfl rfl, fun U hU hW => ⟨rfl, dz_Nw hW hN, by rw [hU], by rw [hU]; exact hPc, va_K.moved hW.alike hKc, hDc.weaken (fun _ _ _ _ => trivial)⟩⟩ rfl rfl hl.1 rfl (lv_room (Nat.le_of_ble_eq_true rfl)) d_Model_others_251 ⟨Nat.le_of_ble_eq_true rfl, Nat.le_of_ble_eq_true rfl⟩) hS (fun q _ h => hFc q h) hFc (fun r33 u33 t33 H1 locs ht hvm hw hB hz1 hk1 hS => ?_)
        obtain ⟨hP1, hK1, hD1⟩ := hB
        rw [ht] at hP1
        have hP := hP1
        have hD := hD1.weaken (fun _ q _ h => hFc q.1 h)
        have hw : z33_1 = r33 := hw.symm
        subst hw
        generalize H1 = H at hP hS ⊢
        have hP : va_P (dC, dI) classes (wD cB cI o_Model r z33_3 z33_2) H := hP
        have hD : va_D A (wD cB cI o_Model r z33_3 z33_2) := hD
        refine lv_goto (tgt := 258) hx hb d_Model_others_254 (by decide) ?_
        obtain ⟨⟨z34_1, z34_2⟩, hc34, h⟩ := dz_ob h
        try dsimp only at h
        have hPc := hP
        have hKc := hK
        have hDc := hD
        have hFc := dz_freeall hD hS hA
        refine va_calli (va_runV (As := [.int 1, .int z33_1]) (rest := []) ⟨hx, hb, hml, hown, hg⟩ (c_Model_next l dC dI N cB cI o_Model r z33_3 z33_2 (1 : Int32) z33_1 H.size (z34_1, z34_2) hc34) (cwV 2 hg (gd_V k871 k872 k873 k707 k870) rfl rfl rfl (by decide +kernel) ⟨Nat.le_of_ble_eq_true rfl, Nat.le_of_ble_eq_true rfl⟩) ⟨dz_blind, va_recv hKc hPc (ci := 10) (q0 := 0) rfl rfl, fun U hU hW => ⟨rfl, dz_Nw hW hN, by rw [hU], by rw [hU]; exact hPc, va_K.moved hW.alike hKc, hDc.weaken (fun _ _ _ _ => trivial)⟩⟩ rfl rfl hl.1 rfl (lv_room (Nat.le_of_ble_eq_true rfl)) d_Model_others_258 ⟨Nat.le_of_ble_eq_true rfl, Nat.le_of_ble_eq_true rfl⟩) hS (fun q _ h => hFc q h) hFc (fun r34 u34 t34 H1 locs ht hvm hw hB hz1 hk1 hS => ?_)
        obtain ⟨hP1, hK1, hD1⟩ := hB
        rw [ht] at hP1
        have hP := hP1
        have hD := hD1.weaken (fun _ q _ h => hFc q.1 h)
        have hw : z34_1 = r34 := hw.symm
        subst hw
        generalize H1 = H at hP hS ⊢
        have hP : va_P (dC, dI) classes (wD cB cI o_Model r z34_2 z33_2) H := hP
        have hD : va_D A (wD cB cI o_Model r z34_2 z33_2) := hD
        obtain rfl := Option.some.inj h
        have hP9 := hP
        have hD9 := hD
        have hK9 := hK
        exact W.iret (v := z34_1) hx hb hr (fun t ht hW => ⟨⟨z34_1, (), rfl, rfl, by rw [ht]; exact hP9, va_K.moved hW.alike hK9, hD9⟩, hS.F ht⟩) hS.2.2 d_Model_others_261
    · rw [if_neg c24] at h
      refine lv_iconst (v := 5) hx hb d_Model_others_207 (by decide) ?_
      refine lv_goto (tgt := 258) hx hb d_Model_others_208 (by decide) ?_
      obtain ⟨⟨z35_1, z35_2⟩, hc35, h⟩ := dz_ob h
      try dsimp only at h
      have hPc := hP
      have hKc := hK
      have hDc := hD
      have hFc := dz_freeall hD hS hA
      refine va_calli (va_runV (As := [.int 1, .int 5]) (rest := []) ⟨hx, hb, hml, hown, hg⟩ (c_Model_next l dC dI N cB cI o_Model r I F (1 : Int32) (5 : Int32) s.heap.size (z35_1, z35_2) hc35) (cwV 2 hg (gd_V k871 k872 k873 k707 k870) rfl rfl rfl (by decide +kernel) ⟨Nat.le_of_ble_eq_true rfl, Nat.le_of_ble_eq_true rfl⟩) ⟨dz_blind, va_recv hKc hPc (ci := 10) (q0 := 0) rfl rfl, fun U hU hW => ⟨rfl, dz_Nw hW hN, by rw [hU], by rw [hU]; exact hPc, va_K.moved hW.alike hKc, hDc.weaken (fun _ _ _ _ => trivial)⟩⟩ rfl rfl hl.1 rfl (lv_room (Nat.le_of_ble_eq_true rfl)) d_Model_others_258 ⟨Nat.le_of_ble_eq_true rfl, Nat.le_of_ble_eq_true rfl⟩) hS (fun q _ h => hFc q h) hFc (fun r35 u35 t35 H1 locs ht hvm hw hB hz1 hk1 hS => ?_)
      obtain ⟨hP1, hK1, hD1⟩ := hB
      rw [ht] at hP1
      have hP := hP1
      have hD := hD1.weaken (fun _ q _ h => hFc q.1 h)
      have hw : z35_1 = r35 := hw.symm
      subst hw
      generalize H1 = H at hP hS ⊢
      have hP : va_P (dC, dI) classes (wD cB cI o_Model r z35_2 F) H := hP
      have hD : va_D A (wD cB cI o_Model r z35_2 F) := hD
      obtain rfl := Option.some.inj h
      have hP9 := hP
      have hD9 := hD
      have hK9 := hK
      exact W.iret (v := z35_1) hx hb hr (fun t ht hW => ⟨⟨z35_1, (), rfl, rfl, by rw [ht]; exact hP9, va_K.moved hW.alike hK9, hD9⟩, hS.F ht⟩) hS.2.2 d_Model_others_261
  rw [if_neg s1_31] at h
  by_cases s1_32 : p1 = 32
  · rw [if_pos s1_32] at h
    refine lv_tableIn (off := 261) (tgt := 262) hx hb d_Model_others_1 (by rw [s1_32]; decide) (by rw [s1_32]; decide) (by rw [s1_32]; decide) (by decide) ?_
    refine lv_aload_n hx hb d_Model_others_262 rfl (lv_at hl 0 rfl) ?_
    refine lv_iconst (v := 1) hx hb d_Model_others_263 (by decide) ?_
    refine lv_aload_n hx hb d_Model_others_264 rfl (lv_at hl 0 rfl) ?_
    refine lv_iconst (v := 2) hx hb d_Model_others_265 (by decide) ?_
    refine lv_iconst (v := 0) hx hb d_Model_others_266 (by decide) ?_
    refine lv_aload_n hx hb d_Model_others_267 rfl (lv_at hl 0 rfl) ?_
    refine lv_iconst (v := 2) hx hb d_Model_others_268 (by decide) ?_
    refine lv_iconst (v := 1) hx hb d_Model_others_269 (by decide) ?_
    obtain ⟨z36_1, hc36, h⟩ := dz_ob h
    try dsimp only at h
    have hPc := hP
    have hKc := hK
    refine vp_callSi (va_Run.run (va_runV (As := [.int 2, .int 1]) (rest := [.int 0, .int 2, .ref o_Model, .int 1, .ref o_Model]) ⟨hx, hb, hml, hown, hg⟩ (c_Model_isSame l dC dI N cB cI o_Model r I F (2 : Int32) (1 : Int32) z36_1 hc36) (cwV 2 hg (gd_V k951 k952 k953 k707 k950) rfl rfl rfl (by decide +kernel) ⟨Nat.le_of_ble_eq_true rfl, Nat.le_of_ble_eq_true rfl⟩) ⟨dz_blindR, va_recv hKc hPc (ci := 10) (q0 := 0) rfl rfl, fun U hU hW => ⟨rfl, dz_Nw hW hN, by rw [hU]; exact hPc, va_K.moved hW.alike hKc⟩⟩ rfl rfl hl.1 rfl (lv_room (Nat.le_of_ble_eq_true rfl)) d_Model_others_270 ⟨Nat.le_of_ble_eq_true rfl, Nat.le_of_ble_eq_true rfl⟩)) (fun r36 hw => ?_)
    obtain ⟨hw, hbz36⟩ := hw
    have hw : z36_1 = r36 := hw.symm
    subst hw
    refine lv_if_eq (tgt := 280) hx hb d_Model_others_273 (by decide) (fun c37 => ?_) (fun c37 => ?_)
    · rw [if_pos c37] at h
      refine lv_iconst (v := 0) hx hb d_Model_others_280 (by decide) ?_
      obtain ⟨⟨z38_1, z38_2, z38_3⟩, hc38, h⟩ := dz_ob h
      try dsimp only at h
      have hPc := hP
      have hKc := hK
      have hDc := hD
      have hFc := dz_freeall hD hS hA
      refine va_calli (va_runV (As := [.int 2, .int 0, .int 0]) (rest := [.int 1, .ref o_Model]) ⟨hx, hb, hml, hown, hg⟩ (c_Model_give l dC dI N cB cI o_Model r I F (2 : Int32) (0 : Int32) (0 : Int32) s.heap.size (z38_1, z38_2, z38_3) hc38) (cwV 3 hg (gd_V k734 k735 k736 k707 k733) rfl rfl rfl (by decide +kernel) ⟨Nat.le_of_ble_eq_true rfl, Nat.le_of_ble_eq_true rfl⟩) ⟨dz_blind, va_recv hKc hPc (ci := 10) (q0 := 0) rfl rfl, fun U hU hW => ⟨rfl, dz_Nw hW hN, by rw [hU], by rw [hU]; exact hPc, va_K.moved hW.alike hKc, hDc.weaken (fun _ _ _ _ => trivial)⟩⟩ rfl rfl hl.1 rfl (lv_room (Nat.le_of_ble_eq_true rfl)) d_Model_others_281 ⟨Nat.le_of_ble_eq_true rfl, Nat.le_of_ble_eq_true rfl⟩) hS (fun q _ h => hFc q h) hFc (fun r38 u38 t38 H1 locs ht hvm hw hB hz1 hk1 hS => ?_)
      obtain ⟨hP1, hK1, hD1⟩ := hB
      rw [ht] at hP1
      have hP := hP1
      have hD := hD1.weaken (fun _ q _ h => hFc q.1 h)
      have hw : z38_1 = r38 := hw.symm
      subst hw
      generalize H1 = H at hP hS ⊢
      have hP : va_P (dC, dI) classes (wD cB cI o_Model r z38_3 z38_2) H := hP
      have hD : va_D A (wD cB cI o_Model r z38_3 z38_2) := hD
      obtain ⟨⟨z39_1, z39_2⟩, hc39, h⟩ := dz_ob h
      try dsimp only at h
      have hPc := hP
      have hKc := hK
      have hDc := hD
      have hFc := dz_freeall hD hS hA
      refine va_calli (va_runV (As := [.int 1, .int z38_1]) (rest := []) ⟨hx, hb, hml, hown, hg⟩ (c_Model_next l dC dI N cB cI o_Model r z38_3 z38_2 (1 : Int32) z38_1 H.size (z39_1, z39_2) hc39) (cwV 2 hg (gd_V k871 k872 k873 k707 k870) rfl rfl rfl (by decide +kernel) ⟨Nat.le_of_ble_eq_true rfl, Nat.le_of_ble_eq_true rfl⟩) ⟨dz_blind, va_recv hKc hPc (ci := 10) (q0 := 0) rfl rfl, fun U hU hW => ⟨rfl, dz_Nw hW hN, by rw [hU], by rw [hU]; exact hPc, va_K.moved hW.alike hKc, hDc.weaken (fun _ _ _ _ => trivial)⟩⟩ rfl rfl hl.1 rfl (lv_room (Nat.le_of_ble_eq_true rfl)) d_Model_others_284 ⟨Nat.le_of_ble_eq_true rfl, Nat.le_of_ble_eq_true rfl⟩) hS (fun q _ h => hFc q h) hFc (fun r39 u39 t39 H1 locs ht hvm hw hB hz1 hk1 hS => ?_)
      obtain ⟨hP1, hK1, hD1⟩ := hB
      rw [ht] at hP1
      have hP := hP1
      have hD := hD1.weaken (fun _ q _ h => hFc q.1 h)
      have hw : z39_1 = r39 := hw.symm
      subst hw
      generalize H1 = H at hP hS ⊢
      have hP : va_P (dC, dI) classes (wD cB cI o_Model r z39_2 z38_2) H := hP
      have hD : va_D A (wD cB cI o_Model r z39_2 z38_2) := hD
      obtain rfl := Option.some.inj h
      have hP9 := hP
      have hD9 := hD
      have hK9 := hK
      exact W.iret (v := z39_1) hx hb hr (fun t ht hW => ⟨⟨z39_1, (), rfl, rfl, by rw [ht]; exact hP9, va_K.moved hW.alike hK9, hD9⟩, hS.F ht⟩) hS.2.2 d_Model_others_287
    · rw [if_neg c37] at h
      refine lv_iconst (v := 1) hx hb d_Model_others_276 (by decide) ?_
      refine lv_goto (tgt := 281) hx hb d_Model_others_277 (by decide) ?_
      obtain ⟨⟨z40_1, z40_2, z40_3⟩, hc40, h⟩ := dz_ob h
      try dsimp only at h
      have hPc := hP
      have hKc := hK
      have hDc := hD
      have hFc := dz_freeall hD hS hA
      refine va_calli (va_runV (As := [.int 2, .int 0, .int 1]) (rest := [.int 1, .ref o_Model]) ⟨hx, hb, hml, hown, hg⟩ (c_Model_give l dC dI N cB cI o_Model r I F (2 : Int32) (0 : Int32) (1 : Int32) s.heap.size (z40_1, z40_2, z40_3) hc40) (cwV 3 hg (gd_V k734 k735 k736 k707 k733) rfl rfl rfl (by decide +kernel) ⟨Nat.le_of_ble_eq_true rfl, Nat.le_of_ble_eq_true rfl⟩) ⟨dz_blind, va_recv hKc hPc (ci := 10) (q0 := 0) rfl rfl, fun U hU hW => ⟨rfl, dz_Nw hW hN, by rw [hU], by rw [hU]; exact hPc, va_K.moved hW.alike hKc, hDc.weaken (fun _ _ _ _ => trivial)⟩⟩ rfl rfl hl.1 rfl (lv_room (Nat.le_of_ble_eq_true rfl)) d_Model_others_281 ⟨Nat.le_of_ble_eq_true rfl, Nat.le_of_ble_eq_true rfl⟩) hS (fun q _ h => hFc q h) hFc (fun r40 u40 t40 H1 locs ht hvm hw hB hz1 hk1 hS => ?_)
      obtain ⟨hP1, hK1, hD1⟩ := hB
      rw [ht] at hP1
      have hP := hP1
      have hD := hD1.weaken (fun _ q _ h => hFc q.1 h)
      have hw : z40_1 = r40 := hw.symm
      subst hw
      generalize H1 = H at hP hS ⊢
      have hP : va_P (dC, dI) classes (wD cB cI o_Model r z40_3 z40_2) H := hP
      have hD : va_D A (wD cB cI o_Model r z40_3 z40_2) := hD
      obtain ⟨⟨z41_1, z41_2⟩, hc41, h⟩ := dz_ob h
      try dsimp only at h
      have hPc := hP
      have hKc := hK
      have hDc := hD
      have hFc := dz_freeall hD hS hA
      refine va_calli (va_runV (As := [.int 1, .int z40_1]) (rest := []) ⟨hx, hb, hml, hown, hg⟩ (c_Model_next l dC dI N cB cI o_Model r z40_3 z40_2 (1 : Int32) z40_1 H.size (z41_1, z41_2) hc41) (cwV 2 hg (gd_V k871 k872 k873 k707 k870) rfl rfl rfl (by decide +kernel) ⟨Nat.le_of_ble_eq_true rfl, Nat.le_of_ble_eq_true rfl⟩) ⟨dz_blind, va_recv hKc hPc (ci := 10) (q0 := 0) rfl rfl, fun U hU hW => ⟨rfl, dz_Nw hW hN, by rw [hU], by rw [hU]; exact hPc, va_K.moved hW.alike hKc, hDc.weaken (fun _ _ _ _ => trivial)⟩⟩ rfl rfl hl.1 rfl (lv_room (Nat.le_of_ble_eq_true rfl)) d_Model_others_284 ⟨Nat.le_of_ble_eq_true rfl, Nat.le_of_ble_eq_true rfl⟩) hS (fun q _ h => hFc q h) hFc (fun r41 u41 t41 H1 locs ht hvm hw hB hz1 hk1 hS => ?_)
      obtain ⟨hP1, hK1, hD1⟩ := hB
      rw [ht] at hP1
      have hP := hP1
      have hD := hD1.weaken (fun _ q _ h => hFc q.1 h)
      have hw : z41_1 = r41 := hw.symm
      subst hw
      generalize H1 = H at hP hS ⊢
      have hP : va_P (dC, dI) classes (wD cB cI o_Model r z41_2 z40_2) H := hP
      have hD : va_D A (wD cB cI o_Model r z41_2 z40_2) := hD
      obtain rfl := Option.some.inj h
      have hP9 := hP
      have hD9 := hD
      have hK9 := hK
      exact W.iret (v := z41_1) hx hb hr (fun t ht hW => ⟨⟨z41_1, (), rfl, rfl, by rw [ht]; exact hP9, va_K.moved hW.alike hK9, hD9⟩, hS.F ht⟩) hS.2.2 d_Model_others_287
  rw [if_neg s1_32] at h
  by_cases s1_33 : p1 = 33
  · rw [if_pos s1_33] at h
    refine lv_tableIn (off := 287) (tgt := 288) hx hb d_Model_others_1 (by rw [s1_33]; decide) (by rw [s1_33]; decide) (by rw [s1_33]; decide) (by decide) ?_
    refine lv_aload_n hx hb d_Model_others_288 rfl (lv_at hl 0 rfl) ?_
    refine lv_iconst (v := 1) hx hb d_Model_others_289 (by decide) ?_
    refine lv_aload_n hx hb d_Model_others_290 rfl (lv_at hl 0 rfl) ?_
    refine lv_iconst (v := 2) hx hb d_Model_others_291 (by decide) ?_
    refine lv_iconst (v := 0) hx hb d_Model_others_292 (by decide) ?_
    refine lv_aload_n hx hb d_Model_others_293 rfl (lv_at hl 0 rfl) ?_
    obtain ⟨⟨z42_1, z42_2, z42_3⟩, hc42, h⟩ := dz_ob h
    try dsimp only at h
    have hPc := hP
    have hKc := hK
    have hDc := hD
    have hFc := dz_freeall hD hS hA
    refine va_calli (va_runV (As := []) (rest := [.int 0, .int 2, .ref o_Model, .int 1, .ref o_Model]) ⟨hx, hb, hml, hown, hg⟩ (c_Model_isEqual l dC dI N cB cI o_Model r I F s.heap.size (z42_1, z42_2, z42_3) hc42) (cwV 0 hg (gd_V k955 k956 k957 k707 k954) rfl rfl rfl (by decide +kernel) ⟨Nat.le_of_ble_eq_true rfl, Nat.le_of_ble_eq_true rfl⟩) ⟨dz_blind, va_recv hKc hPc (ci := 10) (q0 := 0) rfl rfl, fun U hU hW => ⟨rfl, dz_Nw hW hN, by rw [hU], by rw [hU]; exact hPc, va_K.moved hW.alike hKc, hDc.weaken (fun _ _ _ _ => trivial)⟩⟩ rfl rfl hl.1 rfl (lv_room (Nat.le_of_ble_eq_true rfl)) d_Model_others_294 ⟨Nat.le_of_ble_eq_true rfl, Nat.le_of_ble_eq_true rfl⟩) hS (fun q _ h => hFc q h) hFc (fun r42 u42 t42 H1 locs ht hvm hw hB hz1 hk1 hS => ?_)
    obtain ⟨hP1, hK1, hD1⟩ := hB
    rw [ht] at hP1
    have hP := hP1
    have hD := hD1.weaken (fun _ q _ h => hFc q.1 h)
    obtain ⟨hw, hbz42⟩ := hw
    have hw : z42_1 = r42 := hw.symm
    subst hw
    generalize H1 = H at hP hS ⊢
    have hP : va_P (dC, dI) classes (wD cB cI o_Model r z42_3 z42_2) H := hP
    have hD : va_D A (wD cB cI o_Model r z42_3 z42_2) := hD
    refine lv_if_eq (tgt := 304) hx hb d_Model_others_297 (by decide) (fun c43 => ?_) (fun c43 => ?_)
    · rw [if_pos c43] at h
      refine lv_iconst (v := 0) hx hb d_Model_others_304 (by decide) ?_
      obtain ⟨⟨z44_1, z44_2, z44_3⟩, hc44, h⟩ := dz_ob h
      try dsimp only at h
      have hPc := hP
      have hKc := hK
      have hDc := hD
      have hFc := dz_freeall hD hS hA
      refine va_calli (va_runV (As := [.int 2, .int 0, .int 0]) (rest := [.int 1, .ref o_Model]) ⟨hx, hb, hml, hown, hg⟩ (c_Model_give l dC dI N cB cI o_Model r z42_3 z42_2 (2 : Int32) (0 : Int32) (0 : Int32) H.size (z44_1, z44_2, z44_3) hc44) (cwV 3 hg (gd_V k734 k735 k736 k707 k733) rfl rfl rfl (by decide +kernel) ⟨Nat.le_of_ble_eq_true rfl, Nat.le_of_ble_eq_true rfl⟩) ⟨dz_blind, va_recv hKc hPc (ci := 10) (q0 := 0) rfl rfl, fun U hU hW => ⟨rfl, dz_Nw hW hN, by rw [hU], by rw [hU]; exact hPc, va_K.moved hW.alike hKc, hDc.weaken (fun _ _ _ _ => trivial)⟩⟩ rfl rfl hl.1 rfl (lv_room (Nat.le_of_ble_eq_true rfl)) d_Model_others_305 ⟨Nat.le_of_ble_eq_true rfl, Nat.le_of_ble_eq_true rfl⟩) hS (fun q _ h => hFc q h) hFc (fun r44 u44 t44 H1 locs ht hvm hw hB hz1 hk1 hS => ?_)
      obtain ⟨hP1, hK1, hD1⟩ := hB
      rw [ht] at hP1
      have hP := hP1
      have hD := hD1.weaken (fun _ q _ h => hFc q.1 h)
      have hw : z44_1 = r44 := hw.symm
      subst hw
      generalize H1 = H at hP hS ⊢
      have hP : va_P (dC, dI) classes (wD cB cI o_Model r z44_3 z44_2) H := hP
      have hD : va_D A (wD cB cI o_Model r z44_3 z44_2) := hD
      obtain ⟨⟨z45_1, z45_2⟩, hc45, h⟩ := dz_ob h
      try dsimp only at h
      have hPc := hP
      have hKc := hK
      have hDc := hD
      have hFc := dz_freeall hD hS hA
      refine va_calli (va_runV (As := [.int 1, .int z44_1]) (rest := []) ⟨hx, hb, hml, hown, hg⟩ (c_Model_next l dC dI N cB cI o_Model r z44_3 z44_2 (1 : Int32) z44_1 H.size (z45_1, z45_2) hc45) (cwV 2 hg (gd_V k871 k872 k873 k707 k870) rfl rfl rfl (by decide +kernel) ⟨Nat.le_of_ble_eq_true rfl, Nat.le_of_ble_eq_true rfl⟩) ⟨dz_blind, va_recv hKc hPc (ci := 10) (q0 := 0) rfl rfl, fun U hU hW => ⟨rfl, dz_Nw hW hN, by rw [hU], by rw [hU]; exact hPc, va_K.moved hW.alike hKc, hDc.weaken (fun _ _ _ _ => trivial)⟩⟩ rfl rfl hl.1 rfl (lv_room (Nat.le_of_ble_eq_true rfl)) d_Model_others_308 ⟨Nat.le_of_ble_eq_true rfl, Nat.le_of_ble_eq_true rfl⟩) hS (fun q _ h => hFc q h) hFc (fun r45 u45 t45 H1 locs ht hvm hw hB hz1 hk1 hS => ?_)
      obtain ⟨hP1, hK1, hD1⟩ := hB
      rw [ht] at hP1
      have hP := hP1
      have hD := hD1.weaken (fun _ q _ h => hFc q.1 h)
      have hw : z45_1 = r45 := hw.symm
      subst hw
      generalize H1 = H at hP hS ⊢
      have hP : va_P (dC, dI) classes (wD cB cI o_Model r z45_2 z44_2) H := hP
      have hD : va_D A (wD cB cI o_Model r z45_2 z44_2) := hD
      obtain rfl := Option.some.inj h
      have hP9 := hP
      have hD9 := hD
      have hK9 := hK
      exact W.iret (v := z45_1) hx hb hr (fun t ht hW => ⟨⟨z45_1, (), rfl, rfl, by rw [ht]; exact hP9, va_K.moved hW.alike hK9, hD9⟩, hS.F ht⟩) hS.2.2 d_Model_others_311
    · rw [if_neg c43] at h
      refine lv_iconst (v := 1) hx hb d_Model_others_300 (by decide) ?_
      refine lv_goto (tgt := 305) hx hb d_Model_others_301 (by decide) ?_
      obtain ⟨⟨z46_1, z46_2, z46_3⟩, hc46, h⟩ := dz_ob h
      try dsimp only at h
      have hPc := hP
      have hKc := hK
      have hDc := hD
      have hFc := dz_freeall hD hS hA
      refine va_calli (va_runV (As := [.int 2, .int 0, .int 1]) (rest := [.int 1, .ref o_Model]) ⟨hx, hb, hml, hown, hg⟩ (c_Model_give l dC dI N cB cI o_Model r z42_3 z42_2 (2 : Int32) (0 : Int32) (1 : Int32) H.size (z46_1, z46_2, z46_3) hc46) (cwV 3 hg (gd_V k734 k735 k736 k707 k733) rfl rfl rfl (by decide +kernel) ⟨Nat.le_of_ble_eq_true rfl, Nat.le_of_ble_eq_true rfl⟩) ⟨dz_blind, va_recv hKc hPc (ci := 10) (q0 := 0) rfl rfl, fun U hU hW => ⟨rfl, dz_Nw hW hN, by rw [hU], by rw [hU]; exact hPc, va_K.moved hW.alike hKc, hDc.weaken (fun _ _ _ _ => trivial)⟩⟩ rfl rfl hl.1 rfl (lv_room (Nat.le_of_ble_eq_true rfl)) d_Model_others_305 ⟨Nat.le_of_ble_eq_true rfl, Nat.le_of_ble_eq_true rfl⟩) hS (fun q _ h => hFc q h) hFc (fun r46 u46 t46 H1 locs ht hvm hw hB hz1 hk1 hS => ?_)
      obtain ⟨hP1, hK1, hD1⟩ := hB
      rw [ht] at hP1
      have hP := hP1
      have hD := hD1.weaken (fun _ q _ h => hFc q.1 h)
      have hw : z46_1 = r46 := hw.symm
      subst hw
      generalize H1 = H at hP hS ⊢
      have hP : va_P (dC, dI) classes (wD cB cI o_Model r z46_3 z46_2) H := hP
      have hD : va_D A (wD cB cI o_Model r z46_3 z46_2) := hD
      obtain ⟨⟨z47_1, z47_2⟩, hc47, h⟩ := dz_ob h
      try dsimp only at h
      have hPc := hP
      have hKc := hK
      have hDc := hD
      have hFc := dz_freeall hD hS hA
      refine va_calli (va_runV (As := [.int 1, .int z46_1]) (rest := []) ⟨hx, hb, hml, hown, hg⟩ (c_Model_next l dC dI N cB cI o_Model r z46_3 z46_2 (1 : Int32) z46_1 H.size (z47_1, z47_2) hc47) (cwV 2 hg (gd_V k871 k872 k873 k707 k870) rfl rfl rfl (by decide +kernel) ⟨Nat.le_of_ble_eq_true rfl, Nat.le_of_ble_eq_true rfl⟩) ⟨dz_blind, va_recv hKc hPc (ci := 10) (q0 := 0) rfl rfl, fun U hU hW => ⟨rfl, dz_Nw hW hN, by rw [hU], by rw [hU]; exact hPc, va_K.moved hW.alike hKc, hDc.weaken (fun _ _ _ _ => trivial)⟩⟩ rfl rfl hl.1 rfl (lv_room (Nat.le_of_ble_eq_true rfl)) d_Model_others_308 ⟨Nat.le_of_ble_eq_true rfl, Nat.le_of_ble_eq_true rfl⟩) hS (fun q _ h => hFc q h) hFc (fun r47 u47 t47 H1 locs ht hvm hw hB hz1 hk1 hS => ?_)
      obtain ⟨hP1, hK1, hD1⟩ := hB
      rw [ht] at hP1
      have hP := hP1
      have hD := hD1.weaken (fun _ q _ h => hFc q.1 h)
      have hw : z47_1 = r47 := hw.symm
      subst hw
      generalize H1 = H at hP hS ⊢
      have hP : va_P (dC, dI) classes (wD cB cI o_Model r z47_2 z46_2) H := hP
      have hD : va_D A (wD cB cI o_Model r z47_2 z46_2) := hD
      obtain rfl := Option.some.inj h
      have hP9 := hP
      have hD9 := hD
      have hK9 := hK
      exact W.iret (v := z47_1) hx hb hr (fun t ht hW => ⟨⟨z47_1, (), rfl, rfl, by rw [ht]; exact hP9, va_K.moved hW.alike hK9, hD9⟩, hS.F ht⟩) hS.2.2 d_Model_others_311
  rw [if_neg s1_33] at h
  by_cases s1_34 : p1 = 34
  · rw [if_pos s1_34] at h
    refine lv_tableIn (off := 311) (tgt := 312) hx hb d_Model_others_1 (by rw [s1_34]; decide) (by rw [s1_34]; decide) (by rw [s1_34]; decide) (by decide) ?_
    refine lv_aload_n hx hb d_Model_others_312 rfl (lv_at hl 0 rfl) ?_
    refine lv_iload_n hx hb d_Model_others_313 rfl (lv_at hl 3 rfl) ?_
    obtain ⟨⟨z48_1, z48_2, z48_3⟩, hc48, h⟩ := dz_ob h
    try dsimp only at h
    have hPc := hP
    have hKc := hK
    have hDc := hD
    have hFc := dz_freeall hD hS hA
    refine va_calli (va_runV (As := [.int p2]) (rest := []) ⟨hx, hb, hml, hown, hg⟩ (c_Model_primitive l dC dI N cB cI o_Model r I F p2 s.heap.size (z48_1, z48_2, z48_3) hc48) (cwV 1 hg (gd_V k959 k960 k961 k707 k958) rfl rfl rfl (by decide +kernel) ⟨Nat.le_of_ble_eq_true rfl, Nat.le_of_ble_eq_true rfl⟩) ⟨dz_blind, va_recv hKc hPc (ci := 10) (q0 := 0) rfl rfl, fun U hU hW => ⟨rfl, dz_Nw hW hN, by rw [hU], by rw [hU]; exact hPc, va_K.moved hW.alike hKc, hDc.weaken (fun _ _ _ _ => trivial)⟩⟩ rfl rfl hl.1 rfl (lv_room (Nat.le_of_ble_eq_true rfl)) d_Model_others_314 ⟨Nat.le_of_ble_eq_true rfl, Nat.le_of_ble_eq_true rfl⟩) hS (fun q _ h => hFc q h) hFc (fun r48 u48 t48 H1 locs ht hvm hw hB hz1 hk1 hS => ?_)
    obtain ⟨hP1, hK1, hD1⟩ := hB
    rw [ht] at hP1
    have hP := hP1
    have hD := hD1.weaken (fun _ q _ h => hFc q.1 h)
    have hw : z48_1 = r48 := hw.symm
    subst hw
    generalize H1 = H at hP hS ⊢
    have hP : va_P (dC, dI) classes (wD cB cI o_Model r z48_3 z48_2) H := hP
    have hD : va_D A (wD cB cI o_Model r z48_3 z48_2) := hD
    obtain rfl := Option.some.inj h
    have hP9 := hP
    have hD9 := hD
    have hK9 := hK
    exact W.iret (v := z48_1) hx hb hr (fun t ht hW => ⟨⟨z48_1, (), rfl, rfl, by rw [ht]; exact hP9, va_K.moved hW.alike hK9, hD9⟩, hS.F ht⟩) hS.2.2 d_Model_others_317
  rw [if_neg s1_34] at h
  by_cases s1_35 : p1 = 35
  · rw [if_pos s1_35] at h
    refine lv_tableIn (off := 317) (tgt := 318) hx hb d_Model_others_1 (by rw [s1_35]; decide) (by rw [s1_35]; decide) (by rw [s1_35]; decide) (by decide) ?_
    refine lv_aload_n hx hb d_Model_others_318 rfl (lv_at hl 0 rfl) ?_
    refine va_get (D := (dC, dI)) (ci := 10) (v := .int (I 36)) (C := R_Model) (T := F_Model) (N := 54) hx hb hg i_Model hown hK hP 0 rfl rfl 36 (by decide) (hg _ k722) (fun _ h9 => h9) rfl d_Model_others_319 ?_
    refine lv_if_ne (tgt := 327) hx hb d_Model_others_322 (by decide) (fun c49 => ?_) (fun c49 => ?_)
    · rw [if_neg c49] at h
      refine lv_aload_n hx hb d_Model_others_327 rfl (lv_at hl 0 rfl) ?_
      refine lv_dup hx hb d_Model_others_328 rfl ?_
      refine va_get (D := (dC, dI)) (ci := 10) (v := .int (I 36)) (C := R_Model) (T := F_Model) (N := 54) hx hb hg i_Model hown hK hP 0 rfl rfl 36 (by decide) (hg _ k722) (fun _ h9 => h9) rfl d_Model_others_329 ?_
      refine lv_iconst (v := 1) hx hb d_Model_others_332 (by decide) ?_
      refine lv_isub hx hb d_Model_others_333 ?_
      refine va_put (D := (dC, dI)) (ci := 10) (v := .int ((I 36) - 1)) (ty := .int) (C := R_Model) (T := F_Model) (N := 54) hx hb hg i_Model t_Model t_Model_ok n_Model hown hK hP hD hS 0 rfl rfl 36 (by decide) (hg _ k722) (fun _ h9 => h9) rfl (by decide +kernel) rfl rfl (Nat.le_of_ble_eq_true rfl) d_Model_others_334 (fun H locs hP hD hS => ?_)
      obtain ⟨J50, eJ50, h⟩ := dz_lt h
      have hP : va_P (dC, dI) classes (wD cB cI o_Model r J50 F) H := by rw [eJ50]; exact hP
      have hD : va_D A (wD cB cI o_Model r J50 F) := by rw [eJ50]; exact hD
      refine lv_aload_n hx hb d_Model_others_337 rfl (lv_at hl 0 rfl) ?_
      refine lv_dup hx hb d_Model_others_338 rfl ?_
      refine va_get (D := (dC, dI)) (ci := 10) (v := .int (J50 37)) (C := R_Model) (T := F_Model) (N := 54) hx hb hg i_Model hown hK hP 0 rfl rfl 37 (by decide) (hg _ k723) (fun _ h9 => h9) rfl d_Model_others_339 ?_
      refine lv_iconst (v := 1) hx hb d_Model_others_342 (by decide) ?_
      refine lv_iadd hx hb d_Model_others_343 ?_
      refine va_put (D := (dC, dI)) (ci := 10) (v := .int ((J50 37) + 1)) (ty := .int) (C := R_Model) (T := F_Model) (N := 54) hx hb hg i_Model t_Model t_Model_ok n_Model hown hK hP hD hS 0 rfl rfl 37 (by decide) (hg _ k723) (fun _ h9 => h9) rfl (by decide +kernel) rfl rfl (Nat.le_of_ble_eq_true rfl) d_Model_others_344 (fun H locs hP hD hS => ?_)
      obtain ⟨J51, eJ51, h⟩ := dz_lt h
      have hP : va_P (dC, dI) classes (wD cB cI o_Model r J51 F) H := by rw [eJ51]; exact hP
      have hD : va_D A (wD cB cI o_Model r J51 F) := by rw [eJ51]; exact hD
      refine lv_aload_n hx hb d_Model_others_347 rfl (lv_at hl 0 rfl) ?_
      refine lv_iconst (v := 1) hx hb d_Model_others_348 (by decide) ?_
      refine lv_iconst (v := 5) hx hb d_Model_others_349 (by decide) ?_
      obtain ⟨⟨z52_1, z52_2⟩, hc52, h⟩ := dz_ob h
      try dsimp only at h
      have hPc := hP
      have hKc := hK
      have hDc := hD
      have hFc := dz_freeall hD hS hA
      refine va_calli (va_runV (As := [.int 1, .int 5]) (rest := []) ⟨hx, hb, hml, hown, hg⟩ (c_Model_next l dC dI N cB cI o_Model r J51 F (1 : Int32) (5 : Int32) H.size (z52_1, z52_2) hc52) (cwV 2 hg (gd_V k871 k872 k873 k707 k870) rfl rfl rfl (by decide +kernel) ⟨Nat.le_of_ble_eq_true rfl, Nat.le_of_ble_eq_true rfl⟩) ⟨dz_blind, va_recv hKc hPc (ci := 10) (q0 := 0) rfl rfl, fun U hU hW => ⟨rfl, dz_Nw hW hN, by rw [hU], by rw [hU]; exact hPc, va_K.moved hW.alike hKc, hDc.weaken (fun _ _ _ _ => trivial)⟩⟩ rfl rfl hl.1 rfl (lv_room (Nat.le_of_ble_eq_true rfl)) d_Model_others_350 ⟨Nat.le_of_ble_eq_true rfl, Nat.le_of_ble_eq_true rfl⟩) hS (fun q _ h => hFc q h) hFc (fun r52 u52 t52 H1 locs ht hvm hw hB hz1 hk1 hS => ?_)
      obtain ⟨hP1, hK1, hD1⟩ := hB
      rw [ht] at hP1
      have hP := hP1
      have hD := hD1.weaken (fun _ q _ h => hFc q.1 h)
      have hw : z52_1 = r52 := hw.symm
      subst hw
      generalize H1 = H at hP hS ⊢
      have hP : va_P (dC, dI) classes (wD cB cI o_Model r z52_2 F) H := hP
      have hD : va_D A (wD cB cI o_Model r z52_2 F) := hD
      obtain rfl := Option.some.inj h
      have hP9 := hP
      have hD9 := hD
      have hK9 := hK
      exact W.iret (v := z52_1) hx hb hr (fun t ht hW => ⟨⟨z52_1, (), rfl, rfl, by rw [ht]; exact hP9, va_K.moved hW.alike hK9, hD9⟩, hS.F ht⟩) hS.2.2 d_Model_others_353
    · rw [if_pos c49] at h
      refine lv_iconst (v := 2) hx hb d_Model_others_325 (by decide) ?_
      obtain rfl := Option.some.inj h
      have hP9 := hP
      have hD9 := hD
      have hK9 := hK
      exact W.iret (v := 2) hx hb hr (fun t ht hW => ⟨⟨2, (), rfl, rfl, by rw [ht]; exact hP9, va_K.moved hW.alike hK9, hD9⟩, hS.F ht⟩) hS.2.2 d_Model_others_326
  rw [if_neg s1_35] at h
  by_cases s1_36 : p1 = 36
  · rw [if_pos s1_36] at h
    refine lv_tableIn (off := 353) (tgt := 354) hx hb d_Model_others_1 (by rw [s1_36]; decide) (by rw [s1_36]; decide) (by rw [s1_36]; decide) (by decide) ?_
    refine lv_iload_n hx hb d_Model_others_354 rfl (lv_at hl 3 rfl) ?_
    refine lv_if_lt (tgt := 375) hx hb d_Model_others_355 (by decide) (fun c53 => ?_) (fun c53 => ?_)
    · rw [if_pos c53] at h
      refine lv_iload_n hx hb d_Model_others_375 rfl (lv_at hl 3 rfl) ?_
      refine lv_if_ge (tgt := 383) hx hb d_Model_others_376 (by decide) (fun c54 => ?_) (fun c54 => ?_)
      · rw [if_pos c54] at h
        refine lv_iconst (v := 3) hx hb d_Model_others_383 (by decide) ?_
        obtain rfl := Option.some.inj h
        have hP9 := hP
        have hD9 := hD
        have hK9 := hK
        exact W.iret (v := 3) hx hb hr (fun t ht hW => ⟨⟨3, (), rfl, rfl, by rw [ht]; exact hP9, va_K.moved hW.alike hK9, hD9⟩, hS.F ht⟩) hS.2.2 d_Model_others_384
      · rw [if_neg c54] at h
        refine lv_iconst (v := 4) hx hb d_Model_others_379 (by decide) ?_
        refine lv_goto (tgt := 384) hx hb d_Model_others_380 (by decide) ?_
        obtain rfl := Option.some.inj h
        have hP9 := hP
        have hD9 := hD
        have hK9 := hK
        exact W.iret (v := 4) hx hb hr (fun t ht hW => ⟨⟨4, (), rfl, rfl, by rw [ht]; exact hP9, va_K.moved hW.alike hK9, hD9⟩, hS.F ht⟩) hS.2.2 d_Model_others_384
    · rw [if_neg c53] at h
      refine lv_aload_n hx hb d_Model_others_358 rfl (lv_at hl 0 rfl) ?_
      refine va_get (D := (dC, dI)) (ci := 10) (v := .int (I 38)) (C := R_Model) (T := F_Model) (N := 54) hx hb hg i_Model hown hK hP 0 rfl rfl 38 (by decide) (hg _ k724) (fun _ h9 => h9) rfl d_Model_others_359 ?_
      refine lv_i2l (v := (I 38).toInt64) hx hb d_Model_others_362 rfl ?_
      refine lv_iload_n hx hb d_Model_others_363 rfl (lv_at hl 3 rfl) ?_
      refine lv_i2l (v := p2.toInt64) hx hb d_Model_others_364 rfl ?_
      refine lv_ladd hx hb d_Model_others_365 ?_
      refine lv_aload_n hx hb d_Model_others_366 rfl (lv_at hl 0 rfl) ?_
      refine va_get (D := (dC, dI)) (ci := 10) (v := .int (I 44)) (C := R_Model) (T := F_Model) (N := 54) hx hb hg i_Model hown hK hP 0 rfl rfl 44 (by decide) (hg _ k878) (fun _ h9 => h9) rfl d_Model_others_367 ?_
      refine lv_i2l (v := (I 44).toInt64) hx hb d_Model_others_370 rfl ?_
      refine W.lcmp hx hb d_Model_others_371 ?_
      refine lv_if_le (tgt := 385) hx hb d_Model_others_372 (by decide) (fun c55 => ?_) (fun c55 => ?_)
      · rw [if_pos c55] at h
        refine lv_aload_n hx hb d_Model_others_385 rfl (lv_at hl 0 rfl) ?_
        refine lv_dup hx hb d_Model_others_386 rfl ?_
        refine va_get (D := (dC, dI)) (ci := 10) (v := .int (I 38)) (C := R_Model) (T := F_Model) (N := 54) hx hb hg i_Model hown hK hP 0 rfl rfl 38 (by decide) (hg _ k724) (fun _ h9 => h9) rfl d_Model_others_387 ?_
        refine lv_iload_n hx hb d_Model_others_390 rfl (lv_at hl 3 rfl) ?_
        refine lv_iadd hx hb d_Model_others_391 ?_
        refine va_put (D := (dC, dI)) (ci := 10) (v := .int ((I 38) + p2)) (ty := .int) (C := R_Model) (T := F_Model) (N := 54) hx hb hg i_Model t_Model t_Model_ok n_Model hown hK hP hD hS 0 rfl rfl 38 (by decide) (hg _ k724) (fun _ h9 => h9) rfl (by decide +kernel) rfl rfl (Nat.le_of_ble_eq_true rfl) d_Model_others_392 (fun H locs hP hD hS => ?_)
        obtain ⟨J56, eJ56, h⟩ := dz_lt h
        have hP : va_P (dC, dI) classes (wD cB cI o_Model r J56 F) H := by rw [eJ56]; exact hP
        have hD : va_D A (wD cB cI o_Model r J56 F) := by rw [eJ56]; exact hD
        refine lv_aload_n hx hb d_Model_others_395 rfl (lv_at hl 0 rfl) ?_
        refine lv_iconst (v := 2) hx hb d_Model_others_396 (by decide) ?_
        refine lv_iconst (v := 5) hx hb d_Model_others_397 (by decide) ?_
        obtain ⟨⟨z57_1, z57_2⟩, hc57, h⟩ := dz_ob h
        try dsimp only at h
        have hPc := hP
        have hKc := hK
        have hDc := hD
        have hFc := dz_freeall hD hS hA
        refine va_calli (va_runV (As := [.int 2, .int 5]) (rest := []) ⟨hx, hb, hml, hown, hg⟩ (c_Model_next l dC dI N cB cI o_Model r J56 F (2 : Int32) (5 : Int32) H.size (z57_1, z57_2) hc57) (cwV 2 hg (gd_V k871 k872 k873 k707 k870) rfl rfl rfl (by decide +kernel) ⟨Nat.le_of_ble_eq_true rfl, Nat.le_of_ble_eq_true rfl⟩) ⟨dz_blind, va_recv hKc hPc (ci := 10) (q0 := 0) rfl rfl, fun U hU hW => ⟨rfl, dz_Nw hW hN, by rw [hU], by rw [hU]; exact hPc, va_K.moved hW.alike hKc, hDc.weaken (fun _ _ _ _ => trivial)⟩⟩ rfl rfl hl.1 rfl (lv_room (Nat.le_of_ble_eq_true rfl)) d_Model_others_398 ⟨Nat.le_of_ble_eq_true rfl, Nat.le_of_ble_eq_true rfl⟩) hS (fun q _ h => hFc q h) hFc (fun r57 u57 t57 H1 locs ht hvm hw hB hz1 hk1 hS => ?_)
        obtain ⟨hP1, hK1, hD1⟩ := hB
        rw [ht] at hP1
        have hP := hP1
        have hD := hD1.weaken (fun _ q _ h => hFc q.1 h)
        have hw : z57_1 = r57 := hw.symm
        subst hw
        generalize H1 = H at hP hS ⊢
        have hP : va_P (dC, dI) classes (wD cB cI o_Model r z57_2 F) H := hP
        have hD : va_D A (wD cB cI o_Model r z57_2 F) := hD
        obtain rfl := Option.some.inj h
        have hP9 := hP
        have hD9 := hD
        have hK9 := hK
        exact W.iret (v := z57_1) hx hb hr (fun t ht hW => ⟨⟨z57_1, (), rfl, rfl, by rw [ht]; exact hP9, va_K.moved hW.alike hK9, hD9⟩, hS.F ht⟩) hS.2.2 d_Model_others_401
      · rw [if_neg c55] at h
        refine lv_iload_n hx hb d_Model_others_375 rfl (lv_at hl 3 rfl) ?_
        refine lv_if_ge (tgt := 383) hx hb d_Model_others_376 (by decide) (fun c58 => ?_) (fun c58 => ?_)
        · rw [if_pos c58] at h
          refine lv_iconst (v := 3) hx hb d_Model_others_383 (by decide) ?_
          obtain rfl := Option.some.inj h
          have hP9 := hP
          have hD9 := hD
          have hK9 := hK
          exact W.iret (v := 3) hx hb hr (fun t ht hW => ⟨⟨3, (), rfl, rfl, by rw [ht]; exact hP9, va_K.moved hW.alike hK9, hD9⟩, hS.F ht⟩) hS.2.2 d_Model_others_384
        · rw [if_neg c58] at h
          refine lv_iconst (v := 4) hx hb d_Model_others_379 (by decide) ?_
          refine lv_goto (tgt := 384) hx hb d_Model_others_380 (by decide) ?_
          obtain rfl := Option.some.inj h
          have hP9 := hP
          have hD9 := hD
          have hK9 := hK
          exact W.iret (v := 4) hx hb hr (fun t ht hW => ⟨⟨4, (), rfl, rfl, by rw [ht]; exact hP9, va_K.moved hW.alike hK9, hD9⟩, hS.F ht⟩) hS.2.2 d_Model_others_384
  rw [if_neg s1_36] at h
  by_cases s1_37 : p1 = 37
  · rw [if_pos s1_37] at h
    refine lv_tableIn (off := 401) (tgt := 402) hx hb d_Model_others_1 (by rw [s1_37]; decide) (by rw [s1_37]; decide) (by rw [s1_37]; decide) (by decide) ?_
    refine lv_aload_n hx hb d_Model_others_402 rfl (lv_at hl 0 rfl) ?_
    refine lv_iconst (v := 2) hx hb d_Model_others_403 (by decide) ?_
    refine lv_aload_n hx hb d_Model_others_404 rfl (lv_at hl 0 rfl) ?_
    refine lv_iload_n hx hb d_Model_others_405 rfl (lv_at hl 3 rfl) ?_
    obtain ⟨⟨z59_1, z59_2, z59_3⟩, hc59, h⟩ := dz_ob h
    try dsimp only at h
    have hPc := hP
    have hKc := hK
    have hDc := hD
    have hFc := dz_freeall hD hS hA
    refine va_calli (va_runV (As := [.int p2]) (rest := [.int 2, .ref o_Model]) ⟨hx, hb, hml, hown, hg⟩ (c_Model_setLocals l dC dI N cB cI o_Model r I F p2 s.heap.size (z59_1, z59_2, z59_3) hc59) (cwV 1 hg (gd_V k963 k964 k965 k707 k962) rfl rfl rfl (by decide +kernel) ⟨Nat.le_of_ble_eq_true rfl, Nat.le_of_ble_eq_true rfl⟩) ⟨dz_blind, va_recv hKc hPc (ci := 10) (q0 := 0) rfl rfl, fun U hU hW => ⟨rfl, dz_Nw hW hN, by rw [hU], by rw [hU]; exact hPc, va_K.moved hW.alike hKc, hDc.weaken (fun _ _ _ _ => trivial)⟩⟩ rfl rfl hl.1 rfl (lv_room (Nat.le_of_ble_eq_true rfl)) d_Model_others_406 ⟨Nat.le_of_ble_eq_true rfl, Nat.le_of_ble_eq_true rfl⟩) hS (fun q _ h => hFc q h) hFc (fun r59 u59 t59 H1 locs ht hvm hw hB hz1 hk1 hS => ?_)
    obtain ⟨hP1, hK1, hD1⟩ := hB
    rw [ht] at hP1
    have hP := hP1
    have hD := hD1.weaken (fun _ q _ h => hFc q.1 h)
    have hw : z59_1 = r59 := hw.symm
    subst hw
    generalize H1 = H at hP hS ⊢
    have hP : va_P (dC, dI) classes (wD cB cI o_Model r z59_3 z59_2) H := hP
    have hD : va_D A (wD cB cI o_Model r z59_3 z59_2) := hD
    obtain ⟨⟨z60_1, z60_2⟩, hc60, h⟩ := dz_ob h
    try dsimp only at h
    have hPc := hP
    have hKc := hK
    have hDc := hD
    have hFc := dz_freeall hD hS hA
    refine va_calli (va_runV (As := [.int 2, .int z59_1]) (rest := []) ⟨hx, hb, hml, hown, hg⟩ (c_Model_next l dC dI N cB cI o_Model r z59_3 z59_2 (2 : Int32) z59_1 H.size (z60_1, z60_2) hc60) (cwV 2 hg (gd_V k871 k872 k873 k707 k870) rfl rfl rfl (by decide +kernel) ⟨Nat.le_of_ble_eq_true rfl, Nat.le_of_ble_eq_true rfl⟩) ⟨dz_blind, va_recv hKc hPc (ci := 10) (q0 := 0) rfl rfl, fun U hU hW => ⟨rfl, dz_Nw hW hN, by rw [hU], by rw [hU]; exact hPc, va_K.moved hW.alike hKc, hDc.weaken (fun _ _ _ _ => trivial)⟩⟩ rfl rfl hl.1 rfl (lv_room (Nat.le_of_ble_eq_true rfl)) d_Model_others_409 ⟨Nat.le_of_ble_eq_true rfl, Nat.le_of_ble_eq_true rfl⟩) hS (fun q _ h => hFc q h) hFc (fun r60 u60 t60 H1 locs ht hvm hw hB hz1 hk1 hS => ?_)
    obtain ⟨hP1, hK1, hD1⟩ := hB
    rw [ht] at hP1
    have hP := hP1
    have hD := hD1.weaken (fun _ q _ h => hFc q.1 h)
    have hw : z60_1 = r60 := hw.symm
    subst hw
    generalize H1 = H at hP hS ⊢
    have hP : va_P (dC, dI) classes (wD cB cI o_Model r z60_2 z59_2) H := hP
    have hD : va_D A (wD cB cI o_Model r z60_2 z59_2) := hD
    obtain rfl := Option.some.inj h
    have hP9 := hP
    have hD9 := hD
    have hK9 := hK
    exact W.iret (v := z60_1) hx hb hr (fun t ht hW => ⟨⟨z60_1, (), rfl, rfl, by rw [ht]; exact hP9, va_K.moved hW.alike hK9, hD9⟩, hS.F ht⟩) hS.2.2 d_Model_others_412
  rw [if_neg s1_37] at h
  by_cases s1_38 : p1 = 38
  · rw [if_pos s1_38] at h
    refine lv_tableIn (off := 412) (tgt := 413) hx hb d_Model_others_1 (by rw [s1_38]; decide) (by rw [s1_38]; decide) (by rw [s1_38]; decide) (by decide) ?_
    refine lv_aload_n hx hb d_Model_others_413 rfl (lv_at hl 0 rfl) ?_
    refine va_get (D := (dC, dI)) (ci := 10) (v := .int (I 39)) (C := R_Model) (T := F_Model) (N := 54) hx hb hg i_Model hown hK hP 0 rfl rfl 39 (by decide) (hg _ k725) (fun _ h9 => h9) rfl d_Model_others_414 ?_
    refine lv_i2l (v := (I 39).toInt64) hx hb d_Model_others_417 rfl ?_
    refine lv_iload_n hx hb d_Model_others_418 rfl (lv_at hl 3 rfl) ?_
    refine lv_i2l (v := p2.toInt64) hx hb d_Model_others_419 rfl ?_
    refine lv_ladd hx hb d_Model_others_420 ?_
    refine lv_lconst (v := 0) hx hb d_Model_others_421 (by decide) ?_
    refine W.lcmp hx hb d_Model_others_422 ?_
    refine lv_if_lt (tgt := 443) hx hb d_Model_others_423 (by decide) (fun c61 => ?_) (fun c61 => ?_)
    · rw [if_pos c61] at h
      refine lv_aload_n hx hb d_Model_others_443 rfl (lv_at hl 0 rfl) ?_
      refine va_get (D := (dC, dI)) (ci := 10) (v := .int (I 39)) (C := R_Model) (T := F_Model) (N := 54) hx hb hg i_Model hown hK hP 0 rfl rfl 39 (by decide) (hg _ k725) (fun _ h9 => h9) rfl d_Model_others_444 ?_
      refine lv_i2l (v := (I 39).toInt64) hx hb d_Model_others_447 rfl ?_
      refine lv_iload_n hx hb d_Model_others_448 rfl (lv_at hl 3 rfl) ?_
      refine lv_i2l (v := p2.toInt64) hx hb d_Model_others_449 rfl ?_
      refine lv_ladd hx hb d_Model_others_450 ?_
      refine lv_lconst (v := 0) hx hb d_Model_others_451 (by decide) ?_
      refine W.lcmp hx hb d_Model_others_452 ?_
      refine lv_if_ge (tgt := 460) hx hb d_Model_others_453 (by decide) (fun c62 => ?_) (fun c62 => ?_)
      · rw [if_pos c62] at h
        refine lv_iconst (v := 3) hx hb d_Model_others_460 (by decide) ?_
        obtain rfl := Option.some.inj h
        have hP9 := hP
        have hD9 := hD
        have hK9 := hK
        exact W.iret (v := 3) hx hb hr (fun t ht hW => ⟨⟨3, (), rfl, rfl, by rw [ht]; exact hP9, va_K.moved hW.alike hK9, hD9⟩, hS.F ht⟩) hS.2.2 d_Model_others_461
      · rw [if_neg c62] at h
        refine lv_iconst (v := 4) hx hb d_Model_others_456 (by decide) ?_
        refine lv_goto (tgt := 461) hx hb d_Model_others_457 (by decide) ?_
        obtain rfl := Option.some.inj h
        have hP9 := hP
        have hD9 := hD
        have hK9 := hK
        exact W.iret (v := 4) hx hb hr (fun t ht hW => ⟨⟨4, (), rfl, rfl, by rw [ht]; exact hP9, va_K.moved hW.alike hK9, hD9⟩, hS.F ht⟩) hS.2.2 d_Model_others_461
    · rw [if_neg c61] at h
      refine lv_aload_n hx hb d_Model_others_426 rfl (lv_at hl 0 rfl) ?_
      refine va_get (D := (dC, dI)) (ci := 10) (v := .int (I 39)) (C := R_Model) (T := F_Model) (N := 54) hx hb hg i_Model hown hK hP 0 rfl rfl 39 (by decide) (hg _ k725) (fun _ h9 => h9) rfl d_Model_others_427 ?_
      refine lv_i2l (v := (I 39).toInt64) hx hb d_Model_others_430 rfl ?_
      refine lv_iload_n hx hb d_Model_others_431 rfl (lv_at hl 3 rfl) ?_
      refine lv_i2l (v := p2.toInt64) hx hb d_Model_others_432 rfl ?_
      refine lv_ladd hx hb d_Model_others_433 ?_
      refine lv_aload_n hx hb d_Model_others_434 rfl (lv_at hl 0 rfl) ?_
      refine va_get (D := (dC, dI)) (ci := 10) (v := .int (I 45)) (C := R_Model) (T := F_Model) (N := 54) hx hb hg i_Model hown hK hP 0 rfl rfl 45 (by decide) (hg _ k937) (fun _ h9 => h9) rfl d_Model_others_435 ?_
      refine lv_i2l (v := (I 45).toInt64) hx hb d_Model_others_438 rfl ?_
      refine W.lcmp hx hb d_Model_others_439 ?_
      refine lv_if_le (tgt := 462) hx hb d_Model_others_440 (by decide) (fun c63 => ?_) (fun c63 => ?_)
      · rw [if_pos c63] at h
        refine lv_aload_n hx hb d_Model_others_462 rfl (lv_at hl 0 rfl) ?_
        refine lv_dup hx hb d_Model_others_463 rfl ?_
        refine va_get (D := (dC, dI)) (ci := 10) (v := .int (I 39)) (C := R_Model) (T := F_Model) (N := 54) hx hb hg i_Model hown hK hP 0 rfl rfl 39 (by decide) (hg _ k725) (fun _ h9 => h9) rfl d_Model_others_464 ?_
        refine lv_iload_n hx hb d_Model_others_467 rfl (lv_at hl 3 rfl) ?_
        refine lv_iadd hx hb d_Model_others_468 ?_
        refine va_put (D := (dC, dI)) (ci := 10) (v := .int ((I 39) + p2)) (ty := .int) (C := R_Model) (T := F_Model) (N := 54) hx hb hg i_Model t_Model t_Model_ok n_Model hown hK hP hD hS 0 rfl rfl 39 (by decide) (hg _ k725) (fun _ h9 => h9) rfl (by decide +kernel) rfl rfl (Nat.le_of_ble_eq_true rfl) d_Model_others_469 (fun H locs hP hD hS => ?_)
        obtain ⟨J64, eJ64, h⟩ := dz_lt h
        have hP : va_P (dC, dI) classes (wD cB cI o_Model r J64 F) H := by rw [eJ64]; exact hP
        have hD : va_D A (wD cB cI o_Model r J64 F) := by rw [eJ64]; exact hD
        refine lv_aload_n hx hb d_Model_others_472 rfl (lv_at hl 0 rfl) ?_
        refine lv_iconst (v := 2) hx hb d_Model_others_473 (by decide) ?_
        refine lv_iconst (v := 5) hx hb d_Model_others_474 (by decide) ?_
        obtain ⟨⟨z65_1, z65_2⟩, hc65, h⟩ := dz_ob h
        try dsimp only at h
        have hPc := hP
        have hKc := hK
        have hDc := hD
        have hFc := dz_freeall hD hS hA
        refine va_calli (va_runV (As := [.int 2, .int 5]) (rest := []) ⟨hx, hb, hml, hown, hg⟩ (c_Model_next l dC dI N cB cI o_Model r J64 F (2 : Int32) (5 : Int32) H.size (z65_1, z65_2) hc65) (cwV 2 hg (gd_V k871 k872 k873 k707 k870) rfl rfl rfl (by decide +kernel) ⟨Nat.le_of_ble_eq_true rfl, Nat.le_of_ble_eq_true rfl⟩) ⟨dz_blind, va_recv hKc hPc (ci := 10) (q0 := 0) rfl rfl, fun U hU hW => ⟨rfl, dz_Nw hW hN, by rw [hU], by rw [hU]; exact hPc, va_K.moved hW.alike hKc, hDc.weaken (fun _ _ _ _ => trivial)⟩⟩ rfl rfl hl.1 rfl (lv_room (Nat.le_of_ble_eq_true rfl)) d_Model_others_475 ⟨Nat.le_of_ble_eq_true rfl, Nat.le_of_ble_eq_true rfl⟩) hS (fun q _ h => hFc q h) hFc (fun r65 u65 t65 H1 locs ht hvm hw hB hz1 hk1 hS => ?_)
        obtain ⟨hP1, hK1, hD1⟩ := hB
        rw [ht] at hP1
        have hP := hP1
        have hD := hD1.weaken (fun _ q _ h => hFc q.1 h)
        have hw : z65_1 = r65 := hw.symm
        subst hw
        generalize H1 = H at hP hS ⊢
        have hP : va_P (dC, dI) classes (wD cB cI o_Model r z65_2 F) H := hP
        have hD : va_D A (wD cB cI o_Model r z65_2 F) := hD
        obtain rfl := Option.some.inj h
        have hP9 := hP
        have hD9 := hD
        have hK9 := hK
        exact W.iret (v := z65_1) hx hb hr (fun t ht hW => ⟨⟨z65_1, (), rfl, rfl, by rw [ht]; exact hP9, va_K.moved hW.alike hK9, hD9⟩, hS.F ht⟩) hS.2.2 d_Model_others_478
      · rw [if_neg c63] at h
        refine lv_aload_n hx hb d_Model_others_443 rfl (lv_at hl 0 rfl) ?_
        refine va_get (D := (dC, dI)) (ci := 10) (v := .int (I 39)) (C := R_Model) (T := F_Model) (N := 54) hx hb hg i_Model hown hK hP 0 rfl rfl 39 (by decide) (hg _ k725) (fun _ h9 => h9) rfl d_Model_others_444 ?_
        refine lv_i2l (v := (I 39).toInt64) hx hb d_Model_others_447 rfl ?_
        refine lv_iload_n hx hb d_Model_others_448 rfl (lv_at hl 3 rfl) ?_
        refine lv_i2l (v := p2.toInt64) hx hb d_Model_others_449 rfl ?_
        refine lv_ladd hx hb d_Model_others_450 ?_
        refine lv_lconst (v := 0) hx hb d_Model_others_451 (by decide) ?_
        refine W.lcmp hx hb d_Model_others_452 ?_
        refine lv_if_ge (tgt := 460) hx hb d_Model_others_453 (by decide) (fun c66 => ?_) (fun c66 => ?_)
        · rw [if_pos c66] at h
          refine lv_iconst (v := 3) hx hb d_Model_others_460 (by decide) ?_
          obtain rfl := Option.some.inj h
          have hP9 := hP
          have hD9 := hD
          have hK9 := hK
          exact W.iret (v := 3) hx hb hr (fun t ht hW => ⟨⟨3, (), rfl, rfl, by rw [ht]; exact hP9, va_K.moved hW.alike hK9, hD9⟩, hS.F ht⟩) hS.2.2 d_Model_others_461
        · rw [if_neg c66] at h
          refine lv_iconst (v := 4) hx hb d_Model_others_456 (by decide) ?_
          refine lv_goto (tgt := 461) hx hb d_Model_others_457 (by decide) ?_
          obtain rfl := Option.some.inj h
          have hP9 := hP
          have hD9 := hD
          have hK9 := hK
          exact W.iret (v := 4) hx hb hr (fun t ht hW => ⟨⟨4, (), rfl, rfl, by rw [ht]; exact hP9, va_K.moved hW.alike hK9, hD9⟩, hS.F ht⟩) hS.2.2 d_Model_others_461
  rw [if_neg s1_38] at h
  refine lv_tableOut (tgt := 479) hx hb d_Model_others_1 (by have q0 := lv_neT s1_26 (a := 26) (by decide); have q1 := lv_neT s1_27 (a := 27) (by decide); have q2 := lv_neT s1_28 (a := 28) (by decide); have q3 := lv_neT s1_29 (a := 29) (by decide); have q4 := lv_neT s1_30 (a := 30) (by decide); have q5 := lv_neT s1_31 (a := 31) (by decide); have q6 := lv_neT s1_32 (a := 32) (by decide); have q7 := lv_neT s1_33 (a := 33) (by decide); have q8 := lv_neT s1_34 (a := 34) (by decide); have q9 := lv_neT s1_35 (a := 35) (by decide); have q10 := lv_neT s1_36 (a := 36) (by decide); have q11 := lv_neT s1_37 (a := 37) (by decide); have q12 := lv_neT s1_38 (a := 38) (by decide); omega) (by decide) ?_
  refine lv_aload_n hx hb d_Model_others_479 rfl (lv_at hl 0 rfl) ?_
  refine lv_iconst (v := 1) hx hb d_Model_others_480 (by decide) ?_
  refine lv_aload_n hx hb d_Model_others_481 rfl (lv_at hl 0 rfl) ?_
  obtain ⟨⟨z67_1, z67_2⟩, hc67, h⟩ := dz_ob h
  try dsimp only at h
  have hPc := hP
  have hKc := hK
  have hDc := hD
  have hFc := dz_freeall hD hS hA
  refine va_calli (va_runV (As := []) (rest := [.int 1, .ref o_Model]) ⟨hx, hb, hml, hown, hg⟩ (c_Model_swap l dC dI N cB cI o_Model r I F s.heap.size (z67_1, z67_2) hc67) (cwV 0 hg (gd_V k967 k968 k969 k707 k966) rfl rfl rfl (by decide +kernel) ⟨Nat.le_of_ble_eq_true rfl, Nat.le_of_ble_eq_true rfl⟩) ⟨dz_blind, va_recv hKc hPc (ci := 10) (q0 := 0) rfl rfl, fun U hU hW => ⟨rfl, dz_Nw hW hN, by rw [hU], by rw [hU]; exact hPc, va_K.moved hW.alike hKc, hDc.weaken (fun _ _ _ _ => trivial)⟩⟩ rfl rfl hl.1 rfl (lv_room (Nat.le_of_ble_eq_true rfl)) d_Model_others_482 ⟨Nat.le_of_ble_eq_true rfl, Nat.le_of_ble_eq_true rfl⟩) hS (fun q _ h => hFc q h) hFc (fun r67 u67 t67 H1 locs ht hvm hw hB hz1 hk1 hS => ?_)
  obtain ⟨hP1, hK1, hD1⟩ := hB
  rw [ht] at hP1
  have hP := hP1
  have hD := hD1.weaken (fun _ q _ h => hFc q.1 h)
  have hw : z67_1 = r67 := hw.symm
  subst hw
  generalize H1 = H at hP hS ⊢
  have hP : va_P (dC, dI) classes (wD cB cI o_Model r I z67_2) H := hP
  have hD : va_D A (wD cB cI o_Model r I z67_2) := hD
  obtain ⟨⟨z68_1, z68_2⟩, hc68, h⟩ := dz_ob h
  try dsimp only at h
  have hPc := hP
  have hKc := hK
  have hDc := hD
  have hFc := dz_freeall hD hS hA
  refine va_calli (va_runV (As := [.int 1, .int z67_1]) (rest := []) ⟨hx, hb, hml, hown, hg⟩ (c_Model_next l dC dI N cB cI o_Model r I z67_2 (1 : Int32) z67_1 H.size (z68_1, z68_2) hc68) (cwV 2 hg (gd_V k871 k872 k873 k707 k870) rfl rfl rfl (by decide +kernel) ⟨Nat.le_of_ble_eq_true rfl, Nat.le_of_ble_eq_true rfl⟩) ⟨dz_blind, va_recv hKc hPc (ci := 10) (q0 := 0) rfl rfl, fun U hU hW => ⟨rfl, dz_Nw hW hN, by rw [hU], by rw [hU]; exact hPc, va_K.moved hW.alike hKc, hDc.weaken (fun _ _ _ _ => trivial)⟩⟩ rfl rfl hl.1 rfl (lv_room (Nat.le_of_ble_eq_true rfl)) d_Model_others_485 ⟨Nat.le_of_ble_eq_true rfl, Nat.le_of_ble_eq_true rfl⟩) hS (fun q _ h => hFc q h) hFc (fun r68 u68 t68 H1 locs ht hvm hw hB hz1 hk1 hS => ?_)
  obtain ⟨hP1, hK1, hD1⟩ := hB
  rw [ht] at hP1
  have hP := hP1
  have hD := hD1.weaken (fun _ q _ h => hFc q.1 h)
  have hw : z68_1 = r68 := hw.symm
  subst hw
  generalize H1 = H at hP hS ⊢
  have hP : va_P (dC, dI) classes (wD cB cI o_Model r z68_2 z67_2) H := hP
  have hD : va_D A (wD cB cI o_Model r z68_2 z67_2) := hD
  obtain rfl := Option.some.inj h
  have hP9 := hP
  have hD9 := hD
  have hK9 := hK
  exact W.iret (v := z68_1) hx hb hr (fun t ht hW => ⟨⟨z68_1, (), rfl, rfl, by rw [ht]; exact hP9, va_K.moved hW.alike hK9, hD9⟩, hS.F ht⟩) hS.2.2 d_Model_others_488
