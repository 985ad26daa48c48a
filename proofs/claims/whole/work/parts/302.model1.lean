theorem d_Model_code_0 : decode b_Model_code 0 = .ok (.aload_n 0, 1) := by decide +kernel
theorem d_Model_code_1 : decode b_Model_code 1 = .ok (.getfield 171, 3) := by decide +kernel
theorem d_Model_code_4 : decode b_Model_code 4 = .ok (.ldc 38, 2) := by decide +kernel
theorem d_Model_code_6 : decode b_Model_code 6 = .ok (.if_icmp .ne 6, 3) := by decide +kernel
theorem d_Model_code_9 : decode b_Model_code 9 = .ok (.bipush (-2), 2) := by decide +kernel
theorem d_Model_code_11 : decode b_Model_code 11 = .ok (.ireturn, 1) := by decide +kernel
theorem d_Model_code_12 : decode b_Model_code 12 = .ok (.aload_n 0, 1) := by decide +kernel
theorem d_Model_code_13 : decode b_Model_code 13 = .ok (.getfield 39, 3) := by decide +kernel
theorem d_Model_code_16 : decode b_Model_code 16 = .ok (.aload_n 0, 1) := by decide +kernel
theorem d_Model_code_17 : decode b_Model_code 17 = .ok (.getfield 171, 3) := by decide +kernel
theorem d_Model_code_20 : decode b_Model_code 20 = .ok (.iload_n 1, 1) := by decide +kernel
theorem d_Model_code_21 : decode b_Model_code 21 = .ok (.iastore, 1) := by decide +kernel
theorem d_Model_code_22 : decode b_Model_code 22 = .ok (.aload_n 0, 1) := by decide +kernel
theorem d_Model_code_23 : decode b_Model_code 23 = .ok (.dup, 1) := by decide +kernel
theorem d_Model_code_24 : decode b_Model_code 24 = .ok (.getfield 171, 3) := by decide +kernel
theorem d_Model_code_27 : decode b_Model_code 27 = .ok (.iconst 1, 1) := by decide +kernel
theorem d_Model_code_28 : decode b_Model_code 28 = .ok (.iadd, 1) := by decide +kernel
theorem d_Model_code_29 : decode b_Model_code 29 = .ok (.putfield 171, 3) := by decide +kernel
theorem d_Model_code_32 : decode b_Model_code 32 = .ok (.aload_n 0, 1) := by decide +kernel
theorem d_Model_code_33 : decode b_Model_code 33 = .ok (.getfield 171, 3) := by decide +kernel
theorem d_Model_code_36 : decode b_Model_code 36 = .ok (.ireturn, 1) := by decide +kernel
theorem d_Model_isOn_0 : decode b_Model_isOn 0 = .ok (.aload_n 0, 1) := by decide +kernel
theorem d_Model_isOn_1 : decode b_Model_isOn 1 = .ok (.getfield 128, 3) := by decide +kernel
theorem d_Model_isOn_4 : decode b_Model_isOn 4 = .ok (.ifCond .eq 15, 3) := by decide +kernel
theorem d_Model_isOn_7 : decode b_Model_isOn 7 = .ok (.aload_n 0, 1) := by decide +kernel
theorem d_Model_isOn_8 : decode b_Model_isOn 8 = .ok (.getfield 132, 3) := by decide +kernel
theorem d_Model_isOn_11 : decode b_Model_isOn 11 = .ok (.iconst 5, 1) := by decide +kernel
theorem d_Model_isOn_12 : decode b_Model_isOn 12 = .ok (.if_icmp .ne 7, 3) := by decide +kernel
theorem d_Model_isOn_15 : decode b_Model_isOn 15 = .ok (.iconst 1, 1) := by decide +kernel
theorem d_Model_isOn_16 : decode b_Model_isOn 16 = .ok (.goto 4, 3) := by decide +kernel
theorem d_Model_isOn_19 : decode b_Model_isOn 19 = .ok (.iconst 0, 1) := by decide +kernel
theorem d_Model_isOn_20 : decode b_Model_isOn 20 = .ok (.ireturn, 1) := by decide +kernel
theorem d_Model_cut_0 : decode b_Model_cut 0 = .ok (.iload_n 1, 1) := by decide +kernel
theorem d_Model_cut_1 : decode b_Model_cut 1 = .ok (.ifCond .lt 18, 3) := by decide +kernel
theorem d_Model_cut_4 : decode b_Model_cut 4 = .ok (.iload_n 1, 1) := by decide +kernel
theorem d_Model_cut_5 : decode b_Model_cut 5 = .ok (.aload_n 0, 1) := by decide +kernel
theorem d_Model_cut_6 : decode b_Model_cut 6 = .ok (.getfield 171, 3) := by decide +kernel
theorem d_Model_cut_9 : decode b_Model_cut 9 = .ok (.if_icmp .gt 10, 3) := by decide +kernel
theorem d_Model_cut_12 : decode b_Model_cut 12 = .ok (.aload_n 0, 1) := by decide +kernel
theorem d_Model_cut_13 : decode b_Model_cut 13 = .ok (.invokevirtual 138, 3) := by decide +kernel
theorem d_Model_cut_16 : decode b_Model_cut 16 = .ok (.ifCond .eq 5, 3) := by decide +kernel
theorem d_Model_cut_19 : decode b_Model_cut 19 = .ok (.iconst (-1), 1) := by decide +kernel
theorem d_Model_cut_20 : decode b_Model_cut 20 = .ok (.ireturn, 1) := by decide +kernel
theorem d_Model_cut_21 : decode b_Model_cut 21 = .ok (.aload_n 0, 1) := by decide +kernel
theorem d_Model_cut_22 : decode b_Model_cut 22 = .ok (.iload_n 1, 1) := by decide +kernel
theorem d_Model_cut_23 : decode b_Model_cut 23 = .ok (.putfield 171, 3) := by decide +kernel
theorem d_Model_cut_26 : decode b_Model_cut 26 = .ok (.aload_n 0, 1) := by decide +kernel
theorem d_Model_cut_27 : decode b_Model_cut 27 = .ok (.getfield 171, 3) := by decide +kernel
theorem d_Model_cut_30 : decode b_Model_cut 30 = .ok (.ireturn, 1) := by decide +kernel
theorem d_Model_put_0 : decode b_Model_put 0 = .ok (.iconst 0, 1) := by decide +kernel
theorem d_Model_put_1 : decode b_Model_put 1 = .ok (.istore_n 3, 1) := by decide +kernel
theorem d_Model_put_2 : decode b_Model_put 2 = .ok (.iload_n 3, 1) := by decide +kernel
theorem d_Model_put_3 : decode b_Model_put 3 = .ok (.bipush 8, 2) := by decide +kernel
theorem d_Model_put_5 : decode b_Model_put 5 = .ok (.if_icmp .ge 24, 3) := by decide +kernel
theorem d_Model_put_8 : decode b_Model_put 8 = .ok (.lload_n 1, 1) := by decide +kernel
theorem d_Model_put_9 : decode b_Model_put 9 = .ok (.bipush 8, 2) := by decide +kernel
theorem d_Model_put_11 : decode b_Model_put 11 = .ok (.iload_n 3, 1) := by decide +kernel
theorem d_Model_put_12 : decode b_Model_put 12 = .ok (.imul, 1) := by decide +kernel
theorem d_Model_put_13 : decode b_Model_put 13 = .ok (.lshr, 1) := by decide +kernel
theorem d_Model_put_14 : decode b_Model_put 14 = .ok (.ldc2_w 174, 3) := by decide +kernel
theorem d_Model_put_17 : decode b_Model_put 17 = .ok (.land, 1) := by decide +kernel
theorem d_Model_put_18 : decode b_Model_put 18 = .ok (.lconst 0, 1) := by decide +kernel
theorem d_Model_put_19 : decode b_Model_put 19 = .ok (.lcmp, 1) := by decide +kernel
theorem d_Model_put_20 : decode b_Model_put 20 = .ok (.ifCond .eq 9, 3) := by decide +kernel
theorem d_Model_put_23 : decode b_Model_put 23 = .ok (.iinc 3 1, 3) := by decide +kernel
theorem d_Model_put_26 : decode b_Model_put 26 = .ok (.goto (-24), 3) := by decide +kernel
theorem d_Model_put_29 : decode b_Model_put 29 = .ok (.aload_n 0, 1) := by decide +kernel
theorem d_Model_put_30 : decode b_Model_put 30 = .ok (.getfield 176, 3) := by decide +kernel
theorem d_Model_put_33 : decode b_Model_put 33 = .ok (.iload_n 3, 1) := by decide +kernel
theorem d_Model_put_34 : decode b_Model_put 34 = .ok (.iadd, 1) := by decide +kernel
theorem d_Model_put_35 : decode b_Model_put 35 = .ok (.sipush 4096, 3) := by decide +kernel
theorem d_Model_put_38 : decode b_Model_put 38 = .ok (.if_icmp .le 6, 3) := by decide +kernel
theorem d_Model_put_41 : decode b_Model_put 41 = .ok (.bipush (-2), 2) := by decide +kernel
theorem d_Model_put_43 : decode b_Model_put 43 = .ok (.ireturn, 1) := by decide +kernel
theorem d_Model_put_44 : decode b_Model_put 44 = .ok (.iconst 0, 1) := by decide +kernel
theorem d_Model_put_45 : decode b_Model_put 45 = .ok (.istore 4, 2) := by decide +kernel
theorem d_Model_put_47 : decode b_Model_put 47 = .ok (.iload 4, 2) := by decide +kernel
theorem d_Model_put_49 : decode b_Model_put 49 = .ok (.iload_n 3, 1) := by decide +kernel
theorem d_Model_put_50 : decode b_Model_put 50 = .ok (.if_icmp .ge 47, 3) := by decide +kernel
theorem d_Model_put_53 : decode b_Model_put 53 = .ok (.aload_n 0, 1) := by decide +kernel
theorem d_Model_put_54 : decode b_Model_put 54 = .ok (.getfield 43, 3) := by decide +kernel
theorem d_Model_put_57 : decode b_Model_put 57 = .ok (.aload_n 0, 1) := by decide +kernel
theorem d_Model_put_58 : decode b_Model_put 58 = .ok (.getfield 47, 3) := by decide +kernel
theorem d_Model_put_61 : decode b_Model_put 61 = .ok (.aload_n 0, 1) := by decide +kernel
theorem d_Model_put_62 : decode b_Model_put 62 = .ok (.getfield 179, 3) := by decide +kernel
theorem d_Model_put_65 : decode b_Model_put 65 = .ok (.iaload, 1) := by decide +kernel
theorem d_Model_put_66 : decode b_Model_put 66 = .ok (.aload_n 0, 1) := by decide +kernel
theorem d_Model_put_67 : decode b_Model_put 67 = .ok (.getfield 176, 3) := by decide +kernel
theorem d_Model_put_70 : decode b_Model_put 70 = .ok (.iadd, 1) := by decide +kernel
theorem d_Model_put_71 : decode b_Model_put 71 = .ok (.lload_n 1, 1) := by decide +kernel
theorem d_Model_put_72 : decode b_Model_put 72 = .ok (.bipush 8, 2) := by decide +kernel
theorem d_Model_put_74 : decode b_Model_put 74 = .ok (.iload 4, 2) := by decide +kernel
theorem d_Model_put_76 : decode b_Model_put 76 = .ok (.imul, 1) := by decide +kernel
theorem d_Model_put_77 : decode b_Model_put 77 = .ok (.lshr, 1) := by decide +kernel
theorem d_Model_put_78 : decode b_Model_put 78 = .ok (.l2i, 1) := by decide +kernel
theorem d_Model_put_79 : decode b_Model_put 79 = .ok (.i2b, 1) := by decide +kernel
theorem d_Model_put_80 : decode b_Model_put 80 = .ok (.bastore, 1) := by decide +kernel
theorem d_Model_put_81 : decode b_Model_put 81 = .ok (.aload_n 0, 1) := by decide +kernel
theorem d_Model_put_82 : decode b_Model_put 82 = .ok (.dup, 1) := by decide +kernel
theorem d_Model_put_83 : decode b_Model_put 83 = .ok (.getfield 176, 3) := by decide +kernel
theorem d_Model_put_86 : decode b_Model_put 86 = .ok (.iconst 1, 1) := by decide +kernel
theorem d_Model_put_87 : decode b_Model_put 87 = .ok (.iadd, 1) := by decide +kernel
theorem d_Model_put_88 : decode b_Model_put 88 = .ok (.putfield 176, 3) := by decide +kernel
theorem d_Model_put_91 : decode b_Model_put 91 = .ok (.iinc 4 1, 3) := by decide +kernel
theorem d_Model_put_94 : decode b_Model_put 94 = .ok (.goto (-47), 3) := by decide +kernel
theorem d_Model_put_97 : decode b_Model_put 97 = .ok (.aload_n 0, 1) := by decide +kernel
theorem d_Model_put_98 : decode b_Model_put 98 = .ok (.getfield 176, 3) := by decide +kernel
theorem d_Model_put_101 : decode b_Model_put 101 = .ok (.ireturn, 1) := by decide +kernel
theorem d_Model_constant_0 : decode b_Model_constant 0 = .ok (.aload_n 0, 1) := by decide +kernel
theorem d_Model_constant_1 : decode b_Model_constant 1 = .ok (.getfield 179, 3) := by decide +kernel
theorem d_Model_constant_4 : decode b_Model_constant 4 = .ok (.sipush 1024, 3) := by decide +kernel
theorem d_Model_constant_7 : decode b_Model_constant 7 = .ok (.if_icmp .eq 22, 3) := by decide +kernel
theorem d_Model_constant_10 : decode b_Model_constant 10 = .ok (.aload_n 0, 1) := by decide +kernel
theorem d_Model_constant_11 : decode b_Model_constant 11 = .ok (.getfield 47, 3) := by decide +kernel
theorem d_Model_constant_14 : decode b_Model_constant 14 = .ok (.aload_n 0, 1) := by decide +kernel
theorem d_Model_constant_15 : decode b_Model_constant 15 = .ok (.getfield 179, 3) := by decide +kernel
theorem d_Model_constant_18 : decode b_Model_constant 18 = .ok (.iaload, 1) := by decide +kernel
theorem d_Model_constant_19 : decode b_Model_constant 19 = .ok (.aload_n 0, 1) := by decide +kernel
theorem d_Model_constant_20 : decode b_Model_constant 20 = .ok (.getfield 176, 3) := by decide +kernel
theorem d_Model_constant_23 : decode b_Model_constant 23 = .ok (.iadd, 1) := by decide +kernel
theorem d_Model_constant_24 : decode b_Model_constant 24 = .ok (.ldc 62, 2) := by decide +kernel
theorem d_Model_constant_26 : decode b_Model_constant 26 = .ok (.if_icmp .le 6, 3) := by decide +kernel
theorem d_Model_constant_29 : decode b_Model_constant 29 = .ok (.bipush (-2), 2) := by decide +kernel
theorem d_Model_constant_31 : decode b_Model_constant 31 = .ok (.ireturn, 1) := by decide +kernel
theorem d_Model_constant_32 : decode b_Model_constant 32 = .ok (.aload_n 0, 1) := by decide +kernel
theorem d_Model_constant_33 : decode b_Model_constant 33 = .ok (.getfield 47, 3) := by decide +kernel
theorem d_Model_constant_36 : decode b_Model_constant 36 = .ok (.aload_n 0, 1) := by decide +kernel
theorem d_Model_constant_37 : decode b_Model_constant 37 = .ok (.getfield 179, 3) := by decide +kernel
theorem d_Model_constant_40 : decode b_Model_constant 40 = .ok (.iconst 1, 1) := by decide +kernel
theorem d_Model_constant_41 : decode b_Model_constant 41 = .ok (.iadd, 1) := by decide +kernel
theorem d_Model_constant_42 : decode b_Model_constant 42 = .ok (.aload_n 0, 1) := by decide +kernel
theorem d_Model_constant_43 : decode b_Model_constant 43 = .ok (.getfield 47, 3) := by decide +kernel
theorem d_Model_constant_46 : decode b_Model_constant 46 = .ok (.aload_n 0, 1) := by decide +kernel
theorem d_Model_constant_47 : decode b_Model_constant 47 = .ok (.getfield 179, 3) := by decide +kernel
theorem d_Model_constant_50 : decode b_Model_constant 50 = .ok (.iaload, 1) := by decide +kernel
theorem d_Model_constant_51 : decode b_Model_constant 51 = .ok (.aload_n 0, 1) := by decide +kernel
theorem d_Model_constant_52 : decode b_Model_constant 52 = .ok (.getfield 176, 3) := by decide +kernel
theorem d_Model_constant_55 : decode b_Model_constant 55 = .ok (.iadd, 1) := by decide +kernel
theorem d_Model_constant_56 : decode b_Model_constant 56 = .ok (.iastore, 1) := by decide +kernel
theorem d_Model_constant_57 : decode b_Model_constant 57 = .ok (.aload_n 0, 1) := by decide +kernel
theorem d_Model_constant_58 : decode b_Model_constant 58 = .ok (.dup, 1) := by decide +kernel
theorem d_Model_constant_59 : decode b_Model_constant 59 = .ok (.getfield 179, 3) := by decide +kernel
theorem d_Model_constant_62 : decode b_Model_constant 62 = .ok (.iconst 1, 1) := by decide +kernel
theorem d_Model_constant_63 : decode b_Model_constant 63 = .ok (.iadd, 1) := by decide +kernel
theorem d_Model_constant_64 : decode b_Model_constant 64 = .ok (.putfield 179, 3) := by decide +kernel
theorem d_Model_constant_67 : decode b_Model_constant 67 = .ok (.aload_n 0, 1) := by decide +kernel
theorem d_Model_constant_68 : decode b_Model_constant 68 = .ok (.iconst 0, 1) := by decide +kernel
theorem d_Model_constant_69 : decode b_Model_constant 69 = .ok (.putfield 176, 3) := by decide +kernel
theorem d_Model_constant_72 : decode b_Model_constant 72 = .ok (.aload_n 0, 1) := by decide +kernel
theorem d_Model_constant_73 : decode b_Model_constant 73 = .ok (.getfield 179, 3) := by decide +kernel
theorem d_Model_constant_76 : decode b_Model_constant 76 = .ok (.iconst 1, 1) := by decide +kernel
theorem d_Model_constant_77 : decode b_Model_constant 77 = .ok (.isub, 1) := by decide +kernel
theorem d_Model_constant_78 : decode b_Model_constant 78 = .ok (.ireturn, 1) := by decide +kernel
theorem d_Model_start_0 : decode b_Model_start 0 = .ok (.iload_n 1, 1) := by decide +kernel
theorem d_Model_start_1 : decode b_Model_start 1 = .ok (.ifCond .lt 13, 3) := by decide +kernel
theorem d_Model_start_4 : decode b_Model_start 4 = .ok (.iload_n 2, 1) := by decide +kernel
theorem d_Model_start_5 : decode b_Model_start 5 = .ok (.ifCond .lt 9, 3) := by decide +kernel
theorem d_Model_start_8 : decode b_Model_start 8 = .ok (.iload_n 2, 1) := by decide +kernel
theorem d_Model_start_9 : decode b_Model_start 9 = .ok (.ldc 88, 2) := by decide +kernel
theorem d_Model_start_11 : decode b_Model_start 11 = .ok (.if_icmp .le 5, 3) := by decide +kernel
theorem d_Model_start_14 : decode b_Model_start 14 = .ok (.iconst 0, 1) := by decide +kernel
theorem d_Model_start_15 : decode b_Model_start 15 = .ok (.ireturn, 1) := by decide +kernel
theorem d_Model_start_16 : decode b_Model_start 16 = .ok (.aload_n 0, 1) := by decide +kernel
theorem d_Model_start_17 : decode b_Model_start 17 = .ok (.iconst 1, 1) := by decide +kernel
theorem d_Model_start_18 : decode b_Model_start 18 = .ok (.putfield 128, 3) := by decide +kernel
theorem d_Model_start_21 : decode b_Model_start 21 = .ok (.aload_n 0, 1) := by decide +kernel
theorem d_Model_start_22 : decode b_Model_start 22 = .ok (.iconst 5, 1) := by decide +kernel
theorem d_Model_start_23 : decode b_Model_start 23 = .ok (.putfield 132, 3) := by decide +kernel
theorem d_Model_start_26 : decode b_Model_start 26 = .ok (.aload_n 0, 1) := by decide +kernel
theorem d_Model_start_27 : decode b_Model_start 27 = .ok (.iconst 1, 1) := by decide +kernel
theorem d_Model_start_28 : decode b_Model_start 28 = .ok (.putfield 142, 3) := by decide +kernel
theorem d_Model_start_31 : decode b_Model_start 31 = .ok (.aload_n 0, 1) := by decide +kernel
theorem d_Model_start_32 : decode b_Model_start 32 = .ok (.getfield 50, 3) := by decide +kernel
theorem d_Model_start_35 : decode b_Model_start 35 = .ok (.iconst 0, 1) := by decide +kernel
theorem d_Model_start_36 : decode b_Model_start 36 = .ok (.iconst (-1), 1) := by decide +kernel
theorem d_Model_start_37 : decode b_Model_start 37 = .ok (.iastore, 1) := by decide +kernel
theorem d_Model_start_38 : decode b_Model_start 38 = .ok (.aload_n 0, 1) := by decide +kernel
theorem d_Model_start_39 : decode b_Model_start 39 = .ok (.getfield 53, 3) := by decide +kernel
theorem d_Model_start_42 : decode b_Model_start 42 = .ok (.iconst 0, 1) := by decide +kernel
theorem d_Model_start_43 : decode b_Model_start 43 = .ok (.iconst 0, 1) := by decide +kernel
theorem d_Model_start_44 : decode b_Model_start 44 = .ok (.iastore, 1) := by decide +kernel
theorem d_Model_start_45 : decode b_Model_start 45 = .ok (.aload_n 0, 1) := by decide +kernel
theorem d_Model_start_46 : decode b_Model_start 46 = .ok (.getfield 56, 3) := by decide +kernel
theorem d_Model_start_49 : decode b_Model_start 49 = .ok (.iconst 0, 1) := by decide +kernel
theorem d_Model_start_50 : decode b_Model_start 50 = .ok (.iconst 0, 1) := by decide +kernel
theorem d_Model_start_51 : decode b_Model_start 51 = .ok (.iastore, 1) := by decide +kernel
theorem d_Model_start_52 : decode b_Model_start 52 = .ok (.aload_n 0, 1) := by decide +kernel
theorem d_Model_start_53 : decode b_Model_start 53 = .ok (.iconst 0, 1) := by decide +kernel
theorem d_Model_start_54 : decode b_Model_start 54 = .ok (.putfield 135, 3) := by decide +kernel
theorem d_Model_start_57 : decode b_Model_start 57 = .ok (.aload_n 0, 1) := by decide +kernel
theorem d_Model_start_58 : decode b_Model_start 58 = .ok (.iconst 0, 1) := by decide +kernel
theorem d_Model_start_59 : decode b_Model_start 59 = .ok (.putfield 182, 3) := by decide +kernel
theorem d_Model_start_62 : decode b_Model_start 62 = .ok (.aload_n 0, 1) := by decide +kernel
theorem d_Model_start_63 : decode b_Model_start 63 = .ok (.iload_n 1, 1) := by decide +kernel
theorem d_Model_start_64 : decode b_Model_start 64 = .ok (.putfield 185, 3) := by decide +kernel
theorem d_Model_start_67 : decode b_Model_start 67 = .ok (.aload_n 0, 1) := by decide +kernel
theorem d_Model_start_68 : decode b_Model_start 68 = .ok (.iload_n 2, 1) := by decide +kernel
theorem d_Model_start_69 : decode b_Model_start 69 = .ok (.putfield 188, 3) := by decide +kernel
theorem d_Model_start_72 : decode b_Model_start 72 = .ok (.aload_n 0, 1) := by decide +kernel
theorem d_Model_start_73 : decode b_Model_start 73 = .ok (.iconst 0, 1) := by decide +kernel
theorem d_Model_start_74 : decode b_Model_start 74 = .ok (.putfield 191, 3) := by decide +kernel
theorem d_Model_start_77 : decode b_Model_start 77 = .ok (.aload_n 0, 1) := by decide +kernel
theorem d_Model_start_78 : decode b_Model_start 78 = .ok (.iconst 0, 1) := by decide +kernel
theorem d_Model_start_79 : decode b_Model_start 79 = .ok (.putfield 164, 3) := by decide +kernel
theorem d_Model_start_82 : decode b_Model_start 82 = .ok (.aload_n 0, 1) := by decide +kernel
theorem d_Model_start_83 : decode b_Model_start 83 = .ok (.iconst 0, 1) := by decide +kernel
theorem d_Model_start_84 : decode b_Model_start 84 = .ok (.putfield 194, 3) := by decide +kernel
theorem d_Model_start_87 : decode b_Model_start 87 = .ok (.aload_n 0, 1) := by decide +kernel
theorem d_Model_start_88 : decode b_Model_start 88 = .ok (.iconst 0, 1) := by decide +kernel
theorem d_Model_start_89 : decode b_Model_start 89 = .ok (.putfield 197, 3) := by decide +kernel
theorem d_Model_start_92 : decode b_Model_start 92 = .ok (.aload_n 0, 1) := by decide +kernel
theorem d_Model_start_93 : decode b_Model_start 93 = .ok (.iconst 0, 1) := by decide +kernel
theorem d_Model_start_94 : decode b_Model_start 94 = .ok (.putfield 200, 3) := by decide +kernel
theorem d_Model_start_97 : decode b_Model_start 97 = .ok (.aload_n 0, 1) := by decide +kernel
theorem d_Model_start_98 : decode b_Model_start 98 = .ok (.iconst 0, 1) := by decide +kernel
theorem d_Model_start_99 : decode b_Model_start 99 = .ok (.putfield 145, 3) := by decide +kernel
theorem d_Model_start_102 : decode b_Model_start 102 = .ok (.aload_n 0, 1) := by decide +kernel
theorem d_Model_start_103 : decode b_Model_start 103 = .ok (.iconst 0, 1) := by decide +kernel
theorem d_Model_start_104 : decode b_Model_start 104 = .ok (.putfield 148, 3) := by decide +kernel
theorem d_Model_start_107 : decode b_Model_start 107 = .ok (.iconst 1, 1) := by decide +kernel
theorem d_Model_start_108 : decode b_Model_start 108 = .ok (.ireturn, 1) := by decide +kernel
theorem d_Model_word_0 : decode b_Model_word 0 = .ok (.aload_n 0, 1) := by decide +kernel
theorem d_Model_word_1 : decode b_Model_word 1 = .ok (.getfield 39, 3) := by decide +kernel
theorem d_Model_word_4 : decode b_Model_word 4 = .ok (.aload_n 0, 1) := by decide +kernel
theorem d_Model_word_5 : decode b_Model_word 5 = .ok (.getfield 185, 3) := by decide +kernel
theorem d_Model_word_8 : decode b_Model_word 8 = .ok (.iload_n 1, 1) := by decide +kernel
theorem d_Model_word_9 : decode b_Model_word 9 = .ok (.iadd, 1) := by decide +kernel
theorem d_Model_word_10 : decode b_Model_word 10 = .ok (.iaload, 1) := by decide +kernel
theorem d_Model_word_11 : decode b_Model_word 11 = .ok (.ireturn, 1) := by decide +kernel
theorem d_Model_height_0 : decode b_Model_height 0 = .ok (.aload_n 0, 1) := by decide +kernel
theorem d_Model_height_1 : decode b_Model_height 1 = .ok (.getfield 135, 3) := by decide +kernel
theorem d_Model_height_4 : decode b_Model_height 4 = .ok (.aload_n 0, 1) := by decide +kernel
theorem d_Model_height_5 : decode b_Model_height 5 = .ok (.getfield 53, 3) := by decide +kernel
theorem d_Model_height_8 : decode b_Model_height 8 = .ok (.aload_n 0, 1) := by decide +kernel
theorem d_Model_height_9 : decode b_Model_height 9 = .ok (.getfield 142, 3) := by decide +kernel
theorem d_Model_height_12 : decode b_Model_height 12 = .ok (.iconst 1, 1) := by decide +kernel
theorem d_Model_height_13 : decode b_Model_height 13 = .ok (.isub, 1) := by decide +kernel
theorem d_Model_height_14 : decode b_Model_height 14 = .ok (.iaload, 1) := by decide +kernel
theorem d_Model_height_15 : decode b_Model_height 15 = .ok (.isub, 1) := by decide +kernel
theorem d_Model_height_16 : decode b_Model_height 16 = .ok (.aload_n 0, 1) := by decide +kernel
theorem d_Model_height_17 : decode b_Model_height 17 = .ok (.getfield 56, 3) := by decide +kernel
theorem d_Model_height_20 : decode b_Model_height 20 = .ok (.aload_n 0, 1) := by decide +kernel
theorem d_Model_height_21 : decode b_Model_height 21 = .ok (.getfield 142, 3) := by decide +kernel
theorem d_Model_height_24 : decode b_Model_height 24 = .ok (.iconst 1, 1) := by decide +kernel
theorem d_Model_height_25 : decode b_Model_height 25 = .ok (.isub, 1) := by decide +kernel
theorem d_Model_height_26 : decode b_Model_height 26 = .ok (.iaload, 1) := by decide +kernel
theorem d_Model_height_27 : decode b_Model_height 27 = .ok (.isub, 1) := by decide +kernel
theorem d_Model_height_28 : decode b_Model_height 28 = .ok (.ireturn, 1) := by decide +kernel
theorem d_Model_needs_0 : decode b_Model_needs 0 = .ok (.iload_n 0, 1) := by decide +kernel
theorem d_Model_needs_1 : decode b_Model_needs 1 = .ok (.tableswitch 181 0 39 #[175, 181, 181, 181, 175, 181, 181, 175, 175, 175, 179, 175, 175, 175, 175, 181, 177, 177, 177, 175, 181, 175, 175, 175, 175, 177, 181, 181, 175, 181, 177, 175, 177, 177, 181, 181, 181, 181, 181, 177], 175) := by decide +kernel
theorem d_Model_needs_176 : decode b_Model_needs 176 = .ok (.iconst 1, 1) := by decide +kernel
theorem d_Model_needs_177 : decode b_Model_needs 177 = .ok (.ireturn, 1) := by decide +kernel
theorem d_Model_needs_178 : decode b_Model_needs 178 = .ok (.iconst 2, 1) := by decide +kernel
theorem d_Model_needs_179 : decode b_Model_needs 179 = .ok (.ireturn, 1) := by decide +kernel
theorem d_Model_needs_180 : decode b_Model_needs 180 = .ok (.iload_n 1, 1) := by decide +kernel
theorem d_Model_needs_181 : decode b_Model_needs 181 = .ok (.ireturn, 1) := by decide +kernel
theorem d_Model_needs_182 : decode b_Model_needs 182 = .ok (.iconst 0, 1) := by decide +kernel
theorem d_Model_needs_183 : decode b_Model_needs 183 = .ok (.ireturn, 1) := by decide +kernel
theorem d_Model_give_0 : decode b_Model_give 0 = .ok (.aload_n 0, 1) := by decide +kernel
theorem d_Model_give_1 : decode b_Model_give 1 = .ok (.dup, 1) := by decide +kernel
theorem d_Model_give_2 : decode b_Model_give 2 = .ok (.getfield 135, 3) := by decide +kernel
theorem d_Model_give_5 : decode b_Model_give 5 = .ok (.iload_n 1, 1) := by decide +kernel
theorem d_Model_give_6 : decode b_Model_give 6 = .ok (.isub, 1) := by decide +kernel
theorem d_Model_give_7 : decode b_Model_give 7 = .ok (.putfield 135, 3) := by decide +kernel
theorem d_Model_give_10 : decode b_Model_give 10 = .ok (.aload_n 0, 1) := by decide +kernel
theorem d_Model_give_11 : decode b_Model_give 11 = .ok (.getfield 63, 3) := by decide +kernel
theorem d_Model_give_14 : decode b_Model_give 14 = .ok (.aload_n 0, 1) := by decide +kernel
theorem d_Model_give_15 : decode b_Model_give 15 = .ok (.getfield 135, 3) := by decide +kernel
theorem d_Model_give_18 : decode b_Model_give 18 = .ok (.iload_n 2, 1) := by decide +kernel
theorem d_Model_give_19 : decode b_Model_give 19 = .ok (.iastore, 1) := by decide +kernel
theorem d_Model_give_20 : decode b_Model_give 20 = .ok (.aload_n 0, 1) := by decide +kernel
theorem d_Model_give_21 : decode b_Model_give 21 = .ok (.getfield 66, 3) := by decide +kernel
theorem d_Model_give_24 : decode b_Model_give 24 = .ok (.aload_n 0, 1) := by decide +kernel
theorem d_Model_give_25 : decode b_Model_give 25 = .ok (.getfield 135, 3) := by decide +kernel
theorem d_Model_give_28 : decode b_Model_give 28 = .ok (.iload_n 3, 1) := by decide +kernel
theorem d_Model_give_29 : decode b_Model_give 29 = .ok (.iastore, 1) := by decide +kernel
theorem d_Model_give_30 : decode b_Model_give 30 = .ok (.aload_n 0, 1) := by decide +kernel
theorem d_Model_give_31 : decode b_Model_give 31 = .ok (.dup, 1) := by decide +kernel
theorem d_Model_give_32 : decode b_Model_give 32 = .ok (.getfield 135, 3) := by decide +kernel
theorem d_Model_give_35 : decode b_Model_give 35 = .ok (.iconst 1, 1) := by decide +kernel
theorem d_Model_give_36 : decode b_Model_give 36 = .ok (.iadd, 1) := by decide +kernel
theorem d_Model_give_37 : decode b_Model_give 37 = .ok (.putfield 135, 3) := by decide +kernel
theorem d_Model_give_40 : decode b_Model_give 40 = .ok (.iconst 5, 1) := by decide +kernel
theorem d_Model_give_41 : decode b_Model_give 41 = .ok (.ireturn, 1) := by decide +kernel
theorem d_Model_more_0 : decode b_Model_more 0 = .ok (.aload_n 0, 1) := by decide +kernel
theorem d_Model_more_1 : decode b_Model_more 1 = .ok (.getfield 135, 3) := by decide +kernel
theorem d_Model_more_4 : decode b_Model_more 4 = .ok (.ldc 62, 2) := by decide +kernel
theorem d_Model_more_6 : decode b_Model_more 6 = .ok (.if_icmp .ne 7, 3) := by decide +kernel
theorem d_Model_more_9 : decode b_Model_more 9 = .ok (.iconst 3, 1) := by decide +kernel
theorem d_Model_more_10 : decode b_Model_more 10 = .ok (.goto 10, 3) := by decide +kernel
theorem d_Model_more_13 : decode b_Model_more 13 = .ok (.aload_n 0, 1) := by decide +kernel
theorem d_Model_more_14 : decode b_Model_more 14 = .ok (.iconst 0, 1) := by decide +kernel
theorem d_Model_more_15 : decode b_Model_more 15 = .ok (.iload_n 1, 1) := by decide +kernel
theorem d_Model_more_16 : decode b_Model_more 16 = .ok (.iload_n 2, 1) := by decide +kernel
theorem d_Model_more_17 : decode b_Model_more 17 = .ok (.invokevirtual 207, 3) := by decide +kernel
theorem d_Model_more_20 : decode b_Model_more 20 = .ok (.ireturn, 1) := by decide +kernel
theorem k698 : Cond.fieldLink R_Model 171 "CellEngineModel" "size" "I" ∈ lw_g := kg (List.mem_append_right _ (List.mem_of_getElem? (i := 1034) (by decide +kernel))) rfl
theorem k699 : Cond.constant R_Model 38 262144 ∈ lw_g := kg (List.mem_append_right _ (List.mem_of_getElem? (i := 1014) (by decide +kernel))) rfl
theorem k700 : Cond.fieldLink R_Model 39 "CellEngineModel" "code" "[I" ∈ lw_g := kg (List.mem_append_right _ (List.mem_of_getElem? (i := 1033) (by decide +kernel))) rfl
theorem k701 : Cond.fieldLink R_Model 128 "CellEngineModel" "begun" "Z" ∈ lw_g := kg (List.mem_append_right _ (List.mem_of_getElem? (i := 1039) (by decide +kernel))) rfl
theorem k702 : Cond.fieldLink R_Model 132 "CellEngineModel" "status" "I" ∈ lw_g := kg (List.mem_append_right _ (List.mem_of_getElem? (i := 1040) (by decide +kernel))) rfl
theorem k703 : Cond.code y_Model_isOn b_Model_isOn 1 (some .boolean) ∈ lw_g := kg (List.mem_append_right _ (List.mem_of_getElem? (i := 1193) (by decide +kernel))) rfl
theorem k704 : Cond.methodLink R_Model 138 y_Model_isOn ∈ lw_g := kg (List.mem_append_right _ (List.mem_of_getElem? (i := 1190) (by decide +kernel))) rfl
theorem k705 : Cond.instanceMethod y_Model_isOn ∈ lw_g := kg (List.mem_append_right _ (List.mem_of_getElem? (i := 1192) (by decide +kernel))) rfl
theorem k706 : Cond.selects R_Model y_Model_isOn y_Model_isOn ∈ lw_g := kg (List.mem_append_left _ (List.mem_of_getElem? (i := 38) (by decide +kernel))) rfl
theorem k707 : Cond.initialized R_Model ∈ lw_g := kg (List.mem_append_right _ (List.mem_of_getElem? (i := 11) (by decide +kernel))) rfl
theorem k708 : Cond.fieldLink R_Model 176 "CellEngineModel" "pending" "I" ∈ lw_g := kg (List.mem_append_right _ (List.mem_of_getElem? (i := 1038) (by decide +kernel))) rfl
theorem k709 : Cond.fieldLink R_Model 43 "CellEngineModel" "texts" "[B" ∈ lw_g := kg (List.mem_append_right _ (List.mem_of_getElem? (i := 1035) (by decide +kernel))) rfl
theorem k710 : Cond.fieldLink R_Model 47 "CellEngineModel" "textAt" "[I" ∈ lw_g := kg (List.mem_append_right _ (List.mem_of_getElem? (i := 1036) (by decide +kernel))) rfl
theorem k711 : Cond.fieldLink R_Model 179 "CellEngineModel" "constants" "I" ∈ lw_g := kg (List.mem_append_right _ (List.mem_of_getElem? (i := 1037) (by decide +kernel))) rfl
theorem k712 : Cond.constantLong R_Model 174 255 ∈ lw_g := kg (List.mem_append_right _ (List.mem_of_getElem? (i := 1198) (by decide +kernel))) rfl
theorem k713 : Cond.constant R_Model 62 65536 ∈ lw_g := kg (List.mem_append_right _ (List.mem_of_getElem? (i := 1016) (by decide +kernel))) rfl
theorem k714 : Cond.constant R_Model 88 1000000 ∈ lw_g := kg (List.mem_append_right _ (List.mem_of_getElem? (i := 1017) (by decide +kernel))) rfl
theorem k715 : Cond.fieldLink R_Model 142 "CellEngineModel" "frames" "I" ∈ lw_g := kg (List.mem_append_right _ (List.mem_of_getElem? (i := 1041) (by decide +kernel))) rfl
theorem k716 : Cond.fieldLink R_Model 50 "CellEngineModel" "closures" "[I" ∈ lw_g := kg (List.mem_append_right _ (List.mem_of_getElem? (i := 1042) (by decide +kernel))) rfl
theorem k717 : Cond.fieldLink R_Model 53 "CellEngineModel" "bases" "[I" ∈ lw_g := kg (List.mem_append_right _ (List.mem_of_getElem? (i := 1043) (by decide +kernel))) rfl
theorem k718 : Cond.fieldLink R_Model 56 "CellEngineModel" "locals" "[I" ∈ lw_g := kg (List.mem_append_right _ (List.mem_of_getElem? (i := 1044) (by decide +kernel))) rfl
theorem k719 : Cond.fieldLink R_Model 135 "CellEngineModel" "top" "I" ∈ lw_g := kg (List.mem_append_right _ (List.mem_of_getElem? (i := 1048) (by decide +kernel))) rfl
theorem k720 : Cond.fieldLink R_Model 182 "CellEngineModel" "handlers" "I" ∈ lw_g := kg (List.mem_append_right _ (List.mem_of_getElem? (i := 1049) (by decide +kernel))) rfl
theorem k721 : Cond.fieldLink R_Model 185 "CellEngineModel" "at" "I" ∈ lw_g := kg (List.mem_append_right _ (List.mem_of_getElem? (i := 1054) (by decide +kernel))) rfl
theorem k722 : Cond.fieldLink R_Model 188 "CellEngineModel" "fuel" "I" ∈ lw_g := kg (List.mem_append_right _ (List.mem_of_getElem? (i := 1055) (by decide +kernel))) rfl
theorem k723 : Cond.fieldLink R_Model 191 "CellEngineModel" "ticks" "I" ∈ lw_g := kg (List.mem_append_right _ (List.mem_of_getElem? (i := 1056) (by decide +kernel))) rfl
theorem k724 : Cond.fieldLink R_Model 164 "CellEngineModel" "made" "I" ∈ lw_g := kg (List.mem_append_right _ (List.mem_of_getElem? (i := 1057) (by decide +kernel))) rfl
theorem k725 : Cond.fieldLink R_Model 194 "CellEngineModel" "depth" "I" ∈ lw_g := kg (List.mem_append_right _ (List.mem_of_getElem? (i := 1058) (by decide +kernel))) rfl
theorem k726 : Cond.fieldLink R_Model 197 "CellEngineModel" "done" "I" ∈ lw_g := kg (List.mem_append_right _ (List.mem_of_getElem? (i := 1059) (by decide +kernel))) rfl
theorem k727 : Cond.fieldLink R_Model 200 "CellEngineModel" "written" "I" ∈ lw_g := kg (List.mem_append_right _ (List.mem_of_getElem? (i := 1061) (by decide +kernel))) rfl
theorem k728 : Cond.fieldLink R_Model 145 "CellEngineModel" "resultTag" "I" ∈ lw_g := kg (List.mem_append_right _ (List.mem_of_getElem? (i := 1026) (by decide +kernel))) rfl
theorem k729 : Cond.fieldLink R_Model 148 "CellEngineModel" "result" "I" ∈ lw_g := kg (List.mem_append_right _ (List.mem_of_getElem? (i := 1027) (by decide +kernel))) rfl
theorem k730 : Cond.constant R_Model 211 300000 ∈ lw_g := kg (List.mem_append_right _ (List.mem_of_getElem? (i := 1220) (by decide +kernel))) rfl
theorem k731 : Cond.fieldLink R_Model 63 "CellEngineModel" "valueTags" "[I" ∈ lw_g := kg (List.mem_append_right _ (List.mem_of_getElem? (i := 1046) (by decide +kernel))) rfl
theorem k732 : Cond.fieldLink R_Model 66 "CellEngineModel" "values" "[I" ∈ lw_g := kg (List.mem_append_right _ (List.mem_of_getElem? (i := 1047) (by decide +kernel))) rfl
theorem k733 : Cond.code y_Model_give b_Model_give 4 (some .int) ∈ lw_g := kg (List.mem_append_right _ (List.mem_of_getElem? (i := 1239) (by decide +kernel))) rfl
theorem k734 : Cond.methodLink R_Model 207 y_Model_give ∈ lw_g := kg (List.mem_append_right _ (List.mem_of_getElem? (i := 1236) (by decide +kernel))) rfl
theorem k735 : Cond.instanceMethod y_Model_give ∈ lw_g := kg (List.mem_append_right _ (List.mem_of_getElem? (i := 1238) (by decide +kernel))) rfl
theorem k736 : Cond.selects R_Model y_Model_give y_Model_give ∈ lw_g := kg (List.mem_append_left _ (List.mem_of_getElem? (i := 44) (by decide +kernel))) rfl
set_option maxHeartbeats 4000000 in
set_option maxRecDepth 100000 in
theorem c_Model_code (l : Launch) (dC : Nat → ClassId) (dI : Nat → Nat → Nat) (N : Nat) (cB : ClassId) (cI : ClassId) (o_Model : Nat) (r : Nat → Nat) (I : Nat → Int32) (F : Nat → Nat → Int32) (p0 : Int32) (sz : Nat) (z : Int32 × (Nat → Nat → Int32) × (Nat → Int32)) (h : m_Model_code N I F p0 = some z) : Met l y_Model_code (.code y_Model_code b_Model_code 2 (some .int) :: lw_g) ({ frames := 0, cells := 0, slots := 0, locals := 0 }) (va_Pc [.ref o_Model, .int p0] (fun U => dz_N U ∧ U.heap.size = sz ∧ va_P (dC, dI) classes (wD cB cI o_Model r I F) U.heap ∧ va_K (dC, dI) classes [(cB, .byte), (cI, .int)] U ∧ va_D (fun _ => True) (wD cB cI o_Model r I F))) (va_Qi (fun (r : Int32) (_ : Unit) => r = z.1) (fun (u : Unit) t => va_P (dC, dI) classes (wD cB cI o_Model r z.2.2 z.2.1) t.heap ∧ va_K (dC, dI) classes [(cB, .byte), (cI, .int)] t ∧ va_D (va_A (wD cB cI o_Model r I F) sz) (wD cB cI o_Model r z.2.2 z.2.1)) (va_A (wD cB cI o_Model r I F) sz)) 0 0 (va_A (wD cB cI o_Model r I F) sz) := by
  refine Met.ofW (cc := b_Model_code) (maxL := 2) (ret := (some .int)) (by decide +kernel) rfl ?_
  intro p e s m args below meth c s₁ B hml hv
  obtain ⟨rfl, hN, hsz, hP, hK, hD0⟩ := hv
  have hx := B.exec
  have hb := B.bytes
  have hr := B.returns
  have hg : ∀ w ∈ lw_g, w.before _ s = true := fun w hw => atoms_spec (ws := .code y_Model_code b_Model_code 2 (some .int) :: lw_g) B.pre w (List.mem_cons_of_mem _ hw)
  have hown : s.vm.findClass R_Model = some m.cls := findClass_of_methodNamed B.named
  have hlocks := B.notSynchronized
  clear B
  subst hsz
  have hD := hD0.self (sz := s.heap.size)
  generalize hAe : va_A (wD cB cI o_Model r I F) s.heap.size = A at hD ⊢
  have hA : ∀ q : Nat, s.heap.size ≤ q → A q := fun q h => by rw [← hAe]; exact Or.inr h
  have hS : va_S A s.heap s.heap [] := va_S.rf
  have hP : va_P (dC, dI) classes (wD cB cI o_Model r I F) s.heap := hP
  have hl := lv_entry ([.ref o_Model, .int p0]) (n := 2) (Nat.le_of_ble_eq_true rfl)
  rw [lg_entry_eq]
  generalize (lg_sl ([.ref o_Model, .int p0]) ++ List.replicate (2 - (lg_sl ([.ref o_Model, .int p0])).length) Slot.unset).toArray = ls at hl ⊢
  have hl : lv_has ls 2 [(0, .ref o_Model), (1, .int p0)] := hl
  unfold m_Model_code at h
  refine lv_aload_n hx hb d_Model_code_0 rfl (lv_at hl 0 rfl) ?_
  refine va_get (D := (dC, dI)) (ci := 10) (v := .int (I 15)) (C := R_Model) (T := F_Model) (N := 54) hx hb hg i_Model hown hK hP 0 rfl rfl 15 (by decide) (hg _ k698) (fun _ h9 => h9) rfl d_Model_code_1 ?_
  refine lv_ldc (v := 262144) hx hb hown (hg _ k699) d_Model_code_4 ?_
  refine lv_icmp_ne (tgt := 12) hx hb d_Model_code_6 (by decide) (fun c1 => ?_) (fun c1 => ?_)
  · rw [if_neg c1] at h
    refine lv_aload_n hx hb d_Model_code_12 rfl (lv_at hl 0 rfl) ?_
    refine va_get (D := (dC, dI)) (ci := 10) (v := .ref (r 14)) (C := R_Model) (T := F_Model) (N := 54) hx hb hg i_Model hown hK hP 0 rfl rfl 14 (by decide) (hg _ k700) (fun _ h9 => h9) rfl d_Model_code_13 ?_
    refine lv_aload_n hx hb d_Model_code_16 rfl (lv_at hl 0 rfl) ?_
    refine va_get (D := (dC, dI)) (ci := 10) (v := .int (I 15)) (C := R_Model) (T := F_Model) (N := 54) hx hb hg i_Model hown hK hP 0 rfl rfl 15 (by decide) (hg _ k698) (fun _ h9 => h9) rfl d_Model_code_17 ?_
    refine lv_iload_n hx hb d_Model_code_20 rfl (lv_at hl 1 rfl) ?_
    obtain ⟨i2, h⟩ := dz_oi h
    refine va_iast (D := (dC, dI)) (f := F 14) hx hb hK hP hD hS 10 1 rfl rfl i2 d_Model_code_21 (fun H locs hP hD hS => ?_)
    obtain ⟨G3, eG3, h⟩ := dz_lt h
    have hP : va_P (dC, dI) classes (wD cB cI o_Model r I G3) H := by rw [eG3]; exact hP
    have hD : va_D A (wD cB cI o_Model r I G3) := by rw [eG3]; exact hD
    refine lv_aload_n hx hb d_Model_code_22 rfl (lv_at hl 0 rfl) ?_
    refine lv_dup hx hb d_Model_code_23 rfl ?_
    refine va_get (D := (dC, dI)) (ci := 10) (v := .int (I 15)) (C := R_Model) (T := F_Model) (N := 54) hx hb hg i_Model hown hK hP 0 rfl rfl 15 (by decide) (hg _ k698) (fun _ h9 => h9) rfl d_Model_code_24 ?_
    refine lv_iconst (v := 1) hx hb d_Model_code_27 (by decide) ?_
    refine lv_iadd hx hb d_Model_code_28 ?_
    refine va_put (D := (dC, dI)) (ci := 10) (v := .int ((I 15) + 1)) (ty := .int) (C := R_Model) (T := F_Model) (N := 54) hx hb hg i_Model t_Model t_Model_ok n_Model hown hK hP hD hS 0 rfl rfl 15 (by decide) (hg _ k698) (fun _ h9 => h9) rfl (by decide +kernel) rfl rfl (Nat.le_of_ble_eq_true rfl) d_Model_code_29 (fun H locs hP hD hS => ?_)
    obtain ⟨J4, eJ4, h⟩ := dz_lt h
    have hP : va_P (dC, dI) classes (wD cB cI o_Model r J4 G3) H := by rw [eJ4]; exact hP
    have hD : va_D A (wD cB cI o_Model r J4 G3) := by rw [eJ4]; exact hD
    refine lv_aload_n hx hb d_Model_code_32 rfl (lv_at hl 0 rfl) ?_
    refine va_get (D := (dC, dI)) (ci := 10) (v := .int (J4 15)) (C := R_Model) (T := F_Model) (N := 54) hx hb hg i_Model hown hK hP 0 rfl rfl 15 (by decide) (hg _ k698) (fun _ h9 => h9) rfl d_Model_code_33 ?_
    obtain rfl := Option.some.inj h
    have hP9 := hP
    have hD9 := hD
    have hK9 := hK
    exact W.iret (v := J4 15) hx hb hr (fun t ht hW => ⟨⟨J4 15, (), rfl, rfl, by rw [ht]; exact hP9, va_K.moved hW.alike hK9, hD9⟩, hS.F ht⟩) hS.2.2 d_Model_code_36
  · rw [if_pos c1] at h
    refine lv_bipush (v := (-2)) hx hb d_Model_code_9 (by decide) ?_
    obtain rfl := Option.some.inj h
    have hP9 := hP
    have hD9 := hD
    have hK9 := hK
    exact W.iret (v := (-2)) hx hb hr (fun t ht hW => ⟨⟨(-2), (), rfl, rfl, by rw [ht]; exact hP9, va_K.moved hW.alike hK9, hD9⟩, hS.F ht⟩) hS.2.2 d_Model_code_11

set_option maxHeartbeats 4000000 in
set_option maxRecDepth 100000 in
theorem c_Model_isOn (l : Launch) (dC : Nat → ClassId) (dI : Nat → Nat → Nat) (N : Nat) (cB : ClassId) (cI : ClassId) (o_Model : Nat) (r : Nat → Nat) (I : Nat → Int32) (F : Nat → Nat → Int32) (z : Int32) (h : m_Model_isOn N I F = some z) : Met l y_Model_isOn (.code y_Model_isOn b_Model_isOn 1 (some .boolean) :: lw_g) ({ frames := 0, cells := 0, slots := 0, locals := 0 }) (va_Pc [.ref o_Model] (fun U => dz_N U ∧ va_P (dC, dI) classes (wD cB cI o_Model r I F) U.heap ∧ va_K (dC, dI) classes [(cB, .byte), (cI, .int)] U)) (vp_Si (fun r => r = z ∧ narrow .boolean (.int z) = .int z ∧ fits .boolean (.int z) = true)) 0 0 (fun _ => False) := by
  refine Met.ofW (cc := b_Model_isOn) (maxL := 1) (ret := (some .boolean)) (by decide +kernel) rfl ?_
  intro p e s m args below meth c s₁ B hml hv
  obtain ⟨rfl, hN, hP, hK⟩ := hv
  have hx := B.exec
  have hb := B.bytes
  have hr := B.returns
  have hg : ∀ w ∈ lw_g, w.before _ s = true := fun w hw => atoms_spec (ws := .code y_Model_isOn b_Model_isOn 1 (some .boolean) :: lw_g) B.pre w (List.mem_cons_of_mem _ hw)
  have hown : s.vm.findClass R_Model = some m.cls := findClass_of_methodNamed B.named
  have hlocks := B.notSynchronized
  clear B
  have hP : va_P (dC, dI) classes (wD cB cI o_Model r I F) s.heap := hP
  have hl := lv_entry ([.ref o_Model]) (n := 1) (Nat.le_of_ble_eq_true rfl)
  rw [lg_entry_eq]
  generalize (lg_sl ([.ref o_Model]) ++ List.replicate (1 - (lg_sl ([.ref o_Model])).length) Slot.unset).toArray = ls at hl ⊢
  have hl : lv_has ls 1 [(0, .ref o_Model)] := hl
  unfold m_Model_isOn at h
  refine lv_aload_n hx hb d_Model_isOn_0 rfl (lv_at hl 0 rfl) ?_
  refine va_get (D := (dC, dI)) (ci := 10) (v := .int (I 20)) (C := R_Model) (T := F_Model) (N := 54) hx hb hg i_Model hown hK hP 0 rfl rfl 20 (by decide) (hg _ k701) (fun _ h9 => h9) rfl d_Model_isOn_1 ?_
  refine lv_if_eq (tgt := 19) hx hb d_Model_isOn_4 (by decide) (fun c1 => ?_) (fun c1 => ?_)
  · rw [if_pos c1] at h
    refine lv_iconst (v := 0) hx hb d_Model_isOn_19 (by decide) ?_
    obtain rfl := Option.some.inj h
    exact W.zret (v := 0) (ty := .boolean) hx hb hr (show narrow .boolean (.int 0) = .int 0 from rfl) (fun t ht hW => ⟨_, rfl, ⟨rfl, (show narrow .boolean (.int 0) = .int 0 from rfl), (show fits .boolean (.int 0) = true from rfl)⟩, ht⟩) (fun _ h => by cases h) d_Model_isOn_20
  · rw [if_neg c1] at h
    refine lv_aload_n hx hb d_Model_isOn_7 rfl (lv_at hl 0 rfl) ?_
    refine va_get (D := (dC, dI)) (ci := 10) (v := .int (I 21)) (C := R_Model) (T := F_Model) (N := 54) hx hb hg i_Model hown hK hP 0 rfl rfl 21 (by decide) (hg _ k702) (fun _ h9 => h9) rfl d_Model_isOn_8 ?_
    refine lv_iconst (v := 5) hx hb d_Model_isOn_11 (by decide) ?_
    refine lv_icmp_ne (tgt := 19) hx hb d_Model_isOn_12 (by decide) (fun c2 => ?_) (fun c2 => ?_)
    · rw [if_neg c2] at h
      refine lv_iconst (v := 0) hx hb d_Model_isOn_19 (by decide) ?_
      obtain rfl := Option.some.inj h
      exact W.zret (v := 0) (ty := .boolean) hx hb hr (show narrow .boolean (.int 0) = .int 0 from rfl) (fun t ht hW => ⟨_, rfl, ⟨rfl, (show narrow .boolean (.int 0) = .int 0 from rfl), (show fits .boolean (.int 0) = true from rfl)⟩, ht⟩) (fun _ h => by cases h) d_Model_isOn_20
    · rw [if_pos c2] at h
      refine lv_iconst (v := 1) hx hb d_Model_isOn_15 (by decide) ?_
      refine lv_goto (tgt := 20) hx hb d_Model_isOn_16 (by decide) ?_
      obtain rfl := Option.some.inj h
      exact W.zret (v := 1) (ty := .boolean) hx hb hr (show narrow .boolean (.int 1) = .int 1 from rfl) (fun t ht hW => ⟨_, rfl, ⟨rfl, (show narrow .boolean (.int 1) = .int 1 from rfl), (show fits .boolean (.int 1) = true from rfl)⟩, ht⟩) (fun _ h => by cases h) d_Model_isOn_20

set_option maxHeartbeats 4000000 in
set_option maxRecDepth 100000 in
theorem c_Model_cut (l : Launch) (dC : Nat → ClassId) (dI : Nat → Nat → Nat) (N : Nat) (cB : ClassId) (cI : ClassId) (o_Model : Nat) (r : Nat → Nat) (I : Nat → Int32) (F : Nat → Nat → Int32) (p0 : Int32) (sz : Nat) (z : Int32 × (Nat → Int32)) (h : m_Model_cut N I F p0 = some z) : Met l y_Model_cut (.code y_Model_cut b_Model_cut 2 (some .int) :: lw_g) ({ frames := 1, cells := 0, slots := 0, locals := 20 }) (va_Pc [.ref o_Model, .int p0] (fun U => dz_N U ∧ U.heap.size = sz ∧ va_P (dC, dI) classes (wD cB cI o_Model r I F) U.heap ∧ va_K (dC, dI) classes [(cB, .byte), (cI, .int)] U ∧ va_D (fun _ => True) (wD cB cI o_Model r I F))) (va_Qi (fun (r : Int32) (_ : Unit) => r = z.1) (fun (u : Unit) t => va_P (dC, dI) classes (wD cB cI o_Model r z.2 F) t.heap ∧ va_K (dC, dI) classes [(cB, .byte), (cI, .int)] t ∧ va_D (va_A (wD cB cI o_Model r I F) sz) (wD cB cI o_Model r z.2 F)) (va_A (wD cB cI o_Model r I F) sz)) 0 0 (va_A (wD cB cI o_Model r I F) sz) := by
  refine Met.ofW (cc := b_Model_cut) (maxL := 2) (ret := (some .int)) (by decide +kernel) rfl ?_
  intro p e s m args below meth c s₁ B hml hv
  obtain ⟨rfl, hN, hsz, hP, hK, hD0⟩ := hv
  have hx := B.exec
  have hb := B.bytes
  have hr := B.returns
  have hg : ∀ w ∈ lw_g, w.before _ s = true := fun w hw => atoms_spec (ws := .code y_Model_cut b_Model_cut 2 (some .int) :: lw_g) B.pre w (List.mem_cons_of_mem _ hw)
  have hown : s.vm.findClass R_Model = some m.cls := findClass_of_methodNamed B.named
  have hlocks := B.notSynchronized
  clear B
  subst hsz
  have hD := hD0.self (sz := s.heap.size)
  generalize hAe : va_A (wD cB cI o_Model r I F) s.heap.size = A at hD ⊢
  have hA : ∀ q : Nat, s.heap.size ≤ q → A q := fun q h => by rw [← hAe]; exact Or.inr h
  have hS : va_S A s.heap s.heap [] := va_S.rf
  have hP : va_P (dC, dI) classes (wD cB cI o_Model r I F) s.heap := hP
  have hl := lv_entry ([.ref o_Model, .int p0]) (n := 2) (Nat.le_of_ble_eq_true rfl)
  rw [lg_entry_eq]
  generalize (lg_sl ([.ref o_Model, .int p0]) ++ List.replicate (2 - (lg_sl ([.ref o_Model, .int p0])).length) Slot.unset).toArray = ls at hl ⊢
  have hl : lv_has ls 2 [(0, .ref o_Model), (1, .int p0)] := hl
  unfold m_Model_cut at h
  refine lv_iload_n hx hb d_Model_cut_0 rfl (lv_at hl 1 rfl) ?_
  refine lv_if_lt (tgt := 19) hx hb d_Model_cut_1 (by decide) (fun c1 => ?_) (fun c1 => ?_)
  · rw [if_pos c1] at h
    refine lv_iconst (v := (-1)) hx hb d_Model_cut_19 (by decide) ?_
    obtain rfl := Option.some.inj h
    have hP9 := hP
    have hD9 := hD
    have hK9 := hK
    exact W.iret (v := (-1)) hx hb hr (fun t ht hW => ⟨⟨(-1), (), rfl, rfl, by rw [ht]; exact hP9, va_K.moved hW.alike hK9, hD9⟩, hS.F ht⟩) hS.2.2 d_Model_cut_20
  · rw [if_neg c1] at h
    refine lv_iload_n hx hb d_Model_cut_4 rfl (lv_at hl 1 rfl) ?_
    refine lv_aload_n hx hb d_Model_cut_5 rfl (lv_at hl 0 rfl) ?_
    refine va_get (D := (dC, dI)) (ci := 10) (v := .int (I 15)) (C := R_Model) (T := F_Model) (N := 54) hx hb hg i_Model hown hK hP 0 rfl rfl 15 (by decide) (hg _ k698) (fun _ h9 => h9) rfl d_Model_cut_6 ?_
    refine lv_icmp_gt (tgt := 19) hx hb d_Model_cut_9 (by decide) (fun c2 => ?_) (fun c2 => ?_)
    · rw [if_pos c2] at h
      refine lv_iconst (v := (-1)) hx hb d_Model_cut_19 (by decide) ?_
      obtain rfl := Option.some.inj h
      have hP9 := hP
      have hD9 := hD
      have hK9 := hK
      exact W.iret (v := (-1)) hx hb hr (fun t ht hW => ⟨⟨(-1), (), rfl, rfl, by rw [ht]; exact hP9, va_K.moved hW.alike hK9, hD9⟩, hS.F ht⟩) hS.2.2 d_Model_cut_20
    · rw [if_neg c2] at h
      refine lv_aload_n hx hb d_Model_cut_12 rfl (lv_at hl 0 rfl) ?_
      obtain ⟨z3_1, hc3, h⟩ := dz_ob h
      try dsimp only at h
      have hPc := hP
      have hKc := hK
      refine vp_callSi (va_Run.run (va_runV (As := []) (rest := []) ⟨hx, hb, hml, hown, hg⟩ (c_Model_isOn l dC dI N cB cI o_Model r I F z3_1 hc3) (cwV 0 hg (gd_V k704 k705 k706 k707 k703) rfl rfl rfl (by decide +kernel) ⟨Nat.le_of_ble_eq_true rfl, Nat.le_of_ble_eq_true rfl⟩) ⟨dz_blindR, va_recv hKc hPc (ci := 10) (q0 := 0) rfl rfl, fun U hU hW => ⟨rfl, dz_Nw hW hN, by rw [hU]; exact hPc, va_K.moved hW.alike hKc⟩⟩ rfl rfl hl.1 rfl (lv_room (Nat.le_of_ble_eq_true rfl)) d_Model_cut_13 ⟨Nat.le_of_ble_eq_true rfl, Nat.le_of_ble_eq_true rfl⟩)) (fun r3 hw => ?_)
      obtain ⟨hw, hbz3⟩ := hw
      have hw : z3_1 = r3 := hw.symm
      subst hw
      refine lv_if_eq (tgt := 21) hx hb d_Model_cut_16 (by decide) (fun c4 => ?_) (fun c4 => ?_)
      · rw [if_pos c4] at h
        refine lv_aload_n hx hb d_Model_cut_21 rfl (lv_at hl 0 rfl) ?_
        refine lv_iload_n hx hb d_Model_cut_22 rfl (lv_at hl 1 rfl) ?_
        refine va_put (D := (dC, dI)) (ci := 10) (v := .int p0) (ty := .int) (C := R_Model) (T := F_Model) (N := 54) hx hb hg i_Model t_Model t_Model_ok n_Model hown hK hP hD hS 0 rfl rfl 15 (by decide) (hg _ k698) (fun _ h9 => h9) rfl (by decide +kernel) rfl rfl (Nat.le_of_ble_eq_true rfl) d_Model_cut_23 (fun H locs hP hD hS => ?_)
        obtain ⟨J5, eJ5, h⟩ := dz_lt h
        have hP : va_P (dC, dI) classes (wD cB cI o_Model r J5 F) H := by rw [eJ5]; exact hP
        have hD : va_D A (wD cB cI o_Model r J5 F) := by rw [eJ5]; exact hD
        refine lv_aload_n hx hb d_Model_cut_26 rfl (lv_at hl 0 rfl) ?_
        refine va_get (D := (dC, dI)) (ci := 10) (v := .int (J5 15)) (C := R_Model) (T := F_Model) (N := 54) hx hb hg i_Model hown hK hP 0 rfl rfl 15 (by decide) (hg _ k698) (fun _ h9 => h9) rfl d_Model_cut_27 ?_
        obtain rfl := Option.some.inj h
        have hP9 := hP
        have hD9 := hD
        have hK9 := hK
        exact W.iret (v := J5 15) hx hb hr (fun t ht hW => ⟨⟨J5 15, (), rfl, rfl, by rw [ht]; exact hP9, va_K.moved hW.alike hK9, hD9⟩, hS.F ht⟩) hS.2.2 d_Model_cut_30
      · rw [if_neg c4] at h
        refine lv_iconst (v := (-1)) hx hb d_Model_cut_19 (by decide) ?_
        obtain rfl := Option.some.inj h
        have hP9 := hP
        have hD9 := hD
        have hK9 := hK
        exact W.iret (v := (-1)) hx hb hr (fun t ht hW => ⟨⟨(-1), (), rfl, rfl, by rw [ht]; exact hP9, va_K.moved hW.alike hK9, hD9⟩, hS.F ht⟩) hS.2.2 d_Model_cut_20

set_option maxHeartbeats 4000000 in
set_option maxRecDepth 100000 in
theorem l_Model_put_1 {p : Program} {l : Launch} {e : Env} {s : State} {m : MethodId} {args : Array Value} {below : List Frame} {meth : Method} {c : Code} {Q : State → Prop} {A : Nat → Prop} (dC : Nat → ClassId) (dI : Nat → Nat → Nat) (N : Nat) (cB : ClassId) (cI : ClassId) (o_Model : Nat) (r : Nat → Nat) (I : Nat → Int32) (F : Nat → Nat → Int32) (p0 : Int64) {ζ : Type} {z : ζ} (hx : p.tables.exec = Jvm.exec) (hb : c.code = b_Model_put) (hml : c.maxLocals = 5) (hown : s.vm.findClass R_Model = some m.cls) (hg : ∀ w ∈ lw_g, w.before args s = true) (hN : dz_N s) (hK : va_K (dC, dI) classes [(cB, .byte), (cI, .int)] s) (hA : ∀ q : Nat, s.heap.size ≤ q → A q) {k1_29 : Int32 → Option (ζ)} (hk1_29 : ∀ (v1_3 : Int32)    (H : Heap) (locs : List Loc) (ls : Array Slot), k1_29 v1_3 = some z → va_P (dC, dI) classes (wD cB cI o_Model r I F) H → va_D A (wD cB cI o_Model r I F) → va_S A s.heap H locs → lv_has ls 5 [(3, .int v1_3), (0, .ref o_Model), (1, .long p0)] → W p l e ({ frames := 0, cells := 0, slots := 0, locals := 0 } : Room) s m args below meth c H locs 0 0 Q (F0 m 29 ls [])) : ∀ (n1 : Nat) (v1_3 : Int32)   (H : Heap) (locs : List Loc) (ls : Array Slot), lm_Model_put_1 N p0 k1_29 n1 v1_3 = some z → va_P (dC, dI) classes (wD cB cI o_Model r I F) H → va_D A (wD cB cI o_Model r I F) → va_S A s.heap H locs → lv_has ls 5 [(3, .int v1_3), (0, .ref o_Model), (1, .long p0)] → W p l e ({ frames := 0, cells := 0, slots := 0, locals := 0 } : Room) s m args below meth c H locs 0 0 Q (F0 m 2 ls []) := by
  intro n1
  induction n1 with
  | zero =>
    intro v1_3 H locs ls h hP hD hS hl
    rw [lm_Model_put_1] at h
    cases h
  | succ n1 ih1 =>
    intro v1_3 H locs ls h hP hD hS hl
    rw [lm_Model_put_1] at h
    refine lv_iload_n hx hb d_Model_put_2 rfl (lv_at hl 0 rfl) ?_
    refine lv_bipush (v := 8) hx hb d_Model_put_3 (by decide) ?_
    refine lv_icmp_ge (tgt := 29) hx hb d_Model_put_5 (by decide) (fun c1 => ?_) (fun c1 => ?_)
    · rw [if_pos c1] at h
      exact hk1_29 v1_3 _ _ _ h hP hD hS (lv_sub hl [0, 1, 2] rfl)
    · rw [if_neg c1] at h
      refine lv_lload_n hx hb d_Model_put_8 rfl (lv_at hl 2 rfl) ?_
      refine lv_bipush (v := 8) hx hb d_Model_put_9 (by decide) ?_
      refine lv_iload_n hx hb d_Model_put_11 rfl (lv_at hl 0 rfl) ?_
      refine lv_imul hx hb d_Model_put_12 ?_
      refine lv_lshr (v := p0 >>> ((8 * v1_3).toInt64 &&& 63)) hx hb d_Model_put_13 rfl ?_
      refine lv_ldc2 (v := 255) hx hb hown (hg _ k712) d_Model_put_14 ?_
      refine lv_land hx hb d_Model_put_17 ?_
      refine lv_lconst (v := 0) hx hb d_Model_put_18 (by decide) ?_
      refine W.lcmp hx hb d_Model_put_19 ?_
      refine lv_if_eq (tgt := 29) hx hb d_Model_put_20 (by decide) (fun c2 => ?_) (fun c2 => ?_)
      · rw [if_pos c2] at h
        exact hk1_29 v1_3 _ _ _ h hP hD hS (lv_sub hl [0, 1, 2] rfl)
      · rw [if_neg c2] at h
        refine lv_iinc (v := v1_3 + 1) (lv' := [(3, .int (v1_3 + 1)), (0, .ref o_Model), (1, .long p0)]) hx hb d_Model_put_23 hl (k := 0) rfl rfl (by decide) rfl (fun ls hl => ?_)
        refine lv_goto (tgt := 2) hx hb d_Model_put_26 (by decide) ?_
        exact ih1 (v1_3 + 1) _ _ _ h hP hD hS (lv_sub hl [0, 1, 2] rfl)
set_option maxHeartbeats 4000000 in
set_option maxRecDepth 100000 in
theorem l_Model_put_2 {p : Program} {l : Launch} {e : Env} {s : State} {m : MethodId} {args : Array Value} {below : List Frame} {meth : Method} {c : Code} {Q : State → Prop} {A : Nat → Prop} (dC : Nat → ClassId) (dI : Nat → Nat → Nat) (N : Nat) (cB : ClassId) (cI : ClassId) (o_Model : Nat) (r : Nat → Nat) (p0 : Int64) (v1_3 : Int32) {ζ : Type} {z : ζ} (hx : p.tables.exec = Jvm.exec) (hb : c.code = b_Model_put) (hml : c.maxLocals = 5) (hown : s.vm.findClass R_Model = some m.cls) (hg : ∀ w ∈ lw_g, w.before args s = true) (hN : dz_N s) (hK : va_K (dC, dI) classes [(cB, .byte), (cI, .int)] s) (hA : ∀ q : Nat, s.heap.size ≤ q → A q) {k2_97 : Int32 → (Nat → Nat → Int32) → (Nat → Int32) → Option (ζ)} (hk2_97 : ∀ (v2_4 : Int32) (w2_F : (Nat → Nat → Int32)) (w2_I : (Nat → Int32))    (H : Heap) (locs : List Loc) (ls : Array Slot), k2_97 v2_4 w2_F w2_I = some z → va_P (dC, dI) classes (wD cB cI o_Model r w2_I w2_F) H → va_D A (wD cB cI o_Model r w2_I w2_F) → va_S A s.heap H locs → lv_has ls 5 [(4, .int v2_4), (3, .int v1_3), (0, .ref o_Model), (1, .long p0)] → W p l e ({ frames := 0, cells := 0, slots := 0, locals := 0 } : Room) s m args below meth c H locs 0 0 Q (F0 m 97 ls [])) : ∀ (n2 : Nat) (v2_4 : Int32) (w2_F : (Nat → Nat → Int32)) (w2_I : (Nat → Int32))   (H : Heap) (locs : List Loc) (ls : Array Slot), lm_Model_put_2 N p0 v1_3 k2_97 n2 v2_4 w2_F w2_I = some z → va_P (dC, dI) classes (wD cB cI o_Model r w2_I w2_F) H → va_D A (wD cB cI o_Model r w2_I w2_F) → va_S A s.heap H locs → lv_has ls 5 [(4, .int v2_4), (3, .int v1_3), (0, .ref o_Model), (1, .long p0)] → W p l e ({ frames := 0, cells := 0, slots := 0, locals := 0 } : Room) s m args below meth c H locs 0 0 Q (F0 m 47 ls []) := by
  intro n2
  induction n2 with
  | zero =>
    intro v2_4 w2_F w2_I H locs ls h hP hD hS hl
    rw [lm_Model_put_2] at h
    cases h
  | succ n2 ih2 =>
    intro v2_4 w2_F w2_I H locs ls h hP hD hS hl
    rw [lm_Model_put_2] at h
    refine lv_iload hx hb d_Model_put_47 (lv_at hl 0 rfl) ?_
    refine lv_iload_n hx hb d_Model_put_49 rfl (lv_at hl 1 rfl) ?_
    refine lv_icmp_ge (tgt := 97) hx hb d_Model_put_50 (by decide) (fun c4 => ?_) (fun c4 => ?_)
    · rw [if_pos c4] at h
      exact hk2_97 v2_4 w2_F w2_I _ _ _ h hP hD hS (lv_sub hl [0, 1, 2, 3] rfl)
    · rw [if_neg c4] at h
      refine lv_aload_n hx hb d_Model_put_53 rfl (lv_at hl 2 rfl) ?_
      refine va_get (D := (dC, dI)) (ci := 10) (v := .ref (r 16)) (C := R_Model) (T := F_Model) (N := 54) hx hb hg i_Model hown hK hP 0 rfl rfl 16 (by decide) (hg _ k709) (fun _ h9 => h9) rfl d_Model_put_54 ?_
      refine lv_aload_n hx hb d_Model_put_57 rfl (lv_at hl 2 rfl) ?_
      refine va_get (D := (dC, dI)) (ci := 10) (v := .ref (r 17)) (C := R_Model) (T := F_Model) (N := 54) hx hb hg i_Model hown hK hP 0 rfl rfl 17 (by decide) (hg _ k710) (fun _ h9 => h9) rfl d_Model_put_58 ?_
      refine lv_aload_n hx hb d_Model_put_61 rfl (lv_at hl 2 rfl) ?_
      refine va_get (D := (dC, dI)) (ci := 10) (v := .int (w2_I 18)) (C := R_Model) (T := F_Model) (N := 54) hx hb hg i_Model hown hK hP 0 rfl rfl 18 (by decide) (hg _ k711) (fun _ h9 => h9) rfl d_Model_put_62 ?_
      obtain ⟨i5, h⟩ := dz_oi h
      refine va_iald (D := (dC, dI)) (f := w2_F 17) hx hb hK hP 12 1 rfl rfl i5 d_Model_put_65 ?_
      refine lv_aload_n hx hb d_Model_put_66 rfl (lv_at hl 2 rfl) ?_
      refine va_get (D := (dC, dI)) (ci := 10) (v := .int (w2_I 19)) (C := R_Model) (T := F_Model) (N := 54) hx hb hg i_Model hown hK hP 0 rfl rfl 19 (by decide) (hg _ k708) (fun _ h9 => h9) rfl d_Model_put_67 ?_
      refine lv_iadd hx hb d_Model_put_70 ?_
      refine lv_lload_n hx hb d_Model_put_71 rfl (lv_at hl 3 rfl) ?_
      refine lv_bipush (v := 8) hx hb d_Model_put_72 (by decide) ?_
      refine lv_iload hx hb d_Model_put_74 (lv_at hl 0 rfl) ?_
      refine lv_imul hx hb d_Model_put_76 ?_
      refine lv_lshr (v := p0 >>> ((8 * v2_4).toInt64 &&& 63)) hx hb d_Model_put_77 rfl ?_
      refine lv_l2i (v := (p0 >>> ((8 * v2_4).toInt64 &&& 63)).toInt32) hx hb d_Model_put_78 rfl ?_
      refine lv_i2b (v := ((p0 >>> ((8 * v2_4).toInt64 &&& 63)).toInt32).toInt8.toInt32) hx hb d_Model_put_79 rfl ?_
      obtain ⟨i6, h⟩ := dz_oi h
      refine va_bast (D := (dC, dI)) (f := w2_F 16) hx hb hK hP hD hS 11 0 rfl rfl i6 d_Model_put_80 (fun H locs hP hD hS => ?_)
      obtain ⟨G7, eG7, h⟩ := dz_lt h
      have hP : va_P (dC, dI) classes (wD cB cI o_Model r w2_I G7) H := by rw [eG7]; exact hP
      have hD : va_D A (wD cB cI o_Model r w2_I G7) := by rw [eG7]; exact hD
      refine lv_aload_n hx hb d_Model_put_81 rfl (lv_at hl 2 rfl) ?_
      refine lv_dup hx hb d_Model_put_82 rfl ?_
      refine va_get (D := (dC, dI)) (ci := 10) (v := .int (w2_I 19)) (C := R_Model) (T := F_Model) (N := 54) hx hb hg i_Model hown hK hP 0 rfl rfl 19 (by decide) (hg _ k708) (fun _ h9 => h9) rfl d_Model_put_83 ?_
      refine lv_iconst (v := 1) hx hb d_Model_put_86 (by decide) ?_
      refine lv_iadd hx hb d_Model_put_87 ?_
      refine va_put (D := (dC, dI)) (ci := 10) (v := .int ((w2_I 19) + 1)) (ty := .int) (C := R_Model) (T := F_Model) (N := 54) hx hb hg i_Model t_Model t_Model_ok n_Model hown hK hP hD hS 0 rfl rfl 19 (by decide) (hg _ k708) (fun _ h9 => h9) rfl (by decide +kernel) rfl rfl (Nat.le_of_ble_eq_true rfl) d_Model_put_88 (fun H locs hP hD hS => ?_)
      obtain ⟨J8, eJ8, h⟩ := dz_lt h
      have hP : va_P (dC, dI) classes (wD cB cI o_Model r J8 G7) H := by rw [eJ8]; exact hP
      have hD : va_D A (wD cB cI o_Model r J8 G7) := by rw [eJ8]; exact hD
      refine lv_iinc (v := v2_4 + 1) (lv' := [(4, .int (v2_4 + 1)), (3, .int v1_3), (0, .ref o_Model), (1, .long p0)]) hx hb d_Model_put_91 hl (k := 0) rfl rfl (by decide) rfl (fun ls hl => ?_)
      refine lv_goto (tgt := 47) hx hb d_Model_put_94 (by decide) ?_
      exact ih2 (v2_4 + 1) G7 J8 _ _ _ h hP hD hS (lv_sub hl [0, 1, 2, 3] rfl)
set_option maxHeartbeats 4000000 in
set_option maxRecDepth 100000 in
theorem c_Model_put (l : Launch) (dC : Nat → ClassId) (dI : Nat → Nat → Nat) (N : Nat) (cB : ClassId) (cI : ClassId) (o_Model : Nat) (r : Nat → Nat) (I : Nat → Int32) (F : Nat → Nat → Int32) (p0 : Int64) (sz : Nat) (z : Int32 × (Nat → Nat → Int32) × (Nat → Int32)) (h : m_Model_put N I F p0 = some z) : Met l y_Model_put (.code y_Model_put b_Model_put 5 (some .int) :: lw_g) ({ frames := 0, cells := 0, slots := 0, locals := 0 }) (va_Pc [.ref o_Model, .long p0] (fun U => dz_N U ∧ U.heap.size = sz ∧ va_P (dC, dI) classes (wD cB cI o_Model r I F) U.heap ∧ va_K (dC, dI) classes [(cB, .byte), (cI, .int)] U ∧ va_D (fun _ => True) (wD cB cI o_Model r I F))) (va_Qi (fun (r : Int32) (_ : Unit) => r = z.1) (fun (u : Unit) t => va_P (dC, dI) classes (wD cB cI o_Model r z.2.2 z.2.1) t.heap ∧ va_K (dC, dI) classes [(cB, .byte), (cI, .int)] t ∧ va_D (va_A (wD cB cI o_Model r I F) sz) (wD cB cI o_Model r z.2.2 z.2.1)) (va_A (wD cB cI o_Model r I F) sz)) 0 0 (va_A (wD cB cI o_Model r I F) sz) := by
  refine Met.ofW (cc := b_Model_put) (maxL := 5) (ret := (some .int)) (by decide +kernel) rfl ?_
  intro p e s m args below meth c s₁ B hml hv
  obtain ⟨rfl, hN, hsz, hP, hK, hD0⟩ := hv
  have hx := B.exec
  have hb := B.bytes
  have hr := B.returns
  have hg : ∀ w ∈ lw_g, w.before _ s = true := fun w hw => atoms_spec (ws := .code y_Model_put b_Model_put 5 (some .int) :: lw_g) B.pre w (List.mem_cons_of_mem _ hw)
  have hown : s.vm.findClass R_Model = some m.cls := findClass_of_methodNamed B.named
  have hlocks := B.notSynchronized
  clear B
  subst hsz
  have hD := hD0.self (sz := s.heap.size)
  generalize hAe : va_A (wD cB cI o_Model r I F) s.heap.size = A at hD ⊢
  have hA : ∀ q : Nat, s.heap.size ≤ q → A q := fun q h => by rw [← hAe]; exact Or.inr h
  have hS : va_S A s.heap s.heap [] := va_S.rf
  have hP : va_P (dC, dI) classes (wD cB cI o_Model r I F) s.heap := hP
  have hl := lv_entry ([.ref o_Model, .long p0]) (n := 5) (Nat.le_of_ble_eq_true rfl)
  rw [lg_entry_eq]
  generalize (lg_sl ([.ref o_Model, .long p0]) ++ List.replicate (5 - (lg_sl ([.ref o_Model, .long p0])).length) Slot.unset).toArray = ls at hl ⊢
  have hl : lv_has ls 5 [(0, .ref o_Model), (1, .long p0)] := hl
  unfold m_Model_put at h
  refine lv_iconst (v := 0) hx hb d_Model_put_0 (by decide) ?_
  refine lv_istore_n (lv' := [(3, .int 0), (0, .ref o_Model), (1, .long p0)]) hx hb d_Model_put_1 rfl hl (by decide) rfl (fun ls hl => ?_)
  refine l_Model_put_1 dC dI N cB cI o_Model r I F p0 hx hb hml hown hg hN hK hA (fun v1_3 H locs ls h hP hD hS hl => ?_) N (0 : Int32) _ _ _ h hP hD hS (lv_sub hl [0, 1, 2] rfl)
  refine lv_aload_n hx hb d_Model_put_29 rfl (lv_at hl 1 rfl) ?_
  refine va_get (D := (dC, dI)) (ci := 10) (v := .int (I 19)) (C := R_Model) (T := F_Model) (N := 54) hx hb hg i_Model hown hK hP 0 rfl rfl 19 (by decide) (hg _ k708) (fun _ h9 => h9) rfl d_Model_put_30 ?_
  refine lv_iload_n hx hb d_Model_put_33 rfl (lv_at hl 0 rfl) ?_
  refine lv_iadd hx hb d_Model_put_34 ?_
  refine lv_sipush (v := 4096) hx hb d_Model_put_35 (by decide) ?_
  refine lv_icmp_le (tgt := 44) hx hb d_Model_put_38 (by decide) (fun c3 => ?_) (fun c3 => ?_)
  · rw [if_pos c3] at h
    refine lv_iconst (v := 0) hx hb d_Model_put_44 (by decide) ?_
    refine lv_istore (lv' := [(4, .int 0), (3, .int v1_3), (0, .ref o_Model), (1, .long p0)]) hx hb d_Model_put_45 hl (by decide) rfl (fun ls hl => ?_)
    refine l_Model_put_2 dC dI N cB cI o_Model r p0 v1_3 hx hb hml hown hg hN hK hA (fun v2_4 w2_F w2_I H locs ls h hP hD hS hl => ?_) N (0 : Int32) F I _ _ _ h hP hD hS (lv_sub hl [0, 1, 2, 3] rfl)
    refine lv_aload_n hx hb d_Model_put_97 rfl (lv_at hl 2 rfl) ?_
    refine va_get (D := (dC, dI)) (ci := 10) (v := .int (w2_I 19)) (C := R_Model) (T := F_Model) (N := 54) hx hb hg i_Model hown hK hP 0 rfl rfl 19 (by decide) (hg _ k708) (fun _ h9 => h9) rfl d_Model_put_98 ?_
    obtain rfl := Option.some.inj h
    have hP9 := hP
    have hD9 := hD
    have hK9 := hK
    exact W.iret (v := w2_I 19) hx hb hr (fun t ht hW => ⟨⟨w2_I 19, (), rfl, rfl, by rw [ht]; exact hP9, va_K.moved hW.alike hK9, hD9⟩, hS.F ht⟩) hS.2.2 d_Model_put_101
  · rw [if_neg c3] at h
    refine lv_bipush (v := (-2)) hx hb d_Model_put_41 (by decide) ?_
    obtain rfl := Option.some.inj h
    have hP9 := hP
    have hD9 := hD
    have hK9 := hK
    exact W.iret (v := (-2)) hx hb hr (fun t ht hW => ⟨⟨(-2), (), rfl, rfl, by rw [ht]; exact hP9, va_K.moved hW.alike hK9, hD9⟩, hS.F ht⟩) hS.2.2 d_Model_put_43

set_option maxHeartbeats 4000000 in
set_option maxRecDepth 100000 in
theorem c_Model_constant (l : Launch) (dC : Nat → ClassId) (dI : Nat → Nat → Nat) (N : Nat) (cB : ClassId) (cI : ClassId) (o_Model : Nat) (r : Nat → Nat) (I : Nat → Int32) (F : Nat → Nat → Int32) (sz : Nat) (z : Int32 × (Nat → Nat → Int32) × (Nat → Int32)) (h : m_Model_constant N I F = some z) : Met l y_Model_constant (.code y_Model_constant b_Model_constant 1 (some .int) :: lw_g) ({ frames := 0, cells := 0, slots := 0, locals := 0 }) (va_Pc [.ref o_Model] (fun U => dz_N U ∧ U.heap.size = sz ∧ va_P (dC, dI) classes (wD cB cI o_Model r I F) U.heap ∧ va_K (dC, dI) classes [(cB, .byte), (cI, .int)] U ∧ va_D (fun _ => True) (wD cB cI o_Model r I F))) (va_Qi (fun (r : Int32) (_ : Unit) => r = z.1) (fun (u : Unit) t => va_P (dC, dI) classes (wD cB cI o_Model r z.2.2 z.2.1) t.heap ∧ va_K (dC, dI) classes [(cB, .byte), (cI, .int)] t ∧ va_D (va_A (wD cB cI o_Model r I F) sz) (wD cB cI o_Model r z.2.2 z.2.1)) (va_A (wD cB cI o_Model r I F) sz)) 0 0 (va_A (wD cB cI o_Model r I F) sz) := by
  refine Met.ofW (cc := b_Model_constant) (maxL := 1) (ret := (some .int)) (by decide +kernel) rfl ?_
  intro p e s m args below meth c s₁ B hml hv
  obtain ⟨rfl, hN, hsz, hP, hK, hD0⟩ := hv
  have hx := B.exec
  have hb := B.bytes
  have hr := B.returns
  have hg : ∀ w ∈ lw_g, w.before _ s = true := fun w hw => atoms_spec (ws := .code y_Model_constant b_Model_constant 1 (some .int) :: lw_g) B.pre w (List.mem_cons_of_mem _ hw)
  have hown : s.vm.findClass R_Model = some m.cls := findClass_of_methodNamed B.named
  have hlocks := B.notSynchronized
  clear B
  subst hsz
  have hD := hD0.self (sz := s.heap.size)
  generalize hAe : va_A (wD cB cI o_Model r I F) s.heap.size = A at hD ⊢
  have hA : ∀ q : Nat, s.heap.size ≤ q → A q := fun q h => by rw [← hAe]; exact Or.inr h
  have hS : va_S A s.heap s.heap [] := va_S.rf
  have hP : va_P (dC, dI) classes (wD cB cI o_Model r I F) s.heap := hP
  have hl := lv_entry ([.ref o_Model]) (n := 1) (Nat.le_of_ble_eq_true rfl)
  rw [lg_entry_eq]
  generalize (lg_sl ([.ref o_Model]) ++ List.replicate (1 - (lg_sl ([.ref o_Model])).length) Slot.unset).toArray = ls at hl ⊢
  have hl : lv_has ls 1 [(0, .ref o_Model)] := hl
  unfold m_Model_constant at h
  refine lv_aload_n hx hb d_Model_constant_0 rfl (lv_at hl 0 rfl) ?_
  refine va_get (D := (dC, dI)) (ci := 10) (v := .int (I 18)) (C := R_Model) (T := F_Model) (N := 54) hx hb hg i_Model hown hK hP 0 rfl rfl 18 (by decide) (hg _ k711) (fun _ h9 => h9) rfl d_Model_constant_1 ?_
  refine lv_sipush (v := 1024) hx hb d_Model_constant_4 (by decide) ?_
  refine lv_icmp_eq (tgt := 29) hx hb d_Model_constant_7 (by decide) (fun c1 => ?_) (fun c1 => ?_)
  · rw [if_pos c1] at h
    refine lv_bipush (v := (-2)) hx hb d_Model_constant_29 (by decide) ?_
    obtain rfl := Option.some.inj h
    have hP9 := hP
    have hD9 := hD
    have hK9 := hK
    exact W.iret (v := (-2)) hx hb hr (fun t ht hW => ⟨⟨(-2), (), rfl, rfl, by rw [ht]; exact hP9, va_K.moved hW.alike hK9, hD9⟩, hS.F ht⟩) hS.2.2 d_Model_constant_31
  · rw [if_neg c1] at h
    refine lv_aload_n hx hb d_Model_constant_10 rfl (lv_at hl 0 rfl) ?_
    refine va_get (D := (dC, dI)) (ci := 10) (v := .ref (r 17)) (C := R_Model) (T := F_Model) (N := 54) hx hb hg i_Model hown hK hP 0 rfl rfl 17 (by decide) (hg _ k710) (fun _ h9 => h9) rfl d_Model_constant_11 ?_
    refine lv_aload_n hx hb d_Model_constant_14 rfl (lv_at hl 0 rfl) ?_
    refine va_get (D := (dC, dI)) (ci := 10) (v := .int (I 18)) (C := R_Model) (T := F_Model) (N := 54) hx hb hg i_Model hown hK hP 0 rfl rfl 18 (by decide) (hg _ k711) (fun _ h9 => h9) rfl d_Model_constant_15 ?_
    obtain ⟨i2, h⟩ := dz_oi h
    refine va_iald (D := (dC, dI)) (f := F 17) hx hb hK hP 12 1 rfl rfl i2 d_Model_constant_18 ?_
    refine lv_aload_n hx hb d_Model_constant_19 rfl (lv_at hl 0 rfl) ?_
    refine va_get (D := (dC, dI)) (ci := 10) (v := .int (I 19)) (C := R_Model) (T := F_Model) (N := 54) hx hb hg i_Model hown hK hP 0 rfl rfl 19 (by decide) (hg _ k708) (fun _ h9 => h9) rfl d_Model_constant_20 ?_
    refine lv_iadd hx hb d_Model_constant_23 ?_
    refine lv_ldc (v := 65536) hx hb hown (hg _ k713) d_Model_constant_24 ?_
    refine lv_icmp_le (tgt := 32) hx hb d_Model_constant_26 (by decide) (fun c3 => ?_) (fun c3 => ?_)
    · rw [if_pos c3] at h
      refine lv_aload_n hx hb d_Model_constant_32 rfl (lv_at hl 0 rfl) ?_
      refine va_get (D := (dC, dI)) (ci := 10) (v := .ref (r 17)) (C := R_Model) (T := F_Model) (N := 54) hx hb hg i_Model hown hK hP 0 rfl rfl 17 (by decide) (hg _ k710) (fun _ h9 => h9) rfl d_Model_constant_33 ?_
      refine lv_aload_n hx hb d_Model_constant_36 rfl (lv_at hl 0 rfl) ?_
      refine va_get (D := (dC, dI)) (ci := 10) (v := .int (I 18)) (C := R_Model) (T := F_Model) (N := 54) hx hb hg i_Model hown hK hP 0 rfl rfl 18 (by decide) (hg _ k711) (fun _ h9 => h9) rfl d_Model_constant_37 ?_
      refine lv_iconst (v := 1) hx hb d_Model_constant_40 (by decide) ?_
      refine lv_iadd hx hb d_Model_constant_41 ?_
      refine lv_aload_n hx hb d_Model_constant_42 rfl (lv_at hl 0 rfl) ?_
      refine va_get (D := (dC, dI)) (ci := 10) (v := .ref (r 17)) (C := R_Model) (T := F_Model) (N := 54) hx hb hg i_Model hown hK hP 0 rfl rfl 17 (by decide) (hg _ k710) (fun _ h9 => h9) rfl d_Model_constant_43 ?_
      refine lv_aload_n hx hb d_Model_constant_46 rfl (lv_at hl 0 rfl) ?_
      refine va_get (D := (dC, dI)) (ci := 10) (v := .int (I 18)) (C := R_Model) (T := F_Model) (N := 54) hx hb hg i_Model hown hK hP 0 rfl rfl 18 (by decide) (hg _ k711) (fun _ h9 => h9) rfl d_Model_constant_47 ?_
      obtain ⟨i4, h⟩ := dz_oi h
      refine va_iald (D := (dC, dI)) (f := F 17) hx hb hK hP 12 1 rfl rfl i4 d_Model_constant_50 ?_
      refine lv_aload_n hx hb d_Model_constant_51 rfl (lv_at hl 0 rfl) ?_
      refine va_get (D := (dC, dI)) (ci := 10) (v := .int (I 19)) (C := R_Model) (T := F_Model) (N := 54) hx hb hg i_Model hown hK hP 0 rfl rfl 19 (by decide) (hg _ k708) (fun _ h9 => h9) rfl d_Model_constant_52 ?_
      refine lv_iadd hx hb d_Model_constant_55 ?_
      obtain ⟨i5, h⟩ := dz_oi h
      refine va_iast (D := (dC, dI)) (f := F 17) hx hb hK hP hD hS 12 1 rfl rfl i5 d_Model_constant_56 (fun H locs hP hD hS => ?_)
      obtain ⟨G6, eG6, h⟩ := dz_lt h
      have hP : va_P (dC, dI) classes (wD cB cI o_Model r I G6) H := by rw [eG6]; exact hP
      have hD : va_D A (wD cB cI o_Model r I G6) := by rw [eG6]; exact hD
      refine lv_aload_n hx hb d_Model_constant_57 rfl (lv_at hl 0 rfl) ?_
      refine lv_dup hx hb d_Model_constant_58 rfl ?_
      refine va_get (D := (dC, dI)) (ci := 10) (v := .int (I 18)) (C := R_Model) (T := F_Model) (N := 54) hx hb hg i_Model hown hK hP 0 rfl rfl 18 (by decide) (hg _ k711) (fun _ h9 => h9) rfl d_Model_constant_59 ?_
      refine lv_iconst (v := 1) hx hb d_Model_constant_62 (by decide) ?_
      refine lv_iadd hx hb d_Model_constant_63 ?_
      refine va_put (D := (dC, dI)) (ci := 10) (v := .int ((I 18) + 1)) (ty := .int) (C := R_Model) (T := F_Model) (N := 54) hx hb hg i_Model t_Model t_Model_ok n_Model hown hK hP hD hS 0 rfl rfl 18 (by decide) (hg _ k711) (fun _ h9 => h9) rfl (by decide +kernel) rfl rfl (Nat.le_of_ble_eq_true rfl) d_Model_constant_64 (fun H locs hP hD hS => ?_)
      obtain ⟨J7, eJ7, h⟩ := dz_lt h
      have hP : va_P (dC, dI) classes (wD cB cI o_Model r J7 G6) H := by rw [eJ7]; exact hP
      have hD : va_D A (wD cB cI o_Model r J7 G6) := by rw [eJ7]; exact hD
      refine lv_aload_n hx hb d_Model_constant_67 rfl (lv_at hl 0 rfl) ?_
      refine lv_iconst (v := 0) hx hb d_Model_constant_68 (by decide) ?_
      refine va_put (D := (dC, dI)) (ci := 10) (v := .int 0) (ty := .int) (C := R_Model) (T := F_Model) (N := 54) hx hb hg i_Model t_Model t_Model_ok n_Model hown hK hP hD hS 0 rfl rfl 19 (by decide) (hg _ k708) (fun _ h9 => h9) rfl (by decide +kernel) rfl rfl (Nat.le_of_ble_eq_true rfl) d_Model_constant_69 (fun H locs hP hD hS => ?_)
      obtain ⟨J8, eJ8, h⟩ := dz_lt h
      have hP : va_P (dC, dI) classes (wD cB cI o_Model r J8 G6) H := by rw [eJ8]; exact hP
      have hD : va_D A (wD cB cI o_Model r J8 G6) := by rw [eJ8]; exact hD
      refine lv_aload_n hx hb d_Model_constant_72 rfl (lv_at hl 0 rfl) ?_
      refine va_get (D := (dC, dI)) (ci := 10) (v := .int (J8 18)) (C := R_Model) (T := F_Model) (N := 54) hx hb hg i_Model hown hK hP 0 rfl rfl 18 (by decide) (hg _ k711) (fun _ h9 => h9) rfl d_Model_constant_73 ?_
      refine lv_iconst (v := 1) hx hb d_Model_constant_76 (by decide) ?_
      refine lv_isub hx hb d_Model_constant_77 ?_
      obtain rfl := Option.some.inj h
      have hP9 := hP
      have hD9 := hD
      have hK9 := hK
      exact W.iret (v := (J8 18) - 1) hx hb hr (fun t ht hW => ⟨⟨(J8 18) - 1, (), rfl, rfl, by rw [ht]; exact hP9, va_K.moved hW.alike hK9, hD9⟩, hS.F ht⟩) hS.2.2 d_Model_constant_78
    · rw [if_neg c3] at h
      refine lv_bipush (v := (-2)) hx hb d_Model_constant_29 (by decide) ?_
      obtain rfl := Option.some.inj h
      have hP9 := hP
      have hD9 := hD
      have hK9 := hK
      exact W.iret (v := (-2)) hx hb hr (fun t ht hW => ⟨⟨(-2), (), rfl, rfl, by rw [ht]; exact hP9, va_K.moved hW.alike hK9, hD9⟩, hS.F ht⟩) hS.2.2 d_Model_constant_31

set_option maxHeartbeats 4000000 in
set_option maxRecDepth 100000 in
theorem c_Model_start (l : Launch) (dC : Nat → ClassId) (dI : Nat → Nat → Nat) (N : Nat) (cB : ClassId) (cI : ClassId) (o_Model : Nat) (r : Nat → Nat) (I : Nat → Int32) (F : Nat → Nat → Int32) (p0 : Int32) (p1 : Int32) (sz : Nat) (z : Int32 × (Nat → Nat → Int32) × (Nat → Int32)) (h : m_Model_start N I F p0 p1 = some z) : Met l y_Model_start (.code y_Model_start b_Model_start 3 (some .boolean) :: lw_g) ({ frames := 0, cells := 0, slots := 0, locals := 0 }) (va_Pc [.ref o_Model, .int p0, .int p1] (fun U => dz_N U ∧ U.heap.size = sz ∧ va_P (dC, dI) classes (wD cB cI o_Model r I F) U.heap ∧ va_K (dC, dI) classes [(cB, .byte), (cI, .int)] U ∧ va_D (fun _ => True) (wD cB cI o_Model r I F))) (va_Qi (fun (r : Int32) (_ : Unit) => r = z.1 ∧ narrow .boolean (.int z.1) = .int z.1 ∧ fits .boolean (.int z.1) = true) (fun (u : Unit) t => va_P (dC, dI) classes (wD cB cI o_Model r z.2.2 z.2.1) t.heap ∧ va_K (dC, dI) classes [(cB, .byte), (cI, .int)] t ∧ va_D (va_A (wD cB cI o_Model r I F) sz) (wD cB cI o_Model r z.2.2 z.2.1)) (va_A (wD cB cI o_Model r I F) sz)) 0 0 (va_A (wD cB cI o_Model r I F) sz) := by
  refine Met.ofW (cc := b_Model_start) (maxL := 3) (ret := (some .boolean)) (by decide +kernel) rfl ?_
  intro p e s m args below meth c s₁ B hml hv
  obtain ⟨rfl, hN, hsz, hP, hK, hD0⟩ := hv
  have hx := B.exec
  have hb := B.bytes
  have hr := B.returns
  have hg : ∀ w ∈ lw_g, w.before _ s = true := fun w hw => atoms_spec (ws := .code y_Model_start b_Model_start 3 (some .boolean) :: lw_g) B.pre w (List.mem_cons_of_mem _ hw)
  have hown : s.vm.findClass R_Model = some m.cls := findClass_of_methodNamed B.named
  have hlocks := B.notSynchronized
  clear B
  subst hsz
  have hD := hD0.self (sz := s.heap.size)
  generalize hAe : va_A (wD cB cI o_Model r I F) s.heap.size = A at hD ⊢
  have hA : ∀ q : Nat, s.heap.size ≤ q → A q := fun q h => by rw [← hAe]; exact Or.inr h
  have hS : va_S A s.heap s.heap [] := va_S.rf
  have hP : va_P (dC, dI) classes (wD cB cI o_Model r I F) s.heap := hP
  have hl := lv_entry ([.ref o_Model, .int p0, .int p1]) (n := 3) (Nat.le_of_ble_eq_true rfl)
  rw [lg_entry_eq]
  generalize (lg_sl ([.ref o_Model, .int p0, .int p1]) ++ List.replicate (3 - (lg_sl ([.ref o_Model, .int p0, .int p1])).length) Slot.unset).toArray = ls at hl ⊢
  have hl : lv_has ls 3 [(0, .ref o_Model), (1, .int p0), (2, .int p1)] := hl
  unfold m_Model_start at h
  refine lv_iload_n hx hb d_Model_start_0 rfl (lv_at hl 1 rfl) ?_
  refine lv_if_lt (tgt := 14) hx hb d_Model_start_1 (by decide) (fun c1 => ?_) (fun c1 => ?_)
  · rw [if_pos c1] at h
    refine lv_iconst (v := 0) hx hb d_Model_start_14 (by decide) ?_
    obtain rfl := Option.some.inj h
    have hP9 := hP
    have hD9 := hD
    have hK9 := hK
    exact W.zret (v := 0) (ty := .boolean) hx hb hr (show narrow .boolean (.int 0) = .int 0 from rfl) (fun t ht hW => ⟨⟨0, (), rfl, ⟨rfl, (show narrow .boolean (.int 0) = .int 0 from rfl), (show fits .boolean (.int 0) = true from rfl)⟩, by rw [ht]; exact hP9, va_K.moved hW.alike hK9, hD9⟩, hS.F ht⟩) hS.2.2 d_Model_start_15
  · rw [if_neg c1] at h
    refine lv_iload_n hx hb d_Model_start_4 rfl (lv_at hl 2 rfl) ?_
    refine lv_if_lt (tgt := 14) hx hb d_Model_start_5 (by decide) (fun c2 => ?_) (fun c2 => ?_)
    · rw [if_pos c2] at h
      refine lv_iconst (v := 0) hx hb d_Model_start_14 (by decide) ?_
      obtain rfl := Option.some.inj h
      have hP9 := hP
      have hD9 := hD
      have hK9 := hK
      exact W.zret (v := 0) (ty := .boolean) hx hb hr (show narrow .boolean (.int 0) = .int 0 from rfl) (fun t ht hW => ⟨⟨0, (), rfl, ⟨rfl, (show narrow .boolean (.int 0) = .int 0 from rfl), (show fits .boolean (.int 0) = true from rfl)⟩, by rw [ht]; exact hP9, va_K.moved hW.alike hK9, hD9⟩, hS.F ht⟩) hS.2.2 d_Model_start_15
    · rw [if_neg c2] at h
      refine lv_iload_n hx hb d_Model_start_8 rfl (lv_at hl 2 rfl) ?_
      refine lv_ldc (v := 1000000) hx hb hown (hg _ k714) d_Model_start_9 ?_
      refine lv_icmp_le (tgt := 16) hx hb d_Model_start_11 (by decide) (fun c3 => ?_) (fun c3 => ?_)
      · rw [if_pos c3] at h
        refine lv_aload_n hx hb d_Model_start_16 rfl (lv_at hl 0 rfl) ?_
        refine lv_iconst (v := 1) hx hb d_Model_start_17 (by decide) ?_
        refine va_put (D := (dC, dI)) (ci := 10) (v := .int 1) (ty := .boolean) (C := R_Model) (T := F_Model) (N := 54) hx hb hg i_Model t_Model t_Model_ok n_Model hown hK hP hD hS 0 rfl rfl 20 (by decide) (hg _ k701) (fun _ h9 => h9) rfl (by decide +kernel) (show narrow .boolean (.int 1) = .int 1 from rfl) (show fits .boolean (.int 1) = true from rfl) (Nat.le_of_ble_eq_true rfl) d_Model_start_18 (fun H locs hP hD hS => ?_)
        obtain ⟨J4, eJ4, h⟩ := dz_lt h
        have hP : va_P (dC, dI) classes (wD cB cI o_Model r J4 F) H := by rw [eJ4]; exact hP
        have hD : va_D A (wD cB cI o_Model r J4 F) := by rw [eJ4]; exact hD
        refine lv_aload_n hx hb d_Model_start_21 rfl (lv_at hl 0 rfl) ?_
        refine lv_iconst (v := 5) hx hb d_Model_start_22 (by decide) ?_
        refine va_put (D := (dC, dI)) (ci := 10) (v := .int 5) (ty := .int) (C := R_Model) (T := F_Model) (N := 54) hx hb hg i_Model t_Model t_Model_ok n_Model hown hK hP hD hS 0 rfl rfl 21 (by decide) (hg _ k702) (fun _ h9 => h9) rfl (by decide +kernel) rfl rfl (Nat.le_of_ble_eq_true rfl) d_Model_start_23 (fun H locs hP hD hS => ?_)
        obtain ⟨J5, eJ5, h⟩ := dz_lt h
        have hP : va_P (dC, dI) classes (wD cB cI o_Model r J5 F) H := by rw [eJ5]; exact hP
        have hD : va_D A (wD cB cI o_Model r J5 F) := by rw [eJ5]; exact hD
        refine lv_aload_n hx hb d_Model_start_26 rfl (lv_at hl 0 rfl) ?_
        refine lv_iconst (v := 1) hx hb d_Model_start_27 (by decide) ?_
        refine va_put (D := (dC, dI)) (ci := 10) (v := .int 1) (ty := .int) (C := R_Model) (T := F_Model) (N := 54) hx hb hg i_Model t_Model t_Model_ok n_Model hown hK hP hD hS 0 rfl rfl 22 (by decide) (hg _ k715) (fun _ h9 => h9) rfl (by decide +kernel) rfl rfl (Nat.le_of_ble_eq_true rfl) d_Model_start_28 (fun H locs hP hD hS => ?_)
        obtain ⟨J6, eJ6, h⟩ := dz_lt h
        have hP : va_P (dC, dI) classes (wD cB cI o_Model r J6 F) H := by rw [eJ6]; exact hP
        have hD : va_D A (wD cB cI o_Model r J6 F) := by rw [eJ6]; exact hD
        refine lv_aload_n hx hb d_Model_start_31 rfl (lv_at hl 0 rfl) ?_
        refine va_get (D := (dC, dI)) (ci := 10) (v := .ref (r 23)) (C := R_Model) (T := F_Model) (N := 54) hx hb hg i_Model hown hK hP 0 rfl rfl 23 (by decide) (hg _ k716) (fun _ h9 => h9) rfl d_Model_start_32 ?_
        refine lv_iconst (v := 0) hx hb d_Model_start_35 (by decide) ?_
        refine lv_iconst (v := (-1)) hx hb d_Model_start_36 (by decide) ?_
        obtain ⟨i7, h⟩ := dz_oi h
        refine va_iast (D := (dC, dI)) (f := F 23) hx hb hK hP hD hS 13 1 rfl rfl i7 d_Model_start_37 (fun H locs hP hD hS => ?_)
        obtain ⟨G8, eG8, h⟩ := dz_lt h
        have hP : va_P (dC, dI) classes (wD cB cI o_Model r J6 G8) H := by rw [eG8]; exact hP
        have hD : va_D A (wD cB cI o_Model r J6 G8) := by rw [eG8]; exact hD
        refine lv_aload_n hx hb d_Model_start_38 rfl (lv_at hl 0 rfl) ?_
        refine va_get (D := (dC, dI)) (ci := 10) (v := .ref (r 24)) (C := R_Model) (T := F_Model) (N := 54) hx hb hg i_Model hown hK hP 0 rfl rfl 24 (by decide) (hg _ k717) (fun _ h9 => h9) rfl d_Model_start_39 ?_
        refine lv_iconst (v := 0) hx hb d_Model_start_42 (by decide) ?_
        refine lv_iconst (v := 0) hx hb d_Model_start_43 (by decide) ?_
        obtain ⟨i9, h⟩ := dz_oi h
        refine va_iast (D := (dC, dI)) (f := G8 24) hx hb hK hP hD hS 14 1 rfl rfl i9 d_Model_start_44 (fun H locs hP hD hS => ?_)
        obtain ⟨G10, eG10, h⟩ := dz_lt h
        have hP : va_P (dC, dI) classes (wD cB cI o_Model r J6 G10) H := by rw [eG10]; exact hP
        have hD : va_D A (wD cB cI o_Model r J6 G10) := by rw [eG10]; exact hD
        refine lv_aload_n hx hb d_Model_start_45 rfl (lv_at hl 0 rfl) ?_
        refine va_get (D := (dC, dI)) (ci := 10) (v := .ref (r 25)) (C := R_Model) (T := F_Model) (N := 54) hx hb hg i_Model hown hK hP 0 rfl rfl 25 (by decide) (hg _ k718) (fun _ h9 => h9) rfl d_Model_start_46 ?_
        refine lv_iconst (v := 0) hx hb d_Model_start_49 (by decide) ?_
        refine lv_iconst (v := 0) hx hb d_Model_start_50 (by decide) ?_
        obtain ⟨i11, h⟩ := dz_oi h
        refine va_iast (D := (dC, dI)) (f := G10 25) hx hb hK hP hD hS 15 1 rfl rfl i11 d_Model_start_51 (fun H locs hP hD hS => ?_)
        obtain ⟨G12, eG12, h⟩ := dz_lt h
        have hP : va_P (dC, dI) classes (wD cB cI o_Model r J6 G12) H := by rw [eG12]; exact hP
        have hD : va_D A (wD cB cI o_Model r J6 G12) := by rw [eG12]; exact hD
        refine lv_aload_n hx hb d_Model_start_52 rfl (lv_at hl 0 rfl) ?_
        refine lv_iconst (v := 0) hx hb d_Model_start_53 (by decide) ?_
        refine va_put (D := (dC, dI)) (ci := 10) (v := .int 0) (ty := .int) (C := R_Model) (T := F_Model) (N := 54) hx hb hg i_Model t_Model t_Model_ok n_Model hown hK hP hD hS 0 rfl rfl 29 (by decide) (hg _ k719) (fun _ h9 => h9) rfl (by decide +kernel) rfl rfl (Nat.le_of_ble_eq_true rfl) d_Model_start_54 (fun H locs hP hD hS => ?_)
        obtain ⟨J13, eJ13, h⟩ := dz_lt h
        have hP : va_P (dC, dI) classes (wD cB cI o_Model r J13 G12) H := by rw [eJ13]; exact hP
        have hD : va_D A (wD cB cI o_Model r J13 G12) := by rw [eJ13]; exact hD
        refine lv_aload_n hx hb d_Model_start_57 rfl (lv_at hl 0 rfl) ?_
        refine lv_iconst (v := 0) hx hb d_Model_start_58 (by decide) ?_
        refine va_put (D := (dC, dI)) (ci := 10) (v := .int 0) (ty := .int) (C := R_Model) (T := F_Model) (N := 54) hx hb hg i_Model t_Model t_Model_ok n_Model hown hK hP hD hS 0 rfl rfl 30 (by decide) (hg _ k720) (fun _ h9 => h9) rfl (by decide +kernel) rfl rfl (Nat.le_of_ble_eq_true rfl) d_Model_start_59 (fun H locs hP hD hS => ?_)
        obtain ⟨J14, eJ14, h⟩ := dz_lt h
        have hP : va_P (dC, dI) classes (wD cB cI o_Model r J14 G12) H := by rw [eJ14]; exact hP
        have hD : va_D A (wD cB cI o_Model r J14 G12) := by rw [eJ14]; exact hD
        refine lv_aload_n hx hb d_Model_start_62 rfl (lv_at hl 0 rfl) ?_
        refine lv_iload_n hx hb d_Model_start_63 rfl (lv_at hl 1 rfl) ?_
        refine va_put (D := (dC, dI)) (ci := 10) (v := .int p0) (ty := .int) (C := R_Model) (T := F_Model) (N := 54) hx hb hg i_Model t_Model t_Model_ok n_Model hown hK hP hD hS 0 rfl rfl 35 (by decide) (hg _ k721) (fun _ h9 => h9) rfl (by decide +kernel) rfl rfl (Nat.le_of_ble_eq_true rfl) d_Model_start_64 (fun H locs hP hD hS => ?_)
        obtain ⟨J15, eJ15, h⟩ := dz_lt h
        have hP : va_P (dC, dI) classes (wD cB cI o_Model r J15 G12) H := by rw [eJ15]; exact hP
        have hD : va_D A (wD cB cI o_Model r J15 G12) := by rw [eJ15]; exact hD
        refine lv_aload_n hx hb d_Model_start_67 rfl (lv_at hl 0 rfl) ?_
        refine lv_iload_n hx hb d_Model_start_68 rfl (lv_at hl 2 rfl) ?_
        refine va_put (D := (dC, dI)) (ci := 10) (v := .int p1) (ty := .int) (C := R_Model) (T := F_Model) (N := 54) hx hb hg i_Model t_Model t_Model_ok n_Model hown hK hP hD hS 0 rfl rfl 36 (by decide) (hg _ k722) (fun _ h9 => h9) rfl (by decide +kernel) rfl rfl (Nat.le_of_ble_eq_true rfl) d_Model_start_69 (fun H locs hP hD hS => ?_)
        obtain ⟨J16, eJ16, h⟩ := dz_lt h
        have hP : va_P (dC, dI) classes (wD cB cI o_Model r J16 G12) H := by rw [eJ16]; exact hP
        have hD : va_D A (wD cB cI o_Model r J16 G12) := by rw [eJ16]; exact hD
        refine lv_aload_n hx hb d_Model_start_72 rfl (lv_at hl 0 rfl) ?_
        refine lv_iconst (v := 0) hx hb d_Model_start_73 (by decide) ?_
        refine va_put (D := (dC, dI)) (ci := 10) (v := .int 0) (ty := .int) (C := R_Model) (T := F_Model) (N := 54) hx hb hg i_Model t_Model t_Model_ok n_Model hown hK hP hD hS 0 rfl rfl 37 (by decide) (hg _ k723) (fun _ h9 => h9) rfl (by decide +kernel) rfl rfl (Nat.le_of_ble_eq_true rfl) d_Model_start_74 (fun H locs hP hD hS => ?_)
        obtain ⟨J17, eJ17, h⟩ := dz_lt h
        have hP : va_P (dC, dI) classes (wD cB cI o_Model r J17 G12) H := by rw [eJ17]; exact hP
        have hD : va_D A (wD cB cI o_Model r J17 G12) := by rw [eJ17]; exact hD
        refine lv_aload_n hx hb d_Model_start_77 rfl (lv_at hl 0 rfl) ?_
        refine lv_iconst (v := 0) hx hb d_Model_start_78 (by decide) ?_
        refine va_put (D := (dC, dI)) (ci := 10) (v := .int 0) (ty := .int) (C := R_Model) (T := F_Model) (N := 54) hx hb hg i_Model t_Model t_Model_ok n_Model hown hK hP hD hS 0 rfl rfl 38 (by decide) (hg _ k724) (fun _ h9 => h9) rfl (by decide +kernel) rfl rfl (Nat.le_of_ble_eq_true rfl) d_Model_start_79 (fun H locs hP hD hS => ?_)
        obtain ⟨J18, eJ18, h⟩ := dz_lt h
        have hP : va_P (dC, dI) classes (wD cB cI o_Model r J18 G12) H := by rw [eJ18]; exact hP
        have hD : va_D A (wD cB cI o_Model r J18 G12) := by rw [eJ18]; exact hD
        refine lv_aload_n hx hb d_Model_start_82 rfl (lv_at hl 0 rfl) ?_
        refine lv_iconst (v := 0) hx hb d_Model_start_83 (by decide) ?_
        refine va_put (D := (dC, dI)) (ci := 10) (v := .int 0) (ty := .int) (C := R_Model) (T := F_Model) (N := 54) hx hb hg i_Model t_Model t_Model_ok n_Model hown hK hP hD hS 0 rfl rfl 39 (by decide) (hg _ k725) (fun _ h9 => h9) rfl (by decide +kernel) rfl rfl (Nat.le_of_ble_eq_true rfl) d_Model_start_84 (fun H locs hP hD hS => ?_)
        obtain ⟨J19, eJ19, h⟩ := dz_lt h
        have hP : va_P (dC, dI) classes (wD cB cI o_Model r J19 G12) H := by rw [eJ19]; exact hP
        have hD : va_D A (wD cB cI o_Model r J19 G12) := by rw [eJ19]; exact hD
        refine lv_aload_n hx hb d_Model_start_87 rfl (lv_at hl 0 rfl) ?_
        refine lv_iconst (v := 0) hx hb d_Model_start_88 (by decide) ?_
        refine va_put (D := (dC, dI)) (ci := 10) (v := .int 0) (ty := .int) (C := R_Model) (T := F_Model) (N := 54) hx hb hg i_Model t_Model t_Model_ok n_Model hown hK hP hD hS 0 rfl rfl 40 (by decide) (hg _ k726) (fun _ h9 => h9) rfl (by decide +kernel) rfl rfl (Nat.le_of_ble_eq_true rfl) d_Model_start_89 (fun H locs hP hD hS => ?_)
        obtain ⟨J20, eJ20, h⟩ := dz_lt h
        have hP : va_P (dC, dI) classes (wD cB cI o_Model r J20 G12) H := by rw [eJ20]; exact hP
        have hD : va_D A (wD cB cI o_Model r J20 G12) := by rw [eJ20]; exact hD
        refine lv_aload_n hx hb d_Model_start_92 rfl (lv_at hl 0 rfl) ?_
        refine lv_iconst (v := 0) hx hb d_Model_start_93 (by decide) ?_
        refine va_put (D := (dC, dI)) (ci := 10) (v := .int 0) (ty := .int) (C := R_Model) (T := F_Model) (N := 54) hx hb hg i_Model t_Model t_Model_ok n_Model hown hK hP hD hS 0 rfl rfl 42 (by decide) (hg _ k727) (fun _ h9 => h9) rfl (by decide +kernel) rfl rfl (Nat.le_of_ble_eq_true rfl) d_Model_start_94 (fun H locs hP hD hS => ?_)
        obtain ⟨J21, eJ21, h⟩ := dz_lt h
        have hP : va_P (dC, dI) classes (wD cB cI o_Model r J21 G12) H := by rw [eJ21]; exact hP
        have hD : va_D A (wD cB cI o_Model r J21 G12) := by rw [eJ21]; exact hD
        refine lv_aload_n hx hb d_Model_start_97 rfl (lv_at hl 0 rfl) ?_
        refine lv_iconst (v := 0) hx hb d_Model_start_98 (by decide) ?_
        refine va_put (D := (dC, dI)) (ci := 10) (v := .int 0) (ty := .int) (C := R_Model) (T := F_Model) (N := 54) hx hb hg i_Model t_Model t_Model_ok n_Model hown hK hP hD hS 0 rfl rfl 7 (by decide) (hg _ k728) (fun _ h9 => h9) rfl (by decide +kernel) rfl rfl (Nat.le_of_ble_eq_true rfl) d_Model_start_99 (fun H locs hP hD hS => ?_)
        obtain ⟨J22, eJ22, h⟩ := dz_lt h
        have hP : va_P (dC, dI) classes (wD cB cI o_Model r J22 G12) H := by rw [eJ22]; exact hP
        have hD : va_D A (wD cB cI o_Model r J22 G12) := by rw [eJ22]; exact hD
        refine lv_aload_n hx hb d_Model_start_102 rfl (lv_at hl 0 rfl) ?_
        refine lv_iconst (v := 0) hx hb d_Model_start_103 (by decide) ?_
        refine va_put (D := (dC, dI)) (ci := 10) (v := .int 0) (ty := .int) (C := R_Model) (T := F_Model) (N := 54) hx hb hg i_Model t_Model t_Model_ok n_Model hown hK hP hD hS 0 rfl rfl 8 (by decide) (hg _ k729) (fun _ h9 => h9) rfl (by decide +kernel) rfl rfl (Nat.le_of_ble_eq_true rfl) d_Model_start_104 (fun H locs hP hD hS => ?_)
        obtain ⟨J23, eJ23, h⟩ := dz_lt h
        have hP : va_P (dC, dI) classes (wD cB cI o_Model r J23 G12) H := by rw [eJ23]; exact hP
        have hD : va_D A (wD cB cI o_Model r J23 G12) := by rw [eJ23]; exact hD
        refine lv_iconst (v := 1) hx hb d_Model_start_107 (by decide) ?_
        obtain rfl := Option.some.inj h
        have hP9 := hP
        have hD9 := hD
        have hK9 := hK
        exact W.zret (v := 1) (ty := .boolean) hx hb hr (show narrow .boolean (.int 1) = .int 1 from rfl) (fun t ht hW => ⟨⟨1, (), rfl, ⟨rfl, (show narrow .boolean (.int 1) = .int 1 from rfl), (show fits .boolean (.int 1) = true from rfl)⟩, by rw [ht]; exact hP9, va_K.moved hW.alike hK9, hD9⟩, hS.F ht⟩) hS.2.2 d_Model_start_108
      · rw [if_neg c3] at h
        refine lv_iconst (v := 0) hx hb d_Model_start_14 (by decide) ?_
        obtain rfl := Option.some.inj h
        have hP9 := hP
        have hD9 := hD
        have hK9 := hK
        exact W.zret (v := 0) (ty := .boolean) hx hb hr (show narrow .boolean (.int 0) = .int 0 from rfl) (fun t ht hW => ⟨⟨0, (), rfl, ⟨rfl, (show narrow .boolean (.int 0) = .int 0 from rfl), (show fits .boolean (.int 0) = true from rfl)⟩, by rw [ht]; exact hP9, va_K.moved hW.alike hK9, hD9⟩, hS.F ht⟩) hS.2.2 d_Model_start_15

set_option maxHeartbeats 4000000 in
set_option maxRecDepth 100000 in
theorem l_Model_words_1 {p : Program} {l : Launch} {e : Env} {s : State} {m : MethodId} {args : Array Value} {below : List Frame} {meth : Method} {c : Code} {Q : State → Prop} (dC : Nat → ClassId) (dI : Nat → Nat → Nat) (N : Nat) (cB : ClassId) (cI : ClassId) (o_Model : Nat) (r : Nat → Nat) (I : Nat → Int32) (F : Nat → Nat → Int32) {ζ : Type} {z : ζ} (hx : p.tables.exec = Jvm.exec) (hb : c.code = b_Model_words) (hml : c.maxLocals = 2) (hown : s.vm.findClass R_Model = some m.cls) (hg : ∀ w ∈ lw_g, w.before args s = true) (hN : dz_N s) (hK : va_K (dC, dI) classes [(cB, .byte), (cI, .int)] s) (hP : va_P (dC, dI) classes (wD cB cI o_Model r I F) s.heap) {k1_296 : Int32 → Option (ζ)} (hk1_296 : ∀   (y1_0 : Int32)   (ls : Array Slot), k1_296 y1_0 = some z → lv_has ls 2 [(1, .int 1), (0, .ref o_Model)] → W p l e ({ frames := 0, cells := 0, slots := 0, locals := 0 } : Room) s m args below meth c s.heap [] 0 0 Q (F0 m 296 ls [.int y1_0])) : ∀     (ls : Array Slot), lm_Model_words_1 N I F k1_296  = some z → lv_has ls 2 [(1, .int 1), (0, .ref o_Model)] → W p l e ({ frames := 0, cells := 0, slots := 0, locals := 0 } : Room) s m args below meth c s.heap [] 0 0 Q (F0 m 234 ls []) := by
  intro ls h hl
  unfold lm_Model_words_1 at h
  refine lv_aload_n hx hb d_Model_words_234 rfl (lv_at hl 1 rfl) ?_
  refine va_get (D := (dC, dI)) (ci := 10) (v := .int (I 35)) (C := R_Model) (T := F_Model) (N := 54) hx hb hg i_Model hown hK hP 0 rfl rfl 35 (by decide) (hg _ k721) (fun _ h9 => h9) rfl d_Model_words_235 ?_
  refine lv_iconst (v := 1) hx hb d_Model_words_238 (by decide) ?_
  refine lv_iadd hx hb d_Model_words_239 ?_
  refine lv_aload_n hx hb d_Model_words_240 rfl (lv_at hl 1 rfl) ?_
  refine va_get (D := (dC, dI)) (ci := 10) (v := .int (I 15)) (C := R_Model) (T := F_Model) (N := 54) hx hb hg i_Model hown hK hP 0 rfl rfl 15 (by decide) (hg _ k698) (fun _ h9 => h9) rfl d_Model_words_241 ?_
  refine lv_icmp_ge (tgt := 294) hx hb d_Model_words_244 (by decide) (fun c30 => ?_) (fun c30 => ?_)
  · rw [if_pos c30] at h
    refine lv_ldc (v := 300000) hx hb hown (hg _ k730) d_Model_words_294 ?_
    exact hk1_296 (300000 : Int32) _ h (lv_sub hl [0, 1] rfl)
  · rw [if_neg c30] at h
    refine lv_aload_n hx hb d_Model_words_247 rfl (lv_at hl 1 rfl) ?_
    refine va_get (D := (dC, dI)) (ci := 10) (v := .ref (r 14)) (C := R_Model) (T := F_Model) (N := 54) hx hb hg i_Model hown hK hP 0 rfl rfl 14 (by decide) (hg _ k700) (fun _ h9 => h9) rfl d_Model_words_248 ?_
    refine lv_aload_n hx hb d_Model_words_251 rfl (lv_at hl 1 rfl) ?_
    refine va_get (D := (dC, dI)) (ci := 10) (v := .int (I 35)) (C := R_Model) (T := F_Model) (N := 54) hx hb hg i_Model hown hK hP 0 rfl rfl 35 (by decide) (hg _ k721) (fun _ h9 => h9) rfl d_Model_words_252 ?_
    refine lv_iconst (v := 1) hx hb d_Model_words_255 (by decide) ?_
    refine lv_iadd hx hb d_Model_words_256 ?_
    obtain ⟨i31, h⟩ := dz_oi h
    refine va_iald (D := (dC, dI)) (f := F 14) hx hb hK hP 10 1 rfl rfl i31 d_Model_words_257 ?_
    refine lv_if_lt (tgt := 294) hx hb d_Model_words_258 (by decide) (fun c32 => ?_) (fun c32 => ?_)
    · rw [if_pos c32] at h
      refine lv_ldc (v := 300000) hx hb hown (hg _ k730) d_Model_words_294 ?_
      exact hk1_296 (300000 : Int32) _ h (lv_sub hl [0, 1] rfl)
    · rw [if_neg c32] at h
      refine lv_aload_n hx hb d_Model_words_261 rfl (lv_at hl 1 rfl) ?_
      refine va_get (D := (dC, dI)) (ci := 10) (v := .ref (r 14)) (C := R_Model) (T := F_Model) (N := 54) hx hb hg i_Model hown hK hP 0 rfl rfl 14 (by decide) (hg _ k700) (fun _ h9 => h9) rfl d_Model_words_262 ?_
      refine lv_aload_n hx hb d_Model_words_265 rfl (lv_at hl 1 rfl) ?_
      refine va_get (D := (dC, dI)) (ci := 10) (v := .int (I 35)) (C := R_Model) (T := F_Model) (N := 54) hx hb hg i_Model hown hK hP 0 rfl rfl 35 (by decide) (hg _ k721) (fun _ h9 => h9) rfl d_Model_words_266 ?_
      refine lv_iconst (v := 1) hx hb d_Model_words_269 (by decide) ?_
      refine lv_iadd hx hb d_Model_words_270 ?_
      obtain ⟨i33, h⟩ := dz_oi h
      refine va_iald (D := (dC, dI)) (f := F 14) hx hb hK hP 10 1 rfl rfl i33 d_Model_words_271 ?_
      refine lv_sipush (v := 256) hx hb d_Model_words_272 (by decide) ?_
      refine lv_icmp_ge (tgt := 294) hx hb d_Model_words_275 (by decide) (fun c34 => ?_) (fun c34 => ?_)
      · rw [if_pos c34] at h
        refine lv_ldc (v := 300000) hx hb hown (hg _ k730) d_Model_words_294 ?_
        exact hk1_296 (300000 : Int32) _ h (lv_sub hl [0, 1] rfl)
      · rw [if_neg c34] at h
        refine lv_aload_n hx hb d_Model_words_278 rfl (lv_at hl 1 rfl) ?_
        refine va_get (D := (dC, dI)) (ci := 10) (v := .ref (r 14)) (C := R_Model) (T := F_Model) (N := 54) hx hb hg i_Model hown hK hP 0 rfl rfl 14 (by decide) (hg _ k700) (fun _ h9 => h9) rfl d_Model_words_279 ?_
        refine lv_aload_n hx hb d_Model_words_282 rfl (lv_at hl 1 rfl) ?_
        refine va_get (D := (dC, dI)) (ci := 10) (v := .int (I 35)) (C := R_Model) (T := F_Model) (N := 54) hx hb hg i_Model hown hK hP 0 rfl rfl 35 (by decide) (hg _ k721) (fun _ h9 => h9) rfl d_Model_words_283 ?_
        refine lv_iconst (v := 1) hx hb d_Model_words_286 (by decide) ?_
        refine lv_iadd hx hb d_Model_words_287 ?_
        obtain ⟨i35, h⟩ := dz_oi h
        refine va_iald (D := (dC, dI)) (f := F 14) hx hb hK hP 10 1 rfl rfl i35 d_Model_words_288 ?_
        refine lv_iconst (v := 3) hx hb d_Model_words_289 (by decide) ?_
        refine lv_iadd hx hb d_Model_words_290 ?_
        refine lv_goto (tgt := 296) hx hb d_Model_words_291 (by decide) ?_
        exact hk1_296 (((F 14) ((I 35) + 1).toNatClampNeg) + 3) _ h (lv_sub hl [0, 1] rfl)
set_option maxHeartbeats 4000000 in
set_option maxRecDepth 100000 in
theorem c_Model_words (l : Launch) (dC : Nat → ClassId) (dI : Nat → Nat → Nat) (N : Nat) (cB : ClassId) (cI : ClassId) (o_Model : Nat) (r : Nat → Nat) (I : Nat → Int32) (F : Nat → Nat → Int32) (z : Int32) (h : m_Model_words N I F = some z) : Met l y_Model_words (.code y_Model_words b_Model_words 2 (some .int) :: lw_g) ({ frames := 0, cells := 0, slots := 0, locals := 0 }) (va_Pc [.ref o_Model] (fun U => dz_N U ∧ va_P (dC, dI) classes (wD cB cI o_Model r I F) U.heap ∧ va_K (dC, dI) classes [(cB, .byte), (cI, .int)] U)) (vp_Si (fun r => r = z)) 0 0 (fun _ => False) := by
  refine Met.ofW (cc := b_Model_words) (maxL := 2) (ret := (some .int)) (by decide +kernel) rfl ?_
  intro p e s m args below meth c s₁ B hml hv
  obtain ⟨rfl, hN, hP, hK⟩ := hv
  have hx := B.exec
  have hb := B.bytes
  have hr := B.returns
  have hg : ∀ w ∈ lw_g, w.before _ s = true := fun w hw => atoms_spec (ws := .code y_Model_words b_Model_words 2 (some .int) :: lw_g) B.pre w (List.mem_cons_of_mem _ hw)
  have hown : s.vm.findClass R_Model = some m.cls := findClass_of_methodNamed B.named
  have hlocks := B.notSynchronized
  clear B
  have hP : va_P (dC, dI) classes (wD cB cI o_Model r I F) s.heap := hP
  have hl := lv_entry ([.ref o_Model]) (n := 2) (Nat.le_of_ble_eq_true rfl)
  rw [lg_entry_eq]
  generalize (lg_sl ([.ref o_Model]) ++ List.replicate (2 - (lg_sl ([.ref o_Model])).length) Slot.unset).toArray = ls at hl ⊢
  have hl : lv_has ls 2 [(0, .ref o_Model)] := hl
  unfold m_Model_words at h
  refine lv_aload_n hx hb d_Model_words_0 rfl (lv_at hl 0 rfl) ?_
  refine va_get (D := (dC, dI)) (ci := 10) (v := .int (I 35)) (C := R_Model) (T := F_Model) (N := 54) hx hb hg i_Model hown hK hP 0 rfl rfl 35 (by decide) (hg _ k721) (fun _ h9 => h9) rfl d_Model_words_1 ?_
  refine lv_if_lt (tgt := 44) hx hb d_Model_words_4 (by decide) (fun c1 => ?_) (fun c1 => ?_)
  · rw [if_pos c1] at h
    refine lv_iconst (v := 0) hx hb d_Model_words_44 (by decide) ?_
    obtain rfl := Option.some.inj h
    exact W.iret (v := 0) hx hb hr (fun t ht hW => ⟨_, rfl, rfl, ht⟩) (fun _ h => by cases h) d_Model_words_45
  · rw [if_neg c1] at h
    refine lv_aload_n hx hb d_Model_words_7 rfl (lv_at hl 0 rfl) ?_
    refine va_get (D := (dC, dI)) (ci := 10) (v := .int (I 35)) (C := R_Model) (T := F_Model) (N := 54) hx hb hg i_Model hown hK hP 0 rfl rfl 35 (by decide) (hg _ k721) (fun _ h9 => h9) rfl d_Model_words_8 ?_
    refine lv_aload_n hx hb d_Model_words_11 rfl (lv_at hl 0 rfl) ?_
    refine va_get (D := (dC, dI)) (ci := 10) (v := .int (I 15)) (C := R_Model) (T := F_Model) (N := 54) hx hb hg i_Model hown hK hP 0 rfl rfl 15 (by decide) (hg _ k698) (fun _ h9 => h9) rfl d_Model_words_12 ?_
    refine lv_icmp_ge (tgt := 44) hx hb d_Model_words_15 (by decide) (fun c2 => ?_) (fun c2 => ?_)
    · rw [if_pos c2] at h
      refine lv_iconst (v := 0) hx hb d_Model_words_44 (by decide) ?_
      obtain rfl := Option.some.inj h
      exact W.iret (v := 0) hx hb hr (fun t ht hW => ⟨_, rfl, rfl, ht⟩) (fun _ h => by cases h) d_Model_words_45
    · rw [if_neg c2] at h
      refine lv_aload_n hx hb d_Model_words_18 rfl (lv_at hl 0 rfl) ?_
      refine va_get (D := (dC, dI)) (ci := 10) (v := .ref (r 14)) (C := R_Model) (T := F_Model) (N := 54) hx hb hg i_Model hown hK hP 0 rfl rfl 14 (by decide) (hg _ k700) (fun _ h9 => h9) rfl d_Model_words_19 ?_
      refine lv_aload_n hx hb d_Model_words_22 rfl (lv_at hl 0 rfl) ?_
      refine va_get (D := (dC, dI)) (ci := 10) (v := .int (I 35)) (C := R_Model) (T := F_Model) (N := 54) hx hb hg i_Model hown hK hP 0 rfl rfl 35 (by decide) (hg _ k721) (fun _ h9 => h9) rfl d_Model_words_23 ?_
      obtain ⟨i3, h⟩ := dz_oi h
      refine va_iald (D := (dC, dI)) (f := F 14) hx hb hK hP 10 1 rfl rfl i3 d_Model_words_26 ?_
      refine lv_if_lt (tgt := 44) hx hb d_Model_words_27 (by decide) (fun c4 => ?_) (fun c4 => ?_)
      · rw [if_pos c4] at h
        refine lv_iconst (v := 0) hx hb d_Model_words_44 (by decide) ?_
        obtain rfl := Option.some.inj h
        exact W.iret (v := 0) hx hb hr (fun t ht hW => ⟨_, rfl, rfl, ht⟩) (fun _ h => by cases h) d_Model_words_45
      · rw [if_neg c4] at h
        refine lv_aload_n hx hb d_Model_words_30 rfl (lv_at hl 0 rfl) ?_
        refine va_get (D := (dC, dI)) (ci := 10) (v := .ref (r 14)) (C := R_Model) (T := F_Model) (N := 54) hx hb hg i_Model hown hK hP 0 rfl rfl 14 (by decide) (hg _ k700) (fun _ h9 => h9) rfl d_Model_words_31 ?_
        refine lv_aload_n hx hb d_Model_words_34 rfl (lv_at hl 0 rfl) ?_
        refine va_get (D := (dC, dI)) (ci := 10) (v := .int (I 35)) (C := R_Model) (T := F_Model) (N := 54) hx hb hg i_Model hown hK hP 0 rfl rfl 35 (by decide) (hg _ k721) (fun _ h9 => h9) rfl d_Model_words_35 ?_
        obtain ⟨i5, h⟩ := dz_oi h
        refine va_iald (D := (dC, dI)) (f := F 14) hx hb hK hP 10 1 rfl rfl i5 d_Model_words_38 ?_
        refine lv_bipush (v := 39) hx hb d_Model_words_39 (by decide) ?_
        refine lv_icmp_le (tgt := 46) hx hb d_Model_words_41 (by decide) (fun c6 => ?_) (fun c6 => ?_)
        · rw [if_pos c6] at h
          refine lv_iconst (v := 1) hx hb d_Model_words_46 (by decide) ?_
          refine lv_istore_n (lv' := [(1, .int 1), (0, .ref o_Model)]) hx hb d_Model_words_47 rfl hl (by decide) rfl (fun ls hl => ?_)
          refine lv_aload_n hx hb d_Model_words_48 rfl (lv_at hl 1 rfl) ?_
          refine va_get (D := (dC, dI)) (ci := 10) (v := .ref (r 14)) (C := R_Model) (T := F_Model) (N := 54) hx hb hg i_Model hown hK hP 0 rfl rfl 14 (by decide) (hg _ k700) (fun _ h9 => h9) rfl d_Model_words_49 ?_
          refine lv_aload_n hx hb d_Model_words_52 rfl (lv_at hl 1 rfl) ?_
          refine va_get (D := (dC, dI)) (ci := 10) (v := .int (I 35)) (C := R_Model) (T := F_Model) (N := 54) hx hb hg i_Model hown hK hP 0 rfl rfl 35 (by decide) (hg _ k721) (fun _ h9 => h9) rfl d_Model_words_53 ?_
          obtain ⟨i7, h⟩ := dz_oi h
          refine va_iald (D := (dC, dI)) (f := F 14) hx hb hK hP 10 1 rfl rfl i7 d_Model_words_56 ?_
          by_cases s8_1 : ((F 14) (I 35).toNatClampNeg) = 1
          · rw [if_pos s8_1] at h
            refine lv_tableIn (off := 167) (tgt := 224) hx hb d_Model_words_57 (by rw [s8_1]; decide) (by rw [s8_1]; decide) (by rw [s8_1]; decide) (by decide) ?_
            refine lv_iconst (v := 2) hx hb d_Model_words_224 (by decide) ?_
            refine lv_istore_n (lv' := [(1, .int 2), (0, .ref o_Model)]) hx hb d_Model_words_225 rfl hl (by decide) rfl (fun ls hl => ?_)
            refine lv_goto (tgt := 300) hx hb d_Model_words_226 (by decide) ?_
            refine lv_aload_n hx hb d_Model_words_300 rfl (lv_at hl 1 rfl) ?_
            refine va_get (D := (dC, dI)) (ci := 10) (v := .int (I 35)) (C := R_Model) (T := F_Model) (N := 54) hx hb hg i_Model hown hK hP 0 rfl rfl 35 (by decide) (hg _ k721) (fun _ h9 => h9) rfl d_Model_words_301 ?_
            refine lv_iload_n hx hb d_Model_words_304 rfl (lv_at hl 0 rfl) ?_
            refine lv_iadd hx hb d_Model_words_305 ?_
            refine lv_aload_n hx hb d_Model_words_306 rfl (lv_at hl 1 rfl) ?_
            refine va_get (D := (dC, dI)) (ci := 10) (v := .int (I 15)) (C := R_Model) (T := F_Model) (N := 54) hx hb hg i_Model hown hK hP 0 rfl rfl 15 (by decide) (hg _ k698) (fun _ h9 => h9) rfl d_Model_words_307 ?_
            refine lv_icmp_le (tgt := 317) hx hb d_Model_words_310 (by decide) (fun c9 => ?_) (fun c9 => ?_)
            · rw [if_pos c9] at h
              refine lv_iload_n hx hb d_Model_words_317 rfl (lv_at hl 0 rfl) ?_
              obtain rfl := Option.some.inj h
              exact W.iret (v := 2) hx hb hr (fun t ht hW => ⟨_, rfl, rfl, ht⟩) (fun _ h => by cases h) d_Model_words_318
            · rw [if_neg c9] at h
              refine lv_iconst (v := 0) hx hb d_Model_words_313 (by decide) ?_
              refine lv_goto (tgt := 318) hx hb d_Model_words_314 (by decide) ?_
              obtain rfl := Option.some.inj h
              exact W.iret (v := 0) hx hb hr (fun t ht hW => ⟨_, rfl, rfl, ht⟩) (fun _ h => by cases h) d_Model_words_318
          rw [if_neg s8_1] at h
          by_cases s8_2 : ((F 14) (I 35).toNatClampNeg) = 2
          · rw [if_pos s8_2] at h
            refine lv_tableIn (off := 167) (tgt := 224) hx hb d_Model_words_57 (by rw [s8_2]; decide) (by rw [s8_2]; decide) (by rw [s8_2]; decide) (by decide) ?_
            refine lv_iconst (v := 2) hx hb d_Model_words_224 (by decide) ?_
            refine lv_istore_n (lv' := [(1, .int 2), (0, .ref o_Model)]) hx hb d_Model_words_225 rfl hl (by decide) rfl (fun ls hl => ?_)
            refine lv_goto (tgt := 300) hx hb d_Model_words_226 (by decide) ?_
            refine lv_aload_n hx hb d_Model_words_300 rfl (lv_at hl 1 rfl) ?_
            refine va_get (D := (dC, dI)) (ci := 10) (v := .int (I 35)) (C := R_Model) (T := F_Model) (N := 54) hx hb hg i_Model hown hK hP 0 rfl rfl 35 (by decide) (hg _ k721) (fun _ h9 => h9) rfl d_Model_words_301 ?_
            refine lv_iload_n hx hb d_Model_words_304 rfl (lv_at hl 0 rfl) ?_
            refine lv_iadd hx hb d_Model_words_305 ?_
            refine lv_aload_n hx hb d_Model_words_306 rfl (lv_at hl 1 rfl) ?_
            refine va_get (D := (dC, dI)) (ci := 10) (v := .int (I 15)) (C := R_Model) (T := F_Model) (N := 54) hx hb hg i_Model hown hK hP 0 rfl rfl 15 (by decide) (hg _ k698) (fun _ h9 => h9) rfl d_Model_words_307 ?_
            refine lv_icmp_le (tgt := 317) hx hb d_Model_words_310 (by decide) (fun c10 => ?_) (fun c10 => ?_)
            · rw [if_pos c10] at h
              refine lv_iload_n hx hb d_Model_words_317 rfl (lv_at hl 0 rfl) ?_
              obtain rfl := Option.some.inj h
              exact W.iret (v := 2) hx hb hr (fun t ht hW => ⟨_, rfl, rfl, ht⟩) (fun _ h => by cases h) d_Model_words_318
            · rw [if_neg c10] at h
              refine lv_iconst (v := 0) hx hb d_Model_words_313 (by decide) ?_
              refine lv_goto (tgt := 318) hx hb d_Model_words_314 (by decide) ?_
              obtain rfl := Option.some.inj h
              exact W.iret (v := 0) hx hb hr (fun t ht hW => ⟨_, rfl, rfl, ht⟩) (fun _ h => by cases h) d_Model_words_318
          rw [if_neg s8_2] at h
          by_cases s8_3 : ((F 14) (I 35).toNatClampNeg) = 3
          · rw [if_pos s8_3] at h
            refine lv_tableIn (off := 167) (tgt := 224) hx hb d_Model_words_57 (by rw [s8_3]; decide) (by rw [s8_3]; decide) (by rw [s8_3]; decide) (by decide) ?_
            refine lv_iconst (v := 2) hx hb d_Model_words_224 (by decide) ?_
            refine lv_istore_n (lv' := [(1, .int 2), (0, .ref o_Model)]) hx hb d_Model_words_225 rfl hl (by decide) rfl (fun ls hl => ?_)
            refine lv_goto (tgt := 300) hx hb d_Model_words_226 (by decide) ?_
            refine lv_aload_n hx hb d_Model_words_300 rfl (lv_at hl 1 rfl) ?_
            refine va_get (D := (dC, dI)) (ci := 10) (v := .int (I 35)) (C := R_Model) (T := F_Model) (N := 54) hx hb hg i_Model hown hK hP 0 rfl rfl 35 (by decide) (hg _ k721) (fun _ h9 => h9) rfl d_Model_words_301 ?_
            refine lv_iload_n hx hb d_Model_words_304 rfl (lv_at hl 0 rfl) ?_
            refine lv_iadd hx hb d_Model_words_305 ?_
            refine lv_aload_n hx hb d_Model_words_306 rfl (lv_at hl 1 rfl) ?_
            refine va_get (D := (dC, dI)) (ci := 10) (v := .int (I 15)) (C := R_Model) (T := F_Model) (N := 54) hx hb hg i_Model hown hK hP 0 rfl rfl 15 (by decide) (hg _ k698) (fun _ h9 => h9) rfl d_Model_words_307 ?_
            refine lv_icmp_le (tgt := 317) hx hb d_Model_words_310 (by decide) (fun c11 => ?_) (fun c11 => ?_)
            · rw [if_pos c11] at h
              refine lv_iload_n hx hb d_Model_words_317 rfl (lv_at hl 0 rfl) ?_
              obtain rfl := Option.some.inj h
              exact W.iret (v := 2) hx hb hr (fun t ht hW => ⟨_, rfl, rfl, ht⟩) (fun _ h => by cases h) d_Model_words_318
            · rw [if_neg c11] at h
              refine lv_iconst (v := 0) hx hb d_Model_words_313 (by decide) ?_
              refine lv_goto (tgt := 318) hx hb d_Model_words_314 (by decide) ?_
              obtain rfl := Option.some.inj h
              exact W.iret (v := 0) hx hb hr (fun t ht hW => ⟨_, rfl, rfl, ht⟩) (fun _ h => by cases h) d_Model_words_318
          rw [if_neg s8_3] at h
          by_cases s8_4 : ((F 14) (I 35).toNatClampNeg) = 4
          · rw [if_pos s8_4] at h
            refine lv_tableIn (off := 167) (tgt := 224) hx hb d_Model_words_57 (by rw [s8_4]; decide) (by rw [s8_4]; decide) (by rw [s8_4]; decide) (by decide) ?_
            refine lv_iconst (v := 2) hx hb d_Model_words_224 (by decide) ?_
            refine lv_istore_n (lv' := [(1, .int 2), (0, .ref o_Model)]) hx hb d_Model_words_225 rfl hl (by decide) rfl (fun ls hl => ?_)
            refine lv_goto (tgt := 300) hx hb d_Model_words_226 (by decide) ?_
            refine lv_aload_n hx hb d_Model_words_300 rfl (lv_at hl 1 rfl) ?_
            refine va_get (D := (dC, dI)) (ci := 10) (v := .int (I 35)) (C := R_Model) (T := F_Model) (N := 54) hx hb hg i_Model hown hK hP 0 rfl rfl 35 (by decide) (hg _ k721) (fun _ h9 => h9) rfl d_Model_words_301 ?_
            refine lv_iload_n hx hb d_Model_words_304 rfl (lv_at hl 0 rfl) ?_
            refine lv_iadd hx hb d_Model_words_305 ?_
            refine lv_aload_n hx hb d_Model_words_306 rfl (lv_at hl 1 rfl) ?_
            refine va_get (D := (dC, dI)) (ci := 10) (v := .int (I 15)) (C := R_Model) (T := F_Model) (N := 54) hx hb hg i_Model hown hK hP 0 rfl rfl 15 (by decide) (hg _ k698) (fun _ h9 => h9) rfl d_Model_words_307 ?_
            refine lv_icmp_le (tgt := 317) hx hb d_Model_words_310 (by decide) (fun c12 => ?_) (fun c12 => ?_)
            · rw [if_pos c12] at h
              refine lv_iload_n hx hb d_Model_words_317 rfl (lv_at hl 0 rfl) ?_
              obtain rfl := Option.some.inj h
              exact W.iret (v := 2) hx hb hr (fun t ht hW => ⟨_, rfl, rfl, ht⟩) (fun _ h => by cases h) d_Model_words_318
            · rw [if_neg c12] at h
              refine lv_iconst (v := 0) hx hb d_Model_words_313 (by decide) ?_
              refine lv_goto (tgt := 318) hx hb d_Model_words_314 (by decide) ?_
              obtain rfl := Option.some.inj h
              exact W.iret (v := 0) hx hb hr (fun t ht hW => ⟨_, rfl, rfl, ht⟩) (fun _ h => by cases h) d_Model_words_318
          rw [if_neg s8_4] at h
          by_cases s8_5 : ((F 14) (I 35).toNatClampNeg) = 5
          · rw [if_pos s8_5] at h
            refine lv_tableIn (off := 167) (tgt := 224) hx hb d_Model_words_57 (by rw [s8_5]; decide) (by rw [s8_5]; decide) (by rw [s8_5]; decide) (by decide) ?_
            refine lv_iconst (v := 2) hx hb d_Model_words_224 (by decide) ?_
            refine lv_istore_n (lv' := [(1, .int 2), (0, .ref o_Model)]) hx hb d_Model_words_225 rfl hl (by decide) rfl (fun ls hl => ?_)
            refine lv_goto (tgt := 300) hx hb d_Model_words_226 (by decide) ?_
            refine lv_aload_n hx hb d_Model_words_300 rfl (lv_at hl 1 rfl) ?_
            refine va_get (D := (dC, dI)) (ci := 10) (v := .int (I 35)) (C := R_Model) (T := F_Model) (N := 54) hx hb hg i_Model hown hK hP 0 rfl rfl 35 (by decide) (hg _ k721) (fun _ h9 => h9) rfl d_Model_words_301 ?_
            refine lv_iload_n hx hb d_Model_words_304 rfl (lv_at hl 0 rfl) ?_
            refine lv_iadd hx hb d_Model_words_305 ?_
            refine lv_aload_n hx hb d_Model_words_306 rfl (lv_at hl 1 rfl) ?_
            refine va_get (D := (dC, dI)) (ci := 10) (v := .int (I 15)) (C := R_Model) (T := F_Model) (N := 54) hx hb hg i_Model hown hK hP 0 rfl rfl 15 (by decide) (hg _ k698) (fun _ h9 => h9) rfl d_Model_words_307 ?_
            refine lv_icmp_le (tgt := 317) hx hb d_Model_words_310 (by decide) (fun c13 => ?_) (fun c13 => ?_)
            · rw [if_pos c13] at h
              refine lv_iload_n hx hb d_Model_words_317 rfl (lv_at hl 0 rfl) ?_
              obtain rfl := Option.some.inj h
              exact W.iret (v := 2) hx hb hr (fun t ht hW => ⟨_, rfl, rfl, ht⟩) (fun _ h => by cases h) d_Model_words_318
            · rw [if_neg c13] at h
              refine lv_iconst (v := 0) hx hb d_Model_words_313 (by decide) ?_
              refine lv_goto (tgt := 318) hx hb d_Model_words_314 (by decide) ?_
              obtain rfl := Option.some.inj h
              exact W.iret (v := 0) hx hb hr (fun t ht hW => ⟨_, rfl, rfl, ht⟩) (fun _ h => by cases h) d_Model_words_318
          rw [if_neg s8_5] at h
          by_cases s8_6 : ((F 14) (I 35).toNatClampNeg) = 6
          · rw [if_pos s8_6] at h
            refine lv_tableIn (off := 167) (tgt := 224) hx hb d_Model_words_57 (by rw [s8_6]; decide) (by rw [s8_6]; decide) (by rw [s8_6]; decide) (by decide) ?_
            refine lv_iconst (v := 2) hx hb d_Model_words_224 (by decide) ?_
            refine lv_istore_n (lv' := [(1, .int 2), (0, .ref o_Model)]) hx hb d_Model_words_225 rfl hl (by decide) rfl (fun ls hl => ?_)
            refine lv_goto (tgt := 300) hx hb d_Model_words_226 (by decide) ?_
            refine lv_aload_n hx hb d_Model_words_300 rfl (lv_at hl 1 rfl) ?_
            refine va_get (D := (dC, dI)) (ci := 10) (v := .int (I 35)) (C := R_Model) (T := F_Model) (N := 54) hx hb hg i_Model hown hK hP 0 rfl rfl 35 (by decide) (hg _ k721) (fun _ h9 => h9) rfl d_Model_words_301 ?_
            refine lv_iload_n hx hb d_Model_words_304 rfl (lv_at hl 0 rfl) ?_
            refine lv_iadd hx hb d_Model_words_305 ?_
            refine lv_aload_n hx hb d_Model_words_306 rfl (lv_at hl 1 rfl) ?_
            refine va_get (D := (dC, dI)) (ci := 10) (v := .int (I 15)) (C := R_Model) (T := F_Model) (N := 54) hx hb hg i_Model hown hK hP 0 rfl rfl 15 (by decide) (hg _ k698) (fun _ h9 => h9) rfl d_Model_words_307 ?_
            refine lv_icmp_le (tgt := 317) hx hb d_Model_words_310 (by decide) (fun c14 => ?_) (fun c14 => ?_)
            · rw [if_pos c14] at h
              refine lv_iload_n hx hb d_Model_words_317 rfl (lv_at hl 0 rfl) ?_
              obtain rfl := Option.some.inj h
              exact W.iret (v := 2) hx hb hr (fun t ht hW => ⟨_, rfl, rfl, ht⟩) (fun _ h => by cases h) d_Model_words_318
            · rw [if_neg c14] at h
              refine lv_iconst (v := 0) hx hb d_Model_words_313 (by decide) ?_
              refine lv_goto (tgt := 318) hx hb d_Model_words_314 (by decide) ?_
              obtain rfl := Option.some.inj h
              exact W.iret (v := 0) hx hb hr (fun t ht hW => ⟨_, rfl, rfl, ht⟩) (fun _ h => by cases h) d_Model_words_318
          rw [if_neg s8_6] at h
          by_cases s8_7 : ((F 14) (I 35).toNatClampNeg) = 7
          · rw [if_pos s8_7] at h
            refine lv_tableIn (off := 167) (tgt := 224) hx hb d_Model_words_57 (by rw [s8_7]; decide) (by rw [s8_7]; decide) (by rw [s8_7]; decide) (by decide) ?_
            refine lv_iconst (v := 2) hx hb d_Model_words_224 (by decide) ?_
            refine lv_istore_n (lv' := [(1, .int 2), (0, .ref o_Model)]) hx hb d_Model_words_225 rfl hl (by decide) rfl (fun ls hl => ?_)
            refine lv_goto (tgt := 300) hx hb d_Model_words_226 (by decide) ?_
            refine lv_aload_n hx hb d_Model_words_300 rfl (lv_at hl 1 rfl) ?_
            refine va_get (D := (dC, dI)) (ci := 10) (v := .int (I 35)) (C := R_Model) (T := F_Model) (N := 54) hx hb hg i_Model hown hK hP 0 rfl rfl 35 (by decide) (hg _ k721) (fun _ h9 => h9) rfl d_Model_words_301 ?_
            refine lv_iload_n hx hb d_Model_words_304 rfl (lv_at hl 0 rfl) ?_
            refine lv_iadd hx hb d_Model_words_305 ?_
            refine lv_aload_n hx hb d_Model_words_306 rfl (lv_at hl 1 rfl) ?_
            refine va_get (D := (dC, dI)) (ci := 10) (v := .int (I 15)) (C := R_Model) (T := F_Model) (N := 54) hx hb hg i_Model hown hK hP 0 rfl rfl 15 (by decide) (hg _ k698) (fun _ h9 => h9) rfl d_Model_words_307 ?_
            refine lv_icmp_le (tgt := 317) hx hb d_Model_words_310 (by decide) (fun c15 => ?_) (fun c15 => ?_)
            · rw [if_pos c15] at h
              refine lv_iload_n hx hb d_Model_words_317 rfl (lv_at hl 0 rfl) ?_
              obtain rfl := Option.some.inj h
              exact W.iret (v := 2) hx hb hr (fun t ht hW => ⟨_, rfl, rfl, ht⟩) (fun _ h => by cases h) d_Model_words_318
            · rw [if_neg c15] at h
              refine lv_iconst (v := 0) hx hb d_Model_words_313 (by decide) ?_
              refine lv_goto (tgt := 318) hx hb d_Model_words_314 (by decide) ?_
              obtain rfl := Option.some.inj h
              exact W.iret (v := 0) hx hb hr (fun t ht hW => ⟨_, rfl, rfl, ht⟩) (fun _ h => by cases h) d_Model_words_318
          rw [if_neg s8_7] at h
          by_cases s8_8 : ((F 14) (I 35).toNatClampNeg) = 8
          · rw [if_pos s8_8] at h
            refine lv_tableIn (off := 243) (tgt := 300) hx hb d_Model_words_57 (by rw [s8_8]; decide) (by rw [s8_8]; decide) (by rw [s8_8]; decide) (by decide) ?_
            refine lv_aload_n hx hb d_Model_words_300 rfl (lv_at hl 1 rfl) ?_
            refine va_get (D := (dC, dI)) (ci := 10) (v := .int (I 35)) (C := R_Model) (T := F_Model) (N := 54) hx hb hg i_Model hown hK hP 0 rfl rfl 35 (by decide) (hg _ k721) (fun _ h9 => h9) rfl d_Model_words_301 ?_
            refine lv_iload_n hx hb d_Model_words_304 rfl (lv_at hl 0 rfl) ?_
            refine lv_iadd hx hb d_Model_words_305 ?_
            refine lv_aload_n hx hb d_Model_words_306 rfl (lv_at hl 1 rfl) ?_
            refine va_get (D := (dC, dI)) (ci := 10) (v := .int (I 15)) (C := R_Model) (T := F_Model) (N := 54) hx hb hg i_Model hown hK hP 0 rfl rfl 15 (by decide) (hg _ k698) (fun _ h9 => h9) rfl d_Model_words_307 ?_
            refine lv_icmp_le (tgt := 317) hx hb d_Model_words_310 (by decide) (fun c16 => ?_) (fun c16 => ?_)
            · rw [if_pos c16] at h
              refine lv_iload_n hx hb d_Model_words_317 rfl (lv_at hl 0 rfl) ?_
              obtain rfl := Option.some.inj h
              exact W.iret (v := 1) hx hb hr (fun t ht hW => ⟨_, rfl, rfl, ht⟩) (fun _ h => by cases h) d_Model_words_318
            · rw [if_neg c16] at h
              refine lv_iconst (v := 0) hx hb d_Model_words_313 (by decide) ?_
              refine lv_goto (tgt := 318) hx hb d_Model_words_314 (by decide) ?_
              obtain rfl := Option.some.inj h
              exact W.iret (v := 0) hx hb hr (fun t ht hW => ⟨_, rfl, rfl, ht⟩) (fun _ h => by cases h) d_Model_words_318
          rw [if_neg s8_8] at h
          by_cases s8_9 : ((F 14) (I 35).toNatClampNeg) = 9
          · rw [if_pos s8_9] at h
            refine lv_tableIn (off := 243) (tgt := 300) hx hb d_Model_words_57 (by rw [s8_9]; decide) (by rw [s8_9]; decide) (by rw [s8_9]; decide) (by decide) ?_
            refine lv_aload_n hx hb d_Model_words_300 rfl (lv_at hl 1 rfl) ?_
            refine va_get (D := (dC, dI)) (ci := 10) (v := .int (I 35)) (C := R_Model) (T := F_Model) (N := 54) hx hb hg i_Model hown hK hP 0 rfl rfl 35 (by decide) (hg _ k721) (fun _ h9 => h9) rfl d_Model_words_301 ?_
            refine lv_iload_n hx hb d_Model_words_304 rfl (lv_at hl 0 rfl) ?_
            refine lv_iadd hx hb d_Model_words_305 ?_
            refine lv_aload_n hx hb d_Model_words_306 rfl (lv_at hl 1 rfl) ?_
            refine va_get (D := (dC, dI)) (ci := 10) (v := .int (I 15)) (C := R_Model) (T := F_Model) (N := 54) hx hb hg i_Model hown hK hP 0 rfl rfl 15 (by decide) (hg _ k698) (fun _ h9 => h9) rfl d_Model_words_307 ?_
            refine lv_icmp_le (tgt := 317) hx hb d_Model_words_310 (by decide) (fun c17 => ?_) (fun c17 => ?_)
            · rw [if_pos c17] at h
              refine lv_iload_n hx hb d_Model_words_317 rfl (lv_at hl 0 rfl) ?_
              obtain rfl := Option.some.inj h
              exact W.iret (v := 1) hx hb hr (fun t ht hW => ⟨_, rfl, rfl, ht⟩) (fun _ h => by cases h) d_Model_words_318
            · rw [if_neg c17] at h
              refine lv_iconst (v := 0) hx hb d_Model_words_313 (by decide) ?_
              refine lv_goto (tgt := 318) hx hb d_Model_words_314 (by decide) ?_
              obtain rfl := Option.some.inj h
              exact W.iret (v := 0) hx hb hr (fun t ht hW => ⟨_, rfl, rfl, ht⟩) (fun _ h => by cases h) d_Model_words_318
          rw [if_neg s8_9] at h
          by_cases s8_10 : ((F 14) (I 35).toNatClampNeg) = 10
          · rw [if_pos s8_10] at h
            refine lv_tableIn (off := 167) (tgt := 224) hx hb d_Model_words_57 (by rw [s8_10]; decide) (by rw [s8_10]; decide) (by rw [s8_10]; decide) (by decide) ?_
            refine lv_iconst (v := 2) hx hb d_Model_words_224 (by decide) ?_
            refine lv_istore_n (lv' := [(1, .int 2), (0, .ref o_Model)]) hx hb d_Model_words_225 rfl hl (by decide) rfl (fun ls hl => ?_)
            refine lv_goto (tgt := 300) hx hb d_Model_words_226 (by decide) ?_
            refine lv_aload_n hx hb d_Model_words_300 rfl (lv_at hl 1 rfl) ?_
            refine va_get (D := (dC, dI)) (ci := 10) (v := .int (I 35)) (C := R_Model) (T := F_Model) (N := 54) hx hb hg i_Model hown hK hP 0 rfl rfl 35 (by decide) (hg _ k721) (fun _ h9 => h9) rfl d_Model_words_301 ?_
            refine lv_iload_n hx hb d_Model_words_304 rfl (lv_at hl 0 rfl) ?_
            refine lv_iadd hx hb d_Model_words_305 ?_
            refine lv_aload_n hx hb d_Model_words_306 rfl (lv_at hl 1 rfl) ?_
            refine va_get (D := (dC, dI)) (ci := 10) (v := .int (I 15)) (C := R_Model) (T := F_Model) (N := 54) hx hb hg i_Model hown hK hP 0 rfl rfl 15 (by decide) (hg _ k698) (fun _ h9 => h9) rfl d_Model_words_307 ?_
            refine lv_icmp_le (tgt := 317) hx hb d_Model_words_310 (by decide) (fun c18 => ?_) (fun c18 => ?_)
            · rw [if_pos c18] at h
              refine lv_iload_n hx hb d_Model_words_317 rfl (lv_at hl 0 rfl) ?_
              obtain rfl := Option.some.inj h
              exact W.iret (v := 2) hx hb hr (fun t ht hW => ⟨_, rfl, rfl, ht⟩) (fun _ h => by cases h) d_Model_words_318
            · rw [if_neg c18] at h
              refine lv_iconst (v := 0) hx hb d_Model_words_313 (by decide) ?_
              refine lv_goto (tgt := 318) hx hb d_Model_words_314 (by decide) ?_
              obtain rfl := Option.some.inj h
              exact W.iret (v := 0) hx hb hr (fun t ht hW => ⟨_, rfl, rfl, ht⟩) (fun _ h => by cases h) d_Model_words_318
          rw [if_neg s8_10] at h
          by_cases s8_11 : ((F 14) (I 35).toNatClampNeg) = 11
          · rw [if_pos s8_11] at h
            refine lv_tableIn (off := 167) (tgt := 224) hx hb d_Model_words_57 (by rw [s8_11]; decide) (by rw [s8_11]; decide) (by rw [s8_11]; decide) (by decide) ?_
            refine lv_iconst (v := 2) hx hb d_Model_words_224 (by decide) ?_
            refine lv_istore_n (lv' := [(1, .int 2), (0, .ref o_Model)]) hx hb d_Model_words_225 rfl hl (by decide) rfl (fun ls hl => ?_)
            refine lv_goto (tgt := 300) hx hb d_Model_words_226 (by decide) ?_
            refine lv_aload_n hx hb d_Model_words_300 rfl (lv_at hl 1 rfl) ?_
            refine va_get (D := (dC, dI)) (ci := 10) (v := .int (I 35)) (C := R_Model) (T := F_Model) (N := 54) hx hb hg i_Model hown hK hP 0 rfl rfl 35 (by decide) (hg _ k721) (fun _ h9 => h9) rfl d_Model_words_301 ?_
            refine lv_iload_n hx hb d_Model_words_304 rfl (lv_at hl 0 rfl) ?_
            refine lv_iadd hx hb d_Model_words_305 ?_
            refine lv_aload_n hx hb d_Model_words_306 rfl (lv_at hl 1 rfl) ?_
            refine va_get (D := (dC, dI)) (ci := 10) (v := .int (I 15)) (C := R_Model) (T := F_Model) (N := 54) hx hb hg i_Model hown hK hP 0 rfl rfl 15 (by decide) (hg _ k698) (fun _ h9 => h9) rfl d_Model_words_307 ?_
            refine lv_icmp_le (tgt := 317) hx hb d_Model_words_310 (by decide) (fun c19 => ?_) (fun c19 => ?_)
            · rw [if_pos c19] at h
              refine lv_iload_n hx hb d_Model_words_317 rfl (lv_at hl 0 rfl) ?_
              obtain rfl := Option.some.inj h
              exact W.iret (v := 2) hx hb hr (fun t ht hW => ⟨_, rfl, rfl, ht⟩) (fun _ h => by cases h) d_Model_words_318
            · rw [if_neg c19] at h
              refine lv_iconst (v := 0) hx hb d_Model_words_313 (by decide) ?_
              refine lv_goto (tgt := 318) hx hb d_Model_words_314 (by decide) ?_
              obtain rfl := Option.some.inj h
              exact W.iret (v := 0) hx hb hr (fun t ht hW => ⟨_, rfl, rfl, ht⟩) (fun _ h => by cases h) d_Model_words_318
          rw [if_neg s8_11] at h
          by_cases s8_12 : ((F 14) (I 35).toNatClampNeg) = 12
          · rw [if_pos s8_12] at h
            refine lv_tableIn (off := 167) (tgt := 224) hx hb d_Model_words_57 (by rw [s8_12]; decide) (by rw [s8_12]; decide) (by rw [s8_12]; decide) (by decide) ?_
            refine lv_iconst (v := 2) hx hb d_Model_words_224 (by decide) ?_
            refine lv_istore_n (lv' := [(1, .int 2), (0, .ref o_Model)]) hx hb d_Model_words_225 rfl hl (by decide) rfl (fun ls hl => ?_)
            refine lv_goto (tgt := 300) hx hb d_Model_words_226 (by decide) ?_
            refine lv_aload_n hx hb d_Model_words_300 rfl (lv_at hl 1 rfl) ?_
            refine va_get (D := (dC, dI)) (ci := 10) (v := .int (I 35)) (C := R_Model) (T := F_Model) (N := 54) hx hb hg i_Model hown hK hP 0 rfl rfl 35 (by decide) (hg _ k721) (fun _ h9 => h9) rfl d_Model_words_301 ?_
            refine lv_iload_n hx hb d_Model_words_304 rfl (lv_at hl 0 rfl) ?_
            refine lv_iadd hx hb d_Model_words_305 ?_
            refine lv_aload_n hx hb d_Model_words_306 rfl (lv_at hl 1 rfl) ?_
            refine va_get (D := (dC, dI)) (ci := 10) (v := .int (I 15)) (C := R_Model) (T := F_Model) (N := 54) hx hb hg i_Model hown hK hP 0 rfl rfl 15 (by decide) (hg _ k698) (fun _ h9 => h9) rfl d_Model_words_307 ?_
            refine lv_icmp_le (tgt := 317) hx hb d_Model_words_310 (by decide) (fun c20 => ?_) (fun c20 => ?_)
            · rw [if_pos c20] at h
              refine lv_iload_n hx hb d_Model_words_317 rfl (lv_at hl 0 rfl) ?_
              obtain rfl := Option.some.inj h
              exact W.iret (v := 2) hx hb hr (fun t ht hW => ⟨_, rfl, rfl, ht⟩) (fun _ h => by cases h) d_Model_words_318
            · rw [if_neg c20] at h
              refine lv_iconst (v := 0) hx hb d_Model_words_313 (by decide) ?_
              refine lv_goto (tgt := 318) hx hb d_Model_words_314 (by decide) ?_
              obtain rfl := Option.some.inj h
              exact W.iret (v := 0) hx hb hr (fun t ht hW => ⟨_, rfl, rfl, ht⟩) (fun _ h => by cases h) d_Model_words_318
          rw [if_neg s8_12] at h
          by_cases s8_13 : ((F 14) (I 35).toNatClampNeg) = 13
          · rw [if_pos s8_13] at h
            refine lv_tableIn (off := 243) (tgt := 300) hx hb d_Model_words_57 (by rw [s8_13]; decide) (by rw [s8_13]; decide) (by rw [s8_13]; decide) (by decide) ?_
            refine lv_aload_n hx hb d_Model_words_300 rfl (lv_at hl 1 rfl) ?_
            refine va_get (D := (dC, dI)) (ci := 10) (v := .int (I 35)) (C := R_Model) (T := F_Model) (N := 54) hx hb hg i_Model hown hK hP 0 rfl rfl 35 (by decide) (hg _ k721) (fun _ h9 => h9) rfl d_Model_words_301 ?_
            refine lv_iload_n hx hb d_Model_words_304 rfl (lv_at hl 0 rfl) ?_
            refine lv_iadd hx hb d_Model_words_305 ?_
            refine lv_aload_n hx hb d_Model_words_306 rfl (lv_at hl 1 rfl) ?_
            refine va_get (D := (dC, dI)) (ci := 10) (v := .int (I 15)) (C := R_Model) (T := F_Model) (N := 54) hx hb hg i_Model hown hK hP 0 rfl rfl 15 (by decide) (hg _ k698) (fun _ h9 => h9) rfl d_Model_words_307 ?_
            refine lv_icmp_le (tgt := 317) hx hb d_Model_words_310 (by decide) (fun c21 => ?_) (fun c21 => ?_)
            · rw [if_pos c21] at h
              refine lv_iload_n hx hb d_Model_words_317 rfl (lv_at hl 0 rfl) ?_
              obtain rfl := Option.some.inj h
              exact W.iret (v := 1) hx hb hr (fun t ht hW => ⟨_, rfl, rfl, ht⟩) (fun _ h => by cases h) d_Model_words_318
            · rw [if_neg c21] at h
              refine lv_iconst (v := 0) hx hb d_Model_words_313 (by decide) ?_
              refine lv_goto (tgt := 318) hx hb d_Model_words_314 (by decide) ?_
              obtain rfl := Option.some.inj h
              exact W.iret (v := 0) hx hb hr (fun t ht hW => ⟨_, rfl, rfl, ht⟩) (fun _ h => by cases h) d_Model_words_318
          rw [if_neg s8_13] at h
          by_cases s8_14 : ((F 14) (I 35).toNatClampNeg) = 14
          · rw [if_pos s8_14] at h
            refine lv_tableIn (off := 243) (tgt := 300) hx hb d_Model_words_57 (by rw [s8_14]; decide) (by rw [s8_14]; decide) (by rw [s8_14]; decide) (by decide) ?_
            refine lv_aload_n hx hb d_Model_words_300 rfl (lv_at hl 1 rfl) ?_
            refine va_get (D := (dC, dI)) (ci := 10) (v := .int (I 35)) (C := R_Model) (T := F_Model) (N := 54) hx hb hg i_Model hown hK hP 0 rfl rfl 35 (by decide) (hg _ k721) (fun _ h9 => h9) rfl d_Model_words_301 ?_
            refine lv_iload_n hx hb d_Model_words_304 rfl (lv_at hl 0 rfl) ?_
            refine lv_iadd hx hb d_Model_words_305 ?_
            refine lv_aload_n hx hb d_Model_words_306 rfl (lv_at hl 1 rfl) ?_
            refine va_get (D := (dC, dI)) (ci := 10) (v := .int (I 15)) (C := R_Model) (T := F_Model) (N := 54) hx hb hg i_Model hown hK hP 0 rfl rfl 15 (by decide) (hg _ k698) (fun _ h9 => h9) rfl d_Model_words_307 ?_
            refine lv_icmp_le (tgt := 317) hx hb d_Model_words_310 (by decide) (fun c22 => ?_) (fun c22 => ?_)
            · rw [if_pos c22] at h
              refine lv_iload_n hx hb d_Model_words_317 rfl (lv_at hl 0 rfl) ?_
              obtain rfl := Option.some.inj h
              exact W.iret (v := 1) hx hb hr (fun t ht hW => ⟨_, rfl, rfl, ht⟩) (fun _ h => by cases h) d_Model_words_318
            · rw [if_neg c22] at h
              refine lv_iconst (v := 0) hx hb d_Model_words_313 (by decide) ?_
              refine lv_goto (tgt := 318) hx hb d_Model_words_314 (by decide) ?_
              obtain rfl := Option.some.inj h
              exact W.iret (v := 0) hx hb hr (fun t ht hW => ⟨_, rfl, rfl, ht⟩) (fun _ h => by cases h) d_Model_words_318
          rw [if_neg s8_14] at h
          by_cases s8_15 : ((F 14) (I 35).toNatClampNeg) = 15
          · rw [if_pos s8_15] at h
            refine lv_tableIn (off := 172) (tgt := 229) hx hb d_Model_words_57 (by rw [s8_15]; decide) (by rw [s8_15]; decide) (by rw [s8_15]; decide) (by decide) ?_
            refine lv_iconst (v := 3) hx hb d_Model_words_229 (by decide) ?_
            refine lv_istore_n (lv' := [(1, .int 3), (0, .ref o_Model)]) hx hb d_Model_words_230 rfl hl (by decide) rfl (fun ls hl => ?_)
            refine lv_goto (tgt := 300) hx hb d_Model_words_231 (by decide) ?_
            refine lv_aload_n hx hb d_Model_words_300 rfl (lv_at hl 1 rfl) ?_
            refine va_get (D := (dC, dI)) (ci := 10) (v := .int (I 35)) (C := R_Model) (T := F_Model) (N := 54) hx hb hg i_Model hown hK hP 0 rfl rfl 35 (by decide) (hg _ k721) (fun _ h9 => h9) rfl d_Model_words_301 ?_
            refine lv_iload_n hx hb d_Model_words_304 rfl (lv_at hl 0 rfl) ?_
            refine lv_iadd hx hb d_Model_words_305 ?_
            refine lv_aload_n hx hb d_Model_words_306 rfl (lv_at hl 1 rfl) ?_
            refine va_get (D := (dC, dI)) (ci := 10) (v := .int (I 15)) (C := R_Model) (T := F_Model) (N := 54) hx hb hg i_Model hown hK hP 0 rfl rfl 15 (by decide) (hg _ k698) (fun _ h9 => h9) rfl d_Model_words_307 ?_
            refine lv_icmp_le (tgt := 317) hx hb d_Model_words_310 (by decide) (fun c23 => ?_) (fun c23 => ?_)
            · rw [if_pos c23] at h
              refine lv_iload_n hx hb d_Model_words_317 rfl (lv_at hl 0 rfl) ?_
              obtain rfl := Option.some.inj h
              exact W.iret (v := 3) hx hb hr (fun t ht hW => ⟨_, rfl, rfl, ht⟩) (fun _ h => by cases h) d_Model_words_318
            · rw [if_neg c23] at h
              refine lv_iconst (v := 0) hx hb d_Model_words_313 (by decide) ?_
              refine lv_goto (tgt := 318) hx hb d_Model_words_314 (by decide) ?_
              obtain rfl := Option.some.inj h
              exact W.iret (v := 0) hx hb hr (fun t ht hW => ⟨_, rfl, rfl, ht⟩) (fun _ h => by cases h) d_Model_words_318
          rw [if_neg s8_15] at h
          by_cases s8_16 : ((F 14) (I 35).toNatClampNeg) = 16
          · rw [if_pos s8_16] at h
            refine lv_tableIn (off := 167) (tgt := 224) hx hb d_Model_words_57 (by rw [s8_16]; decide) (by rw [s8_16]; decide) (by rw [s8_16]; decide) (by decide) ?_
            refine lv_iconst (v := 2) hx hb d_Model_words_224 (by decide) ?_
            refine lv_istore_n (lv' := [(1, .int 2), (0, .ref o_Model)]) hx hb d_Model_words_225 rfl hl (by decide) rfl (fun ls hl => ?_)
            refine lv_goto (tgt := 300) hx hb d_Model_words_226 (by decide) ?_
            refine lv_aload_n hx hb d_Model_words_300 rfl (lv_at hl 1 rfl) ?_
            refine va_get (D := (dC, dI)) (ci := 10) (v := .int (I 35)) (C := R_Model) (T := F_Model) (N := 54) hx hb hg i_Model hown hK hP 0 rfl rfl 35 (by decide) (hg _ k721) (fun _ h9 => h9) rfl d_Model_words_301 ?_
            refine lv_iload_n hx hb d_Model_words_304 rfl (lv_at hl 0 rfl) ?_
            refine lv_iadd hx hb d_Model_words_305 ?_
            refine lv_aload_n hx hb d_Model_words_306 rfl (lv_at hl 1 rfl) ?_
            refine va_get (D := (dC, dI)) (ci := 10) (v := .int (I 15)) (C := R_Model) (T := F_Model) (N := 54) hx hb hg i_Model hown hK hP 0 rfl rfl 15 (by decide) (hg _ k698) (fun _ h9 => h9) rfl d_Model_words_307 ?_
            refine lv_icmp_le (tgt := 317) hx hb d_Model_words_310 (by decide) (fun c24 => ?_) (fun c24 => ?_)
            · rw [if_pos c24] at h
              refine lv_iload_n hx hb d_Model_words_317 rfl (lv_at hl 0 rfl) ?_
              obtain rfl := Option.some.inj h
              exact W.iret (v := 2) hx hb hr (fun t ht hW => ⟨_, rfl, rfl, ht⟩) (fun _ h => by cases h) d_Model_words_318
            · rw [if_neg c24] at h
              refine lv_iconst (v := 0) hx hb d_Model_words_313 (by decide) ?_
              refine lv_goto (tgt := 318) hx hb d_Model_words_314 (by decide) ?_
              obtain rfl := Option.some.inj h
              exact W.iret (v := 0) hx hb hr (fun t ht hW => ⟨_, rfl, rfl, ht⟩) (fun _ h => by cases h) d_Model_words_318
          rw [if_neg s8_16] at h
          by_cases s8_17 : ((F 14) (I 35).toNatClampNeg) = 17
          · rw [if_pos s8_17] at h
            refine lv_tableIn (off := 243) (tgt := 300) hx hb d_Model_words_57 (by rw [s8_17]; decide) (by rw [s8_17]; decide) (by rw [s8_17]; decide) (by decide) ?_
            refine lv_aload_n hx hb d_Model_words_300 rfl (lv_at hl 1 rfl) ?_
            refine va_get (D := (dC, dI)) (ci := 10) (v := .int (I 35)) (C := R_Model) (T := F_Model) (N := 54) hx hb hg i_Model hown hK hP 0 rfl rfl 35 (by decide) (hg _ k721) (fun _ h9 => h9) rfl d_Model_words_301 ?_
            refine lv_iload_n hx hb d_Model_words_304 rfl (lv_at hl 0 rfl) ?_
            refine lv_iadd hx hb d_Model_words_305 ?_
            refine lv_aload_n hx hb d_Model_words_306 rfl (lv_at hl 1 rfl) ?_
            refine va_get (D := (dC, dI)) (ci := 10) (v := .int (I 15)) (C := R_Model) (T := F_Model) (N := 54) hx hb hg i_Model hown hK hP 0 rfl rfl 15 (by decide) (hg _ k698) (fun _ h9 => h9) rfl d_Model_words_307 ?_
            refine lv_icmp_le (tgt := 317) hx hb d_Model_words_310 (by decide) (fun c25 => ?_) (fun c25 => ?_)
            · rw [if_pos c25] at h
              refine lv_iload_n hx hb d_Model_words_317 rfl (lv_at hl 0 rfl) ?_
              obtain rfl := Option.some.inj h
              exact W.iret (v := 1) hx hb hr (fun t ht hW => ⟨_, rfl, rfl, ht⟩) (fun _ h => by cases h) d_Model_words_318
            · rw [if_neg c25] at h
              refine lv_iconst (v := 0) hx hb d_Model_words_313 (by decide) ?_
              refine lv_goto (tgt := 318) hx hb d_Model_words_314 (by decide) ?_
              obtain rfl := Option.some.inj h
              exact W.iret (v := 0) hx hb hr (fun t ht hW => ⟨_, rfl, rfl, ht⟩) (fun _ h => by cases h) d_Model_words_318
          rw [if_neg s8_17] at h
          by_cases s8_18 : ((F 14) (I 35).toNatClampNeg) = 18
          · rw [if_pos s8_18] at h
            refine lv_tableIn (off := 243) (tgt := 300) hx hb d_Model_words_57 (by rw [s8_18]; decide) (by rw [s8_18]; decide) (by rw [s8_18]; decide) (by decide) ?_
            refine lv_aload_n hx hb d_Model_words_300 rfl (lv_at hl 1 rfl) ?_
            refine va_get (D := (dC, dI)) (ci := 10) (v := .int (I 35)) (C := R_Model) (T := F_Model) (N := 54) hx hb hg i_Model hown hK hP 0 rfl rfl 35 (by decide) (hg _ k721) (fun _ h9 => h9) rfl d_Model_words_301 ?_
            refine lv_iload_n hx hb d_Model_words_304 rfl (lv_at hl 0 rfl) ?_
            refine lv_iadd hx hb d_Model_words_305 ?_
            refine lv_aload_n hx hb d_Model_words_306 rfl (lv_at hl 1 rfl) ?_
            refine va_get (D := (dC, dI)) (ci := 10) (v := .int (I 15)) (C := R_Model) (T := F_Model) (N := 54) hx hb hg i_Model hown hK hP 0 rfl rfl 15 (by decide) (hg _ k698) (fun _ h9 => h9) rfl d_Model_words_307 ?_
            refine lv_icmp_le (tgt := 317) hx hb d_Model_words_310 (by decide) (fun c26 => ?_) (fun c26 => ?_)
            · rw [if_pos c26] at h
              refine lv_iload_n hx hb d_Model_words_317 rfl (lv_at hl 0 rfl) ?_
              obtain rfl := Option.some.inj h
              exact W.iret (v := 1) hx hb hr (fun t ht hW => ⟨_, rfl, rfl, ht⟩) (fun _ h => by cases h) d_Model_words_318
            · rw [if_neg c26] at h
              refine lv_iconst (v := 0) hx hb d_Model_words_313 (by decide) ?_
              refine lv_goto (tgt := 318) hx hb d_Model_words_314 (by decide) ?_
              obtain rfl := Option.some.inj h
              exact W.iret (v := 0) hx hb hr (fun t ht hW => ⟨_, rfl, rfl, ht⟩) (fun _ h => by cases h) d_Model_words_318
          rw [if_neg s8_18] at h
          by_cases s8_19 : ((F 14) (I 35).toNatClampNeg) = 19
          · rw [if_pos s8_19] at h
            refine lv_tableIn (off := 243) (tgt := 300) hx hb d_Model_words_57 (by rw [s8_19]; decide) (by rw [s8_19]; decide) (by rw [s8_19]; decide) (by decide) ?_
            refine lv_aload_n hx hb d_Model_words_300 rfl (lv_at hl 1 rfl) ?_
            refine va_get (D := (dC, dI)) (ci := 10) (v := .int (I 35)) (C := R_Model) (T := F_Model) (N := 54) hx hb hg i_Model hown hK hP 0 rfl rfl 35 (by decide) (hg _ k721) (fun _ h9 => h9) rfl d_Model_words_301 ?_
            refine lv_iload_n hx hb d_Model_words_304 rfl (lv_at hl 0 rfl) ?_
            refine lv_iadd hx hb d_Model_words_305 ?_
            refine lv_aload_n hx hb d_Model_words_306 rfl (lv_at hl 1 rfl) ?_
            refine va_get (D := (dC, dI)) (ci := 10) (v := .int (I 15)) (C := R_Model) (T := F_Model) (N := 54) hx hb hg i_Model hown hK hP 0 rfl rfl 15 (by decide) (hg _ k698) (fun _ h9 => h9) rfl d_Model_words_307 ?_
            refine lv_icmp_le (tgt := 317) hx hb d_Model_words_310 (by decide) (fun c27 => ?_) (fun c27 => ?_)
            · rw [if_pos c27] at h
              refine lv_iload_n hx hb d_Model_words_317 rfl (lv_at hl 0 rfl) ?_
              obtain rfl := Option.some.inj h
              exact W.iret (v := 1) hx hb hr (fun t ht hW => ⟨_, rfl, rfl, ht⟩) (fun _ h => by cases h) d_Model_words_318
            · rw [if_neg c27] at h
              refine lv_iconst (v := 0) hx hb d_Model_words_313 (by decide) ?_
              refine lv_goto (tgt := 318) hx hb d_Model_words_314 (by decide) ?_
              obtain rfl := Option.some.inj h
              exact W.iret (v := 0) hx hb hr (fun t ht hW => ⟨_, rfl, rfl, ht⟩) (fun _ h => by cases h) d_Model_words_318
          rw [if_neg s8_19] at h
          by_cases s8_20 : ((F 14) (I 35).toNatClampNeg) = 20
          · rw [if_pos s8_20] at h
            refine lv_tableIn (off := 167) (tgt := 224) hx hb d_Model_words_57 (by rw [s8_20]; decide) (by rw [s8_20]; decide) (by rw [s8_20]; decide) (by decide) ?_
            refine lv_iconst (v := 2) hx hb d_Model_words_224 (by decide) ?_
            refine lv_istore_n (lv' := [(1, .int 2), (0, .ref o_Model)]) hx hb d_Model_words_225 rfl hl (by decide) rfl (fun ls hl => ?_)
            refine lv_goto (tgt := 300) hx hb d_Model_words_226 (by decide) ?_
            refine lv_aload_n hx hb d_Model_words_300 rfl (lv_at hl 1 rfl) ?_
            refine va_get (D := (dC, dI)) (ci := 10) (v := .int (I 35)) (C := R_Model) (T := F_Model) (N := 54) hx hb hg i_Model hown hK hP 0 rfl rfl 35 (by decide) (hg _ k721) (fun _ h9 => h9) rfl d_Model_words_301 ?_
            refine lv_iload_n hx hb d_Model_words_304 rfl (lv_at hl 0 rfl) ?_
            refine lv_iadd hx hb d_Model_words_305 ?_
            refine lv_aload_n hx hb d_Model_words_306 rfl (lv_at hl 1 rfl) ?_
            refine va_get (D := (dC, dI)) (ci := 10) (v := .int (I 15)) (C := R_Model) (T := F_Model) (N := 54) hx hb hg i_Model hown hK hP 0 rfl rfl 15 (by decide) (hg _ k698) (fun _ h9 => h9) rfl d_Model_words_307 ?_
            refine lv_icmp_le (tgt := 317) hx hb d_Model_words_310 (by decide) (fun c28 => ?_) (fun c28 => ?_)
            · rw [if_pos c28] at h
              refine lv_iload_n hx hb d_Model_words_317 rfl (lv_at hl 0 rfl) ?_
              obtain rfl := Option.some.inj h
              exact W.iret (v := 2) hx hb hr (fun t ht hW => ⟨_, rfl, rfl, ht⟩) (fun _ h => by cases h) d_Model_words_318
            · rw [if_neg c28] at h
              refine lv_iconst (v := 0) hx hb d_Model_words_313 (by decide) ?_
              refine lv_goto (tgt := 318) hx hb d_Model_words_314 (by decide) ?_
              obtain rfl := Option.some.inj h
              exact W.iret (v := 0) hx hb hr (fun t ht hW => ⟨_, rfl, rfl, ht⟩) (fun _ h => by cases h) d_Model_words_318
          rw [if_neg s8_20] at h
          by_cases s8_21 : ((F 14) (I 35).toNatClampNeg) = 21
          · rw [if_pos s8_21] at h
            refine lv_tableIn (off := 167) (tgt := 224) hx hb d_Model_words_57 (by rw [s8_21]; decide) (by rw [s8_21]; decide) (by rw [s8_21]; decide) (by decide) ?_
            refine lv_iconst (v := 2) hx hb d_Model_words_224 (by decide) ?_
            refine lv_istore_n (lv' := [(1, .int 2), (0, .ref o_Model)]) hx hb d_Model_words_225 rfl hl (by decide) rfl (fun ls hl => ?_)
            refine lv_goto (tgt := 300) hx hb d_Model_words_226 (by decide) ?_
            refine lv_aload_n hx hb d_Model_words_300 rfl (lv_at hl 1 rfl) ?_
            refine va_get (D := (dC, dI)) (ci := 10) (v := .int (I 35)) (C := R_Model) (T := F_Model) (N := 54) hx hb hg i_Model hown hK hP 0 rfl rfl 35 (by decide) (hg _ k721) (fun _ h9 => h9) rfl d_Model_words_301 ?_
            refine lv_iload_n hx hb d_Model_words_304 rfl (lv_at hl 0 rfl) ?_
            refine lv_iadd hx hb d_Model_words_305 ?_
            refine lv_aload_n hx hb d_Model_words_306 rfl (lv_at hl 1 rfl) ?_
            refine va_get (D := (dC, dI)) (ci := 10) (v := .int (I 15)) (C := R_Model) (T := F_Model) (N := 54) hx hb hg i_Model hown hK hP 0 rfl rfl 15 (by decide) (hg _ k698) (fun _ h9 => h9) rfl d_Model_words_307 ?_
            refine lv_icmp_le (tgt := 317) hx hb d_Model_words_310 (by decide) (fun c29 => ?_) (fun c29 => ?_)
            · rw [if_pos c29] at h
              refine lv_iload_n hx hb d_Model_words_317 rfl (lv_at hl 0 rfl) ?_
              obtain rfl := Option.some.inj h
              exact W.iret (v := 2) hx hb hr (fun t ht hW => ⟨_, rfl, rfl, ht⟩) (fun _ h => by cases h) d_Model_words_318
            · rw [if_neg c29] at h
              refine lv_iconst (v := 0) hx hb d_Model_words_313 (by decide) ?_
              refine lv_goto (tgt := 318) hx hb d_Model_words_314 (by decide) ?_
              obtain rfl := Option.some.inj h
              exact W.iret (v := 0) hx hb hr (fun t ht hW => ⟨_, rfl, rfl, ht⟩) (fun _ h => by cases h) d_Model_words_318
          rw [if_neg s8_21] at h
          by_cases s8_22 : ((F 14) (I 35).toNatClampNeg) = 22
          · rw [if_pos s8_22] at h
            refine lv_tableIn (off := 177) (tgt := 234) hx hb d_Model_words_57 (by rw [s8_22]; decide) (by rw [s8_22]; decide) (by rw [s8_22]; decide) (by decide) ?_
            refine l_Model_words_1 dC dI N cB cI o_Model r I F hx hb hml hown hg hN hK hP (fun y1_0 ls h hl => ?_)  _ h (lv_sub hl [0, 1] rfl)
            refine lv_istore_n (lv' := [(1, .int y1_0), (0, .ref o_Model)]) hx hb d_Model_words_296 rfl hl (by decide) rfl (fun ls hl => ?_)
            refine lv_goto (tgt := 300) hx hb d_Model_words_297 (by decide) ?_
            refine lv_aload_n hx hb d_Model_words_300 rfl (lv_at hl 1 rfl) ?_
            refine va_get (D := (dC, dI)) (ci := 10) (v := .int (I 35)) (C := R_Model) (T := F_Model) (N := 54) hx hb hg i_Model hown hK hP 0 rfl rfl 35 (by decide) (hg _ k721) (fun _ h9 => h9) rfl d_Model_words_301 ?_
            refine lv_iload_n hx hb d_Model_words_304 rfl (lv_at hl 0 rfl) ?_
            refine lv_iadd hx hb d_Model_words_305 ?_
            refine lv_aload_n hx hb d_Model_words_306 rfl (lv_at hl 1 rfl) ?_
            refine va_get (D := (dC, dI)) (ci := 10) (v := .int (I 15)) (C := R_Model) (T := F_Model) (N := 54) hx hb hg i_Model hown hK hP 0 rfl rfl 15 (by decide) (hg _ k698) (fun _ h9 => h9) rfl d_Model_words_307 ?_
            refine lv_icmp_le (tgt := 317) hx hb d_Model_words_310 (by decide) (fun c36 => ?_) (fun c36 => ?_)
            · rw [if_pos c36] at h
              refine lv_iload_n hx hb d_Model_words_317 rfl (lv_at hl 0 rfl) ?_
              obtain rfl := Option.some.inj h
              exact W.iret (v := y1_0) hx hb hr (fun t ht hW => ⟨_, rfl, rfl, ht⟩) (fun _ h => by cases h) d_Model_words_318
            · rw [if_neg c36] at h
              refine lv_iconst (v := 0) hx hb d_Model_words_313 (by decide) ?_
              refine lv_goto (tgt := 318) hx hb d_Model_words_314 (by decide) ?_
              obtain rfl := Option.some.inj h
              exact W.iret (v := 0) hx hb hr (fun t ht hW => ⟨_, rfl, rfl, ht⟩) (fun _ h => by cases h) d_Model_words_318
          rw [if_neg s8_22] at h
          by_cases s8_23 : ((F 14) (I 35).toNatClampNeg) = 23
          · rw [if_pos s8_23] at h
            refine lv_tableIn (off := 243) (tgt := 300) hx hb d_Model_words_57 (by rw [s8_23]; decide) (by rw [s8_23]; decide) (by rw [s8_23]; decide) (by decide) ?_
            refine lv_aload_n hx hb d_Model_words_300 rfl (lv_at hl 1 rfl) ?_
            refine va_get (D := (dC, dI)) (ci := 10) (v := .int (I 35)) (C := R_Model) (T := F_Model) (N := 54) hx hb hg i_Model hown hK hP 0 rfl rfl 35 (by decide) (hg _ k721) (fun _ h9 => h9) rfl d_Model_words_301 ?_
            refine lv_iload_n hx hb d_Model_words_304 rfl (lv_at hl 0 rfl) ?_
            refine lv_iadd hx hb d_Model_words_305 ?_
            refine lv_aload_n hx hb d_Model_words_306 rfl (lv_at hl 1 rfl) ?_
            refine va_get (D := (dC, dI)) (ci := 10) (v := .int (I 15)) (C := R_Model) (T := F_Model) (N := 54) hx hb hg i_Model hown hK hP 0 rfl rfl 15 (by decide) (hg _ k698) (fun _ h9 => h9) rfl d_Model_words_307 ?_
            refine lv_icmp_le (tgt := 317) hx hb d_Model_words_310 (by decide) (fun c37 => ?_) (fun c37 => ?_)
            · rw [if_pos c37] at h
              refine lv_iload_n hx hb d_Model_words_317 rfl (lv_at hl 0 rfl) ?_
              obtain rfl := Option.some.inj h
              exact W.iret (v := 1) hx hb hr (fun t ht hW => ⟨_, rfl, rfl, ht⟩) (fun _ h => by cases h) d_Model_words_318
            · rw [if_neg c37] at h
              refine lv_iconst (v := 0) hx hb d_Model_words_313 (by decide) ?_
              refine lv_goto (tgt := 318) hx hb d_Model_words_314 (by decide) ?_
              obtain rfl := Option.some.inj h
              exact W.iret (v := 0) hx hb hr (fun t ht hW => ⟨_, rfl, rfl, ht⟩) (fun _ h => by cases h) d_Model_words_318
          rw [if_neg s8_23] at h
          by_cases s8_24 : ((F 14) (I 35).toNatClampNeg) = 24
          · rw [if_pos s8_24] at h
            refine lv_tableIn (off := 243) (tgt := 300) hx hb d_Model_words_57 (by rw [s8_24]; decide) (by rw [s8_24]; decide) (by rw [s8_24]; decide) (by decide) ?_
            refine lv_aload_n hx hb d_Model_words_300 rfl (lv_at hl 1 rfl) ?_
            refine va_get (D := (dC, dI)) (ci := 10) (v := .int (I 35)) (C := R_Model) (T := F_Model) (N := 54) hx hb hg i_Model hown hK hP 0 rfl rfl 35 (by decide) (hg _ k721) (fun _ h9 => h9) rfl d_Model_words_301 ?_
            refine lv_iload_n hx hb d_Model_words_304 rfl (lv_at hl 0 rfl) ?_
            refine lv_iadd hx hb d_Model_words_305 ?_
            refine lv_aload_n hx hb d_Model_words_306 rfl (lv_at hl 1 rfl) ?_
            refine va_get (D := (dC, dI)) (ci := 10) (v := .int (I 15)) (C := R_Model) (T := F_Model) (N := 54) hx hb hg i_Model hown hK hP 0 rfl rfl 15 (by decide) (hg _ k698) (fun _ h9 => h9) rfl d_Model_words_307 ?_
            refine lv_icmp_le (tgt := 317) hx hb d_Model_words_310 (by decide) (fun c38 => ?_) (fun c38 => ?_)
            · rw [if_pos c38] at h
              refine lv_iload_n hx hb d_Model_words_317 rfl (lv_at hl 0 rfl) ?_
              obtain rfl := Option.some.inj h
              exact W.iret (v := 1) hx hb hr (fun t ht hW => ⟨_, rfl, rfl, ht⟩) (fun _ h => by cases h) d_Model_words_318
            · rw [if_neg c38] at h
              refine lv_iconst (v := 0) hx hb d_Model_words_313 (by decide) ?_
              refine lv_goto (tgt := 318) hx hb d_Model_words_314 (by decide) ?_
              obtain rfl := Option.some.inj h
              exact W.iret (v := 0) hx hb hr (fun t ht hW => ⟨_, rfl, rfl, ht⟩) (fun _ h => by cases h) d_Model_words_318
          rw [if_neg s8_24] at h
          by_cases s8_25 : ((F 14) (I 35).toNatClampNeg) = 25
          · rw [if_pos s8_25] at h
            refine lv_tableIn (off := 243) (tgt := 300) hx hb d_Model_words_57 (by rw [s8_25]; decide) (by rw [s8_25]; decide) (by rw [s8_25]; decide) (by decide) ?_
            refine lv_aload_n hx hb d_Model_words_300 rfl (lv_at hl 1 rfl) ?_
            refine va_get (D := (dC, dI)) (ci := 10) (v := .int (I 35)) (C := R_Model) (T := F_Model) (N := 54) hx hb hg i_Model hown hK hP 0 rfl rfl 35 (by decide) (hg _ k721) (fun _ h9 => h9) rfl d_Model_words_301 ?_
            refine lv_iload_n hx hb d_Model_words_304 rfl (lv_at hl 0 rfl) ?_
            refine lv_iadd hx hb d_Model_words_305 ?_
            refine lv_aload_n hx hb d_Model_words_306 rfl (lv_at hl 1 rfl) ?_
            refine va_get (D := (dC, dI)) (ci := 10) (v := .int (I 15)) (C := R_Model) (T := F_Model) (N := 54) hx hb hg i_Model hown hK hP 0 rfl rfl 15 (by decide) (hg _ k698) (fun _ h9 => h9) rfl d_Model_words_307 ?_
            refine lv_icmp_le (tgt := 317) hx hb d_Model_words_310 (by decide) (fun c39 => ?_) (fun c39 => ?_)
            · rw [if_pos c39] at h
              refine lv_iload_n hx hb d_Model_words_317 rfl (lv_at hl 0 rfl) ?_
              obtain rfl := Option.some.inj h
              exact W.iret (v := 1) hx hb hr (fun t ht hW => ⟨_, rfl, rfl, ht⟩) (fun _ h => by cases h) d_Model_words_318
            · rw [if_neg c39] at h
              refine lv_iconst (v := 0) hx hb d_Model_words_313 (by decide) ?_
              refine lv_goto (tgt := 318) hx hb d_Model_words_314 (by decide) ?_
              obtain rfl := Option.some.inj h
              exact W.iret (v := 0) hx hb hr (fun t ht hW => ⟨_, rfl, rfl, ht⟩) (fun _ h => by cases h) d_Model_words_318
          rw [if_neg s8_25] at h
          by_cases s8_26 : ((F 14) (I 35).toNatClampNeg) = 26
          · rw [if_pos s8_26] at h
            refine lv_tableIn (off := 167) (tgt := 224) hx hb d_Model_words_57 (by rw [s8_26]; decide) (by rw [s8_26]; decide) (by rw [s8_26]; decide) (by decide) ?_
            refine lv_iconst (v := 2) hx hb d_Model_words_224 (by decide) ?_
            refine lv_istore_n (lv' := [(1, .int 2), (0, .ref o_Model)]) hx hb d_Model_words_225 rfl hl (by decide) rfl (fun ls hl => ?_)
            refine lv_goto (tgt := 300) hx hb d_Model_words_226 (by decide) ?_
            refine lv_aload_n hx hb d_Model_words_300 rfl (lv_at hl 1 rfl) ?_
            refine va_get (D := (dC, dI)) (ci := 10) (v := .int (I 35)) (C := R_Model) (T := F_Model) (N := 54) hx hb hg i_Model hown hK hP 0 rfl rfl 35 (by decide) (hg _ k721) (fun _ h9 => h9) rfl d_Model_words_301 ?_
            refine lv_iload_n hx hb d_Model_words_304 rfl (lv_at hl 0 rfl) ?_
            refine lv_iadd hx hb d_Model_words_305 ?_
            refine lv_aload_n hx hb d_Model_words_306 rfl (lv_at hl 1 rfl) ?_
            refine va_get (D := (dC, dI)) (ci := 10) (v := .int (I 15)) (C := R_Model) (T := F_Model) (N := 54) hx hb hg i_Model hown hK hP 0 rfl rfl 15 (by decide) (hg _ k698) (fun _ h9 => h9) rfl d_Model_words_307 ?_
            refine lv_icmp_le (tgt := 317) hx hb d_Model_words_310 (by decide) (fun c40 => ?_) (fun c40 => ?_)
            · rw [if_pos c40] at h
              refine lv_iload_n hx hb d_Model_words_317 rfl (lv_at hl 0 rfl) ?_
              obtain rfl := Option.some.inj h
              exact W.iret (v := 2) hx hb hr (fun t ht hW => ⟨_, rfl, rfl, ht⟩) (fun _ h => by cases h) d_Model_words_318
            · rw [if_neg c40] at h
              refine lv_iconst (v := 0) hx hb d_Model_words_313 (by decide) ?_
              refine lv_goto (tgt := 318) hx hb d_Model_words_314 (by decide) ?_
              obtain rfl := Option.some.inj h
              exact W.iret (v := 0) hx hb hr (fun t ht hW => ⟨_, rfl, rfl, ht⟩) (fun _ h => by cases h) d_Model_words_318
          rw [if_neg s8_26] at h
          by_cases s8_27 : ((F 14) (I 35).toNatClampNeg) = 27
          · rw [if_pos s8_27] at h
            refine lv_tableIn (off := 243) (tgt := 300) hx hb d_Model_words_57 (by rw [s8_27]; decide) (by rw [s8_27]; decide) (by rw [s8_27]; decide) (by decide) ?_
            refine lv_aload_n hx hb d_Model_words_300 rfl (lv_at hl 1 rfl) ?_
            refine va_get (D := (dC, dI)) (ci := 10) (v := .int (I 35)) (C := R_Model) (T := F_Model) (N := 54) hx hb hg i_Model hown hK hP 0 rfl rfl 35 (by decide) (hg _ k721) (fun _ h9 => h9) rfl d_Model_words_301 ?_
            refine lv_iload_n hx hb d_Model_words_304 rfl (lv_at hl 0 rfl) ?_
            refine lv_iadd hx hb d_Model_words_305 ?_
            refine lv_aload_n hx hb d_Model_words_306 rfl (lv_at hl 1 rfl) ?_
            refine va_get (D := (dC, dI)) (ci := 10) (v := .int (I 15)) (C := R_Model) (T := F_Model) (N := 54) hx hb hg i_Model hown hK hP 0 rfl rfl 15 (by decide) (hg _ k698) (fun _ h9 => h9) rfl d_Model_words_307 ?_
            refine lv_icmp_le (tgt := 317) hx hb d_Model_words_310 (by decide) (fun c41 => ?_) (fun c41 => ?_)
            · rw [if_pos c41] at h
              refine lv_iload_n hx hb d_Model_words_317 rfl (lv_at hl 0 rfl) ?_
              obtain rfl := Option.some.inj h
              exact W.iret (v := 1) hx hb hr (fun t ht hW => ⟨_, rfl, rfl, ht⟩) (fun _ h => by cases h) d_Model_words_318
            · rw [if_neg c41] at h
              refine lv_iconst (v := 0) hx hb d_Model_words_313 (by decide) ?_
              refine lv_goto (tgt := 318) hx hb d_Model_words_314 (by decide) ?_
              obtain rfl := Option.some.inj h
              exact W.iret (v := 0) hx hb hr (fun t ht hW => ⟨_, rfl, rfl, ht⟩) (fun _ h => by cases h) d_Model_words_318
          rw [if_neg s8_27] at h
          by_cases s8_28 : ((F 14) (I 35).toNatClampNeg) = 28
          · rw [if_pos s8_28] at h
            refine lv_tableIn (off := 243) (tgt := 300) hx hb d_Model_words_57 (by rw [s8_28]; decide) (by rw [s8_28]; decide) (by rw [s8_28]; decide) (by decide) ?_
            refine lv_aload_n hx hb d_Model_words_300 rfl (lv_at hl 1 rfl) ?_
            refine va_get (D := (dC, dI)) (ci := 10) (v := .int (I 35)) (C := R_Model) (T := F_Model) (N := 54) hx hb hg i_Model hown hK hP 0 rfl rfl 35 (by decide) (hg _ k721) (fun _ h9 => h9) rfl d_Model_words_301 ?_
            refine lv_iload_n hx hb d_Model_words_304 rfl (lv_at hl 0 rfl) ?_
            refine lv_iadd hx hb d_Model_words_305 ?_
            refine lv_aload_n hx hb d_Model_words_306 rfl (lv_at hl 1 rfl) ?_
            refine va_get (D := (dC, dI)) (ci := 10) (v := .int (I 15)) (C := R_Model) (T := F_Model) (N := 54) hx hb hg i_Model hown hK hP 0 rfl rfl 15 (by decide) (hg _ k698) (fun _ h9 => h9) rfl d_Model_words_307 ?_
            refine lv_icmp_le (tgt := 317) hx hb d_Model_words_310 (by decide) (fun c42 => ?_) (fun c42 => ?_)
            · rw [if_pos c42] at h
              refine lv_iload_n hx hb d_Model_words_317 rfl (lv_at hl 0 rfl) ?_
              obtain rfl := Option.some.inj h
              exact W.iret (v := 1) hx hb hr (fun t ht hW => ⟨_, rfl, rfl, ht⟩) (fun _ h => by cases h) d_Model_words_318
            · rw [if_neg c42] at h
              refine lv_iconst (v := 0) hx hb d_Model_words_313 (by decide) ?_
              refine lv_goto (tgt := 318) hx hb d_Model_words_314 (by decide) ?_
              obtain rfl := Option.some.inj h
              exact W.iret (v := 0) hx hb hr (fun t ht hW => ⟨_, rfl, rfl, ht⟩) (fun _ h => by cases h) d_Model_words_318
          rw [if_neg s8_28] at h
          by_cases s8_29 : ((F 14) (I 35).toNatClampNeg) = 29
          · rw [if_pos s8_29] at h
            refine lv_tableIn (off := 167) (tgt := 224) hx hb d_Model_words_57 (by rw [s8_29]; decide) (by rw [s8_29]; decide) (by rw [s8_29]; decide) (by decide) ?_
            refine lv_iconst (v := 2) hx hb d_Model_words_224 (by decide) ?_
            refine lv_istore_n (lv' := [(1, .int 2), (0, .ref o_Model)]) hx hb d_Model_words_225 rfl hl (by decide) rfl (fun ls hl => ?_)
            refine lv_goto (tgt := 300) hx hb d_Model_words_226 (by decide) ?_
            refine lv_aload_n hx hb d_Model_words_300 rfl (lv_at hl 1 rfl) ?_
            refine va_get (D := (dC, dI)) (ci := 10) (v := .int (I 35)) (C := R_Model) (T := F_Model) (N := 54) hx hb hg i_Model hown hK hP 0 rfl rfl 35 (by decide) (hg _ k721) (fun _ h9 => h9) rfl d_Model_words_301 ?_
            refine lv_iload_n hx hb d_Model_words_304 rfl (lv_at hl 0 rfl) ?_
            refine lv_iadd hx hb d_Model_words_305 ?_
            refine lv_aload_n hx hb d_Model_words_306 rfl (lv_at hl 1 rfl) ?_
            refine va_get (D := (dC, dI)) (ci := 10) (v := .int (I 15)) (C := R_Model) (T := F_Model) (N := 54) hx hb hg i_Model hown hK hP 0 rfl rfl 15 (by decide) (hg _ k698) (fun _ h9 => h9) rfl d_Model_words_307 ?_
            refine lv_icmp_le (tgt := 317) hx hb d_Model_words_310 (by decide) (fun c43 => ?_) (fun c43 => ?_)
            · rw [if_pos c43] at h
              refine lv_iload_n hx hb d_Model_words_317 rfl (lv_at hl 0 rfl) ?_
              obtain rfl := Option.some.inj h
              exact W.iret (v := 2) hx hb hr (fun t ht hW => ⟨_, rfl, rfl, ht⟩) (fun _ h => by cases h) d_Model_words_318
            · rw [if_neg c43] at h
              refine lv_iconst (v := 0) hx hb d_Model_words_313 (by decide) ?_
              refine lv_goto (tgt := 318) hx hb d_Model_words_314 (by decide) ?_
              obtain rfl := Option.some.inj h
              exact W.iret (v := 0) hx hb hr (fun t ht hW => ⟨_, rfl, rfl, ht⟩) (fun _ h => by cases h) d_Model_words_318
          rw [if_neg s8_29] at h
          by_cases s8_30 : ((F 14) (I 35).toNatClampNeg) = 30
          · rw [if_pos s8_30] at h
            refine lv_tableIn (off := 243) (tgt := 300) hx hb d_Model_words_57 (by rw [s8_30]; decide) (by rw [s8_30]; decide) (by rw [s8_30]; decide) (by decide) ?_
            refine lv_aload_n hx hb d_Model_words_300 rfl (lv_at hl 1 rfl) ?_
            refine va_get (D := (dC, dI)) (ci := 10) (v := .int (I 35)) (C := R_Model) (T := F_Model) (N := 54) hx hb hg i_Model hown hK hP 0 rfl rfl 35 (by decide) (hg _ k721) (fun _ h9 => h9) rfl d_Model_words_301 ?_
            refine lv_iload_n hx hb d_Model_words_304 rfl (lv_at hl 0 rfl) ?_
            refine lv_iadd hx hb d_Model_words_305 ?_
            refine lv_aload_n hx hb d_Model_words_306 rfl (lv_at hl 1 rfl) ?_
            refine va_get (D := (dC, dI)) (ci := 10) (v := .int (I 15)) (C := R_Model) (T := F_Model) (N := 54) hx hb hg i_Model hown hK hP 0 rfl rfl 15 (by decide) (hg _ k698) (fun _ h9 => h9) rfl d_Model_words_307 ?_
            refine lv_icmp_le (tgt := 317) hx hb d_Model_words_310 (by decide) (fun c44 => ?_) (fun c44 => ?_)
            · rw [if_pos c44] at h
              refine lv_iload_n hx hb d_Model_words_317 rfl (lv_at hl 0 rfl) ?_
              obtain rfl := Option.some.inj h
              exact W.iret (v := 1) hx hb hr (fun t ht hW => ⟨_, rfl, rfl, ht⟩) (fun _ h => by cases h) d_Model_words_318
            · rw [if_neg c44] at h
              refine lv_iconst (v := 0) hx hb d_Model_words_313 (by decide) ?_
              refine lv_goto (tgt := 318) hx hb d_Model_words_314 (by decide) ?_
              obtain rfl := Option.some.inj h
              exact W.iret (v := 0) hx hb hr (fun t ht hW => ⟨_, rfl, rfl, ht⟩) (fun _ h => by cases h) d_Model_words_318
          rw [if_neg s8_30] at h
          by_cases s8_31 : ((F 14) (I 35).toNatClampNeg) = 31
          · rw [if_pos s8_31] at h
            refine lv_tableIn (off := 243) (tgt := 300) hx hb d_Model_words_57 (by rw [s8_31]; decide) (by rw [s8_31]; decide) (by rw [s8_31]; decide) (by decide) ?_
            refine lv_aload_n hx hb d_Model_words_300 rfl (lv_at hl 1 rfl) ?_
            refine va_get (D := (dC, dI)) (ci := 10) (v := .int (I 35)) (C := R_Model) (T := F_Model) (N := 54) hx hb hg i_Model hown hK hP 0 rfl rfl 35 (by decide) (hg _ k721) (fun _ h9 => h9) rfl d_Model_words_301 ?_
            refine lv_iload_n hx hb d_Model_words_304 rfl (lv_at hl 0 rfl) ?_
            refine lv_iadd hx hb d_Model_words_305 ?_
            refine lv_aload_n hx hb d_Model_words_306 rfl (lv_at hl 1 rfl) ?_
            refine va_get (D := (dC, dI)) (ci := 10) (v := .int (I 15)) (C := R_Model) (T := F_Model) (N := 54) hx hb hg i_Model hown hK hP 0 rfl rfl 15 (by decide) (hg _ k698) (fun _ h9 => h9) rfl d_Model_words_307 ?_
            refine lv_icmp_le (tgt := 317) hx hb d_Model_words_310 (by decide) (fun c45 => ?_) (fun c45 => ?_)
            · rw [if_pos c45] at h
              refine lv_iload_n hx hb d_Model_words_317 rfl (lv_at hl 0 rfl) ?_
              obtain rfl := Option.some.inj h
              exact W.iret (v := 1) hx hb hr (fun t ht hW => ⟨_, rfl, rfl, ht⟩) (fun _ h => by cases h) d_Model_words_318
            · rw [if_neg c45] at h
              refine lv_iconst (v := 0) hx hb d_Model_words_313 (by decide) ?_
              refine lv_goto (tgt := 318) hx hb d_Model_words_314 (by decide) ?_
              obtain rfl := Option.some.inj h
              exact W.iret (v := 0) hx hb hr (fun t ht hW => ⟨_, rfl, rfl, ht⟩) (fun _ h => by cases h) d_Model_words_318
          rw [if_neg s8_31] at h
          by_cases s8_32 : ((F 14) (I 35).toNatClampNeg) = 32
          · rw [if_pos s8_32] at h
            refine lv_tableIn (off := 243) (tgt := 300) hx hb d_Model_words_57 (by rw [s8_32]; decide) (by rw [s8_32]; decide) (by rw [s8_32]; decide) (by decide) ?_
            refine lv_aload_n hx hb d_Model_words_300 rfl (lv_at hl 1 rfl) ?_
            refine va_get (D := (dC, dI)) (ci := 10) (v := .int (I 35)) (C := R_Model) (T := F_Model) (N := 54) hx hb hg i_Model hown hK hP 0 rfl rfl 35 (by decide) (hg _ k721) (fun _ h9 => h9) rfl d_Model_words_301 ?_
            refine lv_iload_n hx hb d_Model_words_304 rfl (lv_at hl 0 rfl) ?_
            refine lv_iadd hx hb d_Model_words_305 ?_
            refine lv_aload_n hx hb d_Model_words_306 rfl (lv_at hl 1 rfl) ?_
            refine va_get (D := (dC, dI)) (ci := 10) (v := .int (I 15)) (C := R_Model) (T := F_Model) (N := 54) hx hb hg i_Model hown hK hP 0 rfl rfl 15 (by decide) (hg _ k698) (fun _ h9 => h9) rfl d_Model_words_307 ?_
            refine lv_icmp_le (tgt := 317) hx hb d_Model_words_310 (by decide) (fun c46 => ?_) (fun c46 => ?_)
            · rw [if_pos c46] at h
              refine lv_iload_n hx hb d_Model_words_317 rfl (lv_at hl 0 rfl) ?_
              obtain rfl := Option.some.inj h
              exact W.iret (v := 1) hx hb hr (fun t ht hW => ⟨_, rfl, rfl, ht⟩) (fun _ h => by cases h) d_Model_words_318
            · rw [if_neg c46] at h
              refine lv_iconst (v := 0) hx hb d_Model_words_313 (by decide) ?_
              refine lv_goto (tgt := 318) hx hb d_Model_words_314 (by decide) ?_
              obtain rfl := Option.some.inj h
              exact W.iret (v := 0) hx hb hr (fun t ht hW => ⟨_, rfl, rfl, ht⟩) (fun _ h => by cases h) d_Model_words_318
          rw [if_neg s8_32] at h
          by_cases s8_33 : ((F 14) (I 35).toNatClampNeg) = 33
          · rw [if_pos s8_33] at h
            refine lv_tableIn (off := 243) (tgt := 300) hx hb d_Model_words_57 (by rw [s8_33]; decide) (by rw [s8_33]; decide) (by rw [s8_33]; decide) (by decide) ?_
            refine lv_aload_n hx hb d_Model_words_300 rfl (lv_at hl 1 rfl) ?_
            refine va_get (D := (dC, dI)) (ci := 10) (v := .int (I 35)) (C := R_Model) (T := F_Model) (N := 54) hx hb hg i_Model hown hK hP 0 rfl rfl 35 (by decide) (hg _ k721) (fun _ h9 => h9) rfl d_Model_words_301 ?_
            refine lv_iload_n hx hb d_Model_words_304 rfl (lv_at hl 0 rfl) ?_
            refine lv_iadd hx hb d_Model_words_305 ?_
            refine lv_aload_n hx hb d_Model_words_306 rfl (lv_at hl 1 rfl) ?_
            refine va_get (D := (dC, dI)) (ci := 10) (v := .int (I 15)) (C := R_Model) (T := F_Model) (N := 54) hx hb hg i_Model hown hK hP 0 rfl rfl 15 (by decide) (hg _ k698) (fun _ h9 => h9) rfl d_Model_words_307 ?_
            refine lv_icmp_le (tgt := 317) hx hb d_Model_words_310 (by decide) (fun c47 => ?_) (fun c47 => ?_)
            · rw [if_pos c47] at h
              refine lv_iload_n hx hb d_Model_words_317 rfl (lv_at hl 0 rfl) ?_
              obtain rfl := Option.some.inj h
              exact W.iret (v := 1) hx hb hr (fun t ht hW => ⟨_, rfl, rfl, ht⟩) (fun _ h => by cases h) d_Model_words_318
            · rw [if_neg c47] at h
              refine lv_iconst (v := 0) hx hb d_Model_words_313 (by decide) ?_
              refine lv_goto (tgt := 318) hx hb d_Model_words_314 (by decide) ?_
              obtain rfl := Option.some.inj h
              exact W.iret (v := 0) hx hb hr (fun t ht hW => ⟨_, rfl, rfl, ht⟩) (fun _ h => by cases h) d_Model_words_318
          rw [if_neg s8_33] at h
          by_cases s8_34 : ((F 14) (I 35).toNatClampNeg) = 34
          · rw [if_pos s8_34] at h
            refine lv_tableIn (off := 167) (tgt := 224) hx hb d_Model_words_57 (by rw [s8_34]; decide) (by rw [s8_34]; decide) (by rw [s8_34]; decide) (by decide) ?_
            refine lv_iconst (v := 2) hx hb d_Model_words_224 (by decide) ?_
            refine lv_istore_n (lv' := [(1, .int 2), (0, .ref o_Model)]) hx hb d_Model_words_225 rfl hl (by decide) rfl (fun ls hl => ?_)
            refine lv_goto (tgt := 300) hx hb d_Model_words_226 (by decide) ?_
            refine lv_aload_n hx hb d_Model_words_300 rfl (lv_at hl 1 rfl) ?_
            refine va_get (D := (dC, dI)) (ci := 10) (v := .int (I 35)) (C := R_Model) (T := F_Model) (N := 54) hx hb hg i_Model hown hK hP 0 rfl rfl 35 (by decide) (hg _ k721) (fun _ h9 => h9) rfl d_Model_words_301 ?_
            refine lv_iload_n hx hb d_Model_words_304 rfl (lv_at hl 0 rfl) ?_
            refine lv_iadd hx hb d_Model_words_305 ?_
            refine lv_aload_n hx hb d_Model_words_306 rfl (lv_at hl 1 rfl) ?_
            refine va_get (D := (dC, dI)) (ci := 10) (v := .int (I 15)) (C := R_Model) (T := F_Model) (N := 54) hx hb hg i_Model hown hK hP 0 rfl rfl 15 (by decide) (hg _ k698) (fun _ h9 => h9) rfl d_Model_words_307 ?_
            refine lv_icmp_le (tgt := 317) hx hb d_Model_words_310 (by decide) (fun c48 => ?_) (fun c48 => ?_)
            · rw [if_pos c48] at h
              refine lv_iload_n hx hb d_Model_words_317 rfl (lv_at hl 0 rfl) ?_
              obtain rfl := Option.some.inj h
              exact W.iret (v := 2) hx hb hr (fun t ht hW => ⟨_, rfl, rfl, ht⟩) (fun _ h => by cases h) d_Model_words_318
            · rw [if_neg c48] at h
              refine lv_iconst (v := 0) hx hb d_Model_words_313 (by decide) ?_
              refine lv_goto (tgt := 318) hx hb d_Model_words_314 (by decide) ?_
              obtain rfl := Option.some.inj h
              exact W.iret (v := 0) hx hb hr (fun t ht hW => ⟨_, rfl, rfl, ht⟩) (fun _ h => by cases h) d_Model_words_318
          rw [if_neg s8_34] at h
          by_cases s8_35 : ((F 14) (I 35).toNatClampNeg) = 35
          · rw [if_pos s8_35] at h
            refine lv_tableIn (off := 243) (tgt := 300) hx hb d_Model_words_57 (by rw [s8_35]; decide) (by rw [s8_35]; decide) (by rw [s8_35]; decide) (by decide) ?_
            refine lv_aload_n hx hb d_Model_words_300 rfl (lv_at hl 1 rfl) ?_
            refine va_get (D := (dC, dI)) (ci := 10) (v := .int (I 35)) (C := R_Model) (T := F_Model) (N := 54) hx hb hg i_Model hown hK hP 0 rfl rfl 35 (by decide) (hg _ k721) (fun _ h9 => h9) rfl d_Model_words_301 ?_
            refine lv_iload_n hx hb d_Model_words_304 rfl (lv_at hl 0 rfl) ?_
            refine lv_iadd hx hb d_Model_words_305 ?_
            refine lv_aload_n hx hb d_Model_words_306 rfl (lv_at hl 1 rfl) ?_
            refine va_get (D := (dC, dI)) (ci := 10) (v := .int (I 15)) (C := R_Model) (T := F_Model) (N := 54) hx hb hg i_Model hown hK hP 0 rfl rfl 15 (by decide) (hg _ k698) (fun _ h9 => h9) rfl d_Model_words_307 ?_
            refine lv_icmp_le (tgt := 317) hx hb d_Model_words_310 (by decide) (fun c49 => ?_) (fun c49 => ?_)
            · rw [if_pos c49] at h
              refine lv_iload_n hx hb d_Model_words_317 rfl (lv_at hl 0 rfl) ?_
              obtain rfl := Option.some.inj h
              exact W.iret (v := 1) hx hb hr (fun t ht hW => ⟨_, rfl, rfl, ht⟩) (fun _ h => by cases h) d_Model_words_318
            · rw [if_neg c49] at h
              refine lv_iconst (v := 0) hx hb d_Model_words_313 (by decide) ?_
              refine lv_goto (tgt := 318) hx hb d_Model_words_314 (by decide) ?_
              obtain rfl := Option.some.inj h
              exact W.iret (v := 0) hx hb hr (fun t ht hW => ⟨_, rfl, rfl, ht⟩) (fun _ h => by cases h) d_Model_words_318
          rw [if_neg s8_35] at h
          by_cases s8_36 : ((F 14) (I 35).toNatClampNeg) = 36
          · rw [if_pos s8_36] at h
            refine lv_tableIn (off := 167) (tgt := 224) hx hb d_Model_words_57 (by rw [s8_36]; decide) (by rw [s8_36]; decide) (by rw [s8_36]; decide) (by decide) ?_
            refine lv_iconst (v := 2) hx hb d_Model_words_224 (by decide) ?_
            refine lv_istore_n (lv' := [(1, .int 2), (0, .ref o_Model)]) hx hb d_Model_words_225 rfl hl (by decide) rfl (fun ls hl => ?_)
            refine lv_goto (tgt := 300) hx hb d_Model_words_226 (by decide) ?_
            refine lv_aload_n hx hb d_Model_words_300 rfl (lv_at hl 1 rfl) ?_
            refine va_get (D := (dC, dI)) (ci := 10) (v := .int (I 35)) (C := R_Model) (T := F_Model) (N := 54) hx hb hg i_Model hown hK hP 0 rfl rfl 35 (by decide) (hg _ k721) (fun _ h9 => h9) rfl d_Model_words_301 ?_
            refine lv_iload_n hx hb d_Model_words_304 rfl (lv_at hl 0 rfl) ?_
            refine lv_iadd hx hb d_Model_words_305 ?_
            refine lv_aload_n hx hb d_Model_words_306 rfl (lv_at hl 1 rfl) ?_
            refine va_get (D := (dC, dI)) (ci := 10) (v := .int (I 15)) (C := R_Model) (T := F_Model) (N := 54) hx hb hg i_Model hown hK hP 0 rfl rfl 15 (by decide) (hg _ k698) (fun _ h9 => h9) rfl d_Model_words_307 ?_
            refine lv_icmp_le (tgt := 317) hx hb d_Model_words_310 (by decide) (fun c50 => ?_) (fun c50 => ?_)
            · rw [if_pos c50] at h
              refine lv_iload_n hx hb d_Model_words_317 rfl (lv_at hl 0 rfl) ?_
              obtain rfl := Option.some.inj h
              exact W.iret (v := 2) hx hb hr (fun t ht hW => ⟨_, rfl, rfl, ht⟩) (fun _ h => by cases h) d_Model_words_318
            · rw [if_neg c50] at h
              refine lv_iconst (v := 0) hx hb d_Model_words_313 (by decide) ?_
              refine lv_goto (tgt := 318) hx hb d_Model_words_314 (by decide) ?_
              obtain rfl := Option.some.inj h
              exact W.iret (v := 0) hx hb hr (fun t ht hW => ⟨_, rfl, rfl, ht⟩) (fun _ h => by cases h) d_Model_words_318
          rw [if_neg s8_36] at h
          by_cases s8_37 : ((F 14) (I 35).toNatClampNeg) = 37
          · rw [if_pos s8_37] at h
            refine lv_tableIn (off := 167) (tgt := 224) hx hb d_Model_words_57 (by rw [s8_37]; decide) (by rw [s8_37]; decide) (by rw [s8_37]; decide) (by decide) ?_
            refine lv_iconst (v := 2) hx hb d_Model_words_224 (by decide) ?_
            refine lv_istore_n (lv' := [(1, .int 2), (0, .ref o_Model)]) hx hb d_Model_words_225 rfl hl (by decide) rfl (fun ls hl => ?_)
            refine lv_goto (tgt := 300) hx hb d_Model_words_226 (by decide) ?_
            refine lv_aload_n hx hb d_Model_words_300 rfl (lv_at hl 1 rfl) ?_
            refine va_get (D := (dC, dI)) (ci := 10) (v := .int (I 35)) (C := R_Model) (T := F_Model) (N := 54) hx hb hg i_Model hown hK hP 0 rfl rfl 35 (by decide) (hg _ k721) (fun _ h9 => h9) rfl d_Model_words_301 ?_
            refine lv_iload_n hx hb d_Model_words_304 rfl (lv_at hl 0 rfl) ?_
            refine lv_iadd hx hb d_Model_words_305 ?_
            refine lv_aload_n hx hb d_Model_words_306 rfl (lv_at hl 1 rfl) ?_
            refine va_get (D := (dC, dI)) (ci := 10) (v := .int (I 15)) (C := R_Model) (T := F_Model) (N := 54) hx hb hg i_Model hown hK hP 0 rfl rfl 15 (by decide) (hg _ k698) (fun _ h9 => h9) rfl d_Model_words_307 ?_
            refine lv_icmp_le (tgt := 317) hx hb d_Model_words_310 (by decide) (fun c51 => ?_) (fun c51 => ?_)
            · rw [if_pos c51] at h
              refine lv_iload_n hx hb d_Model_words_317 rfl (lv_at hl 0 rfl) ?_
              obtain rfl := Option.some.inj h
              exact W.iret (v := 2) hx hb hr (fun t ht hW => ⟨_, rfl, rfl, ht⟩) (fun _ h => by cases h) d_Model_words_318
            · rw [if_neg c51] at h
              refine lv_iconst (v := 0) hx hb d_Model_words_313 (by decide) ?_
              refine lv_goto (tgt := 318) hx hb d_Model_words_314 (by decide) ?_
              obtain rfl := Option.some.inj h
              exact W.iret (v := 0) hx hb hr (fun t ht hW => ⟨_, rfl, rfl, ht⟩) (fun _ h => by cases h) d_Model_words_318
          rw [if_neg s8_37] at h
          by_cases s8_38 : ((F 14) (I 35).toNatClampNeg) = 38
          · rw [if_pos s8_38] at h
            refine lv_tableIn (off := 167) (tgt := 224) hx hb d_Model_words_57 (by rw [s8_38]; decide) (by rw [s8_38]; decide) (by rw [s8_38]; decide) (by decide) ?_
            refine lv_iconst (v := 2) hx hb d_Model_words_224 (by decide) ?_
            refine lv_istore_n (lv' := [(1, .int 2), (0, .ref o_Model)]) hx hb d_Model_words_225 rfl hl (by decide) rfl (fun ls hl => ?_)
            refine lv_goto (tgt := 300) hx hb d_Model_words_226 (by decide) ?_
            refine lv_aload_n hx hb d_Model_words_300 rfl (lv_at hl 1 rfl) ?_
            refine va_get (D := (dC, dI)) (ci := 10) (v := .int (I 35)) (C := R_Model) (T := F_Model) (N := 54) hx hb hg i_Model hown hK hP 0 rfl rfl 35 (by decide) (hg _ k721) (fun _ h9 => h9) rfl d_Model_words_301 ?_
            refine lv_iload_n hx hb d_Model_words_304 rfl (lv_at hl 0 rfl) ?_
            refine lv_iadd hx hb d_Model_words_305 ?_
            refine lv_aload_n hx hb d_Model_words_306 rfl (lv_at hl 1 rfl) ?_
            refine va_get (D := (dC, dI)) (ci := 10) (v := .int (I 15)) (C := R_Model) (T := F_Model) (N := 54) hx hb hg i_Model hown hK hP 0 rfl rfl 15 (by decide) (hg _ k698) (fun _ h9 => h9) rfl d_Model_words_307 ?_
            refine lv_icmp_le (tgt := 317) hx hb d_Model_words_310 (by decide) (fun c52 => ?_) (fun c52 => ?_)
            · rw [if_pos c52] at h
              refine lv_iload_n hx hb d_Model_words_317 rfl (lv_at hl 0 rfl) ?_
              obtain rfl := Option.some.inj h
              exact W.iret (v := 2) hx hb hr (fun t ht hW => ⟨_, rfl, rfl, ht⟩) (fun _ h => by cases h) d_Model_words_318
            · rw [if_neg c52] at h
              refine lv_iconst (v := 0) hx hb d_Model_words_313 (by decide) ?_
              refine lv_goto (tgt := 318) hx hb d_Model_words_314 (by decide) ?_
              obtain rfl := Option.some.inj h
              exact W.iret (v := 0) hx hb hr (fun t ht hW => ⟨_, rfl, rfl, ht⟩) (fun _ h => by cases h) d_Model_words_318
          rw [if_neg s8_38] at h
          refine lv_tableOut (tgt := 300) hx hb d_Model_words_57 (by have q0 := lv_neT s8_1 (a := 1) (by decide); have q1 := lv_neT s8_2 (a := 2) (by decide); have q2 := lv_neT s8_3 (a := 3) (by decide); have q3 := lv_neT s8_4 (a := 4) (by decide); have q4 := lv_neT s8_5 (a := 5) (by decide); have q5 := lv_neT s8_6 (a := 6) (by decide); have q6 := lv_neT s8_7 (a := 7) (by decide); have q7 := lv_neT s8_8 (a := 8) (by decide); have q8 := lv_neT s8_9 (a := 9) (by decide); have q9 := lv_neT s8_10 (a := 10) (by decide); have q10 := lv_neT s8_11 (a := 11) (by decide); have q11 := lv_neT s8_12 (a := 12) (by decide); have q12 := lv_neT s8_13 (a := 13) (by decide); have q13 := lv_neT s8_14 (a := 14) (by decide); have q14 := lv_neT s8_15 (a := 15) (by decide); have q15 := lv_neT s8_16 (a := 16) (by decide); have q16 := lv_neT s8_17 (a := 17) (by decide); have q17 := lv_neT s8_18 (a := 18) (by decide); have q18 := lv_neT s8_19 (a := 19) (by decide); have q19 := lv_neT s8_20 (a := 20) (by decide); have q20 := lv_neT s8_21 (a := 21) (by decide); have q21 := lv_neT s8_22 (a := 22) (by decide); have q22 := lv_neT s8_23 (a := 23) (by decide); have q23 := lv_neT s8_24 (a := 24) (by decide); have q24 := lv_neT s8_25 (a := 25) (by decide); have q25 := lv_neT s8_26 (a := 26) (by decide); have q26 := lv_neT s8_27 (a := 27) (by decide); have q27 := lv_neT s8_28 (a := 28) (by decide); have q28 := lv_neT s8_29 (a := 29) (by decide); have q29 := lv_neT s8_30 (a := 30) (by decide); have q30 := lv_neT s8_31 (a := 31) (by decide); have q31 := lv_neT s8_32 (a := 32) (by decide); have q32 := lv_neT s8_33 (a := 33) (by decide); have q33 := lv_neT s8_34 (a := 34) (by decide); have q34 := lv_neT s8_35 (a := 35) (by decide); have q35 := lv_neT s8_36 (a := 36) (by decide); have q36 := lv_neT s8_37 (a := 37) (by decide); have q37 := lv_neT s8_38 (a := 38) (by decide); omega) (by decide) ?_
          refine lv_aload_n hx hb d_Model_words_300 rfl (lv_at hl 1 rfl) ?_
          refine va_get (D := (dC, dI)) (ci := 10) (v := .int (I 35)) (C := R_Model) (T := F_Model) (N := 54) hx hb hg i_Model hown hK hP 0 rfl rfl 35 (by decide) (hg _ k721) (fun _ h9 => h9) rfl d_Model_words_301 ?_
          refine lv_iload_n hx hb d_Model_words_304 rfl (lv_at hl 0 rfl) ?_
          refine lv_iadd hx hb d_Model_words_305 ?_
          refine lv_aload_n hx hb d_Model_words_306 rfl (lv_at hl 1 rfl) ?_
          refine va_get (D := (dC, dI)) (ci := 10) (v := .int (I 15)) (C := R_Model) (T := F_Model) (N := 54) hx hb hg i_Model hown hK hP 0 rfl rfl 15 (by decide) (hg _ k698) (fun _ h9 => h9) rfl d_Model_words_307 ?_
          refine lv_icmp_le (tgt := 317) hx hb d_Model_words_310 (by decide) (fun c53 => ?_) (fun c53 => ?_)
          · rw [if_pos c53] at h
            refine lv_iload_n hx hb d_Model_words_317 rfl (lv_at hl 0 rfl) ?_
            obtain rfl := Option.some.inj h
            exact W.iret (v := 1) hx hb hr (fun t ht hW => ⟨_, rfl, rfl, ht⟩) (fun _ h => by cases h) d_Model_words_318
          · rw [if_neg c53] at h
            refine lv_iconst (v := 0) hx hb d_Model_words_313 (by decide) ?_
            refine lv_goto (tgt := 318) hx hb d_Model_words_314 (by decide) ?_
            obtain rfl := Option.some.inj h
            exact W.iret (v := 0) hx hb hr (fun t ht hW => ⟨_, rfl, rfl, ht⟩) (fun _ h => by cases h) d_Model_words_318
        · rw [if_neg c6] at h
          refine lv_iconst (v := 0) hx hb d_Model_words_44 (by decide) ?_
          obtain rfl := Option.some.inj h
          exact W.iret (v := 0) hx hb hr (fun t ht hW => ⟨_, rfl, rfl, ht⟩) (fun _ h => by cases h) d_Model_words_45

set_option maxHeartbeats 4000000 in
set_option maxRecDepth 100000 in
theorem c_Model_word (l : Launch) (dC : Nat → ClassId) (dI : Nat → Nat → Nat) (N : Nat) (cB : ClassId) (cI : ClassId) (o_Model : Nat) (r : Nat → Nat) (I : Nat → Int32) (F : Nat → Nat → Int32) (p0 : Int32) (z : Int32) (h : m_Model_word N I F p0 = some z) : Met l y_Model_word (.code y_Model_word b_Model_word 2 (some .int) :: lw_g) ({ frames := 0, cells := 0, slots := 0, locals := 0 }) (va_Pc [.ref o_Model, .int p0] (fun U => dz_N U ∧ va_P (dC, dI) classes (wD cB cI o_Model r I F) U.heap ∧ va_K (dC, dI) classes [(cB, .byte), (cI, .int)] U)) (vp_Si (fun r => r = z)) 0 0 (fun _ => False) := by
  refine Met.ofW (cc := b_Model_word) (maxL := 2) (ret := (some .int)) (by decide +kernel) rfl ?_
  intro p e s m args below meth c s₁ B hml hv
  obtain ⟨rfl, hN, hP, hK⟩ := hv
  have hx := B.exec
  have hb := B.bytes
  have hr := B.returns
  have hg : ∀ w ∈ lw_g, w.before _ s = true := fun w hw => atoms_spec (ws := .code y_Model_word b_Model_word 2 (some .int) :: lw_g) B.pre w (List.mem_cons_of_mem _ hw)
  have hown : s.vm.findClass R_Model = some m.cls := findClass_of_methodNamed B.named
  have hlocks := B.notSynchronized
  clear B
  have hP : va_P (dC, dI) classes (wD cB cI o_Model r I F) s.heap := hP
  have hl := lv_entry ([.ref o_Model, .int p0]) (n := 2) (Nat.le_of_ble_eq_true rfl)
  rw [lg_entry_eq]
  generalize (lg_sl ([.ref o_Model, .int p0]) ++ List.replicate (2 - (lg_sl ([.ref o_Model, .int p0])).length) Slot.unset).toArray = ls at hl ⊢
  have hl : lv_has ls 2 [(0, .ref o_Model), (1, .int p0)] := hl
  unfold m_Model_word at h
  refine lv_aload_n hx hb d_Model_word_0 rfl (lv_at hl 0 rfl) ?_
  refine va_get (D := (dC, dI)) (ci := 10) (v := .ref (r 14)) (C := R_Model) (T := F_Model) (N := 54) hx hb hg i_Model hown hK hP 0 rfl rfl 14 (by decide) (hg _ k700) (fun _ h9 => h9) rfl d_Model_word_1 ?_
  refine lv_aload_n hx hb d_Model_word_4 rfl (lv_at hl 0 rfl) ?_
  refine va_get (D := (dC, dI)) (ci := 10) (v := .int (I 35)) (C := R_Model) (T := F_Model) (N := 54) hx hb hg i_Model hown hK hP 0 rfl rfl 35 (by decide) (hg _ k721) (fun _ h9 => h9) rfl d_Model_word_5 ?_
  refine lv_iload_n hx hb d_Model_word_8 rfl (lv_at hl 1 rfl) ?_
  refine lv_iadd hx hb d_Model_word_9 ?_
  obtain ⟨i1, h⟩ := dz_oi h
  refine va_iald (D := (dC, dI)) (f := F 14) hx hb hK hP 10 1 rfl rfl i1 d_Model_word_10 ?_
  obtain rfl := Option.some.inj h
  exact W.iret (v := (F 14) ((I 35) + p0).toNatClampNeg) hx hb hr (fun t ht hW => ⟨_, rfl, rfl, ht⟩) (fun _ h => by cases h) d_Model_word_11

set_option maxHeartbeats 4000000 in
set_option maxRecDepth 100000 in
theorem c_Model_height (l : Launch) (dC : Nat → ClassId) (dI : Nat → Nat → Nat) (N : Nat) (cB : ClassId) (cI : ClassId) (o_Model : Nat) (r : Nat → Nat) (I : Nat → Int32) (F : Nat → Nat → Int32) (z : Int32) (h : m_Model_height N I F = some z) : Met l y_Model_height (.code y_Model_height b_Model_height 1 (some .int) :: lw_g) ({ frames := 0, cells := 0, slots := 0, locals := 0 }) (va_Pc [.ref o_Model] (fun U => dz_N U ∧ va_P (dC, dI) classes (wD cB cI o_Model r I F) U.heap ∧ va_K (dC, dI) classes [(cB, .byte), (cI, .int)] U)) (vp_Si (fun r => r = z)) 0 0 (fun _ => False) := by
  refine Met.ofW (cc := b_Model_height) (maxL := 1) (ret := (some .int)) (by decide +kernel) rfl ?_
  intro p e s m args below meth c s₁ B hml hv
  obtain ⟨rfl, hN, hP, hK⟩ := hv
  have hx := B.exec
  have hb := B.bytes
  have hr := B.returns
  have hg : ∀ w ∈ lw_g, w.before _ s = true := fun w hw => atoms_spec (ws := .code y_Model_height b_Model_height 1 (some .int) :: lw_g) B.pre w (List.mem_cons_of_mem _ hw)
  have hown : s.vm.findClass R_Model = some m.cls := findClass_of_methodNamed B.named
  have hlocks := B.notSynchronized
  clear B
  have hP : va_P (dC, dI) classes (wD cB cI o_Model r I F) s.heap := hP
  have hl := lv_entry ([.ref o_Model]) (n := 1) (Nat.le_of_ble_eq_true rfl)
  rw [lg_entry_eq]
  generalize (lg_sl ([.ref o_Model]) ++ List.replicate (1 - (lg_sl ([.ref o_Model])).length) Slot.unset).toArray = ls at hl ⊢
  have hl : lv_has ls 1 [(0, .ref o_Model)] := hl
  unfold m_Model_height at h
  refine lv_aload_n hx hb d_Model_height_0 rfl (lv_at hl 0 rfl) ?_
  refine va_get (D := (dC, dI)) (ci := 10) (v := .int (I 29)) (C := R_Model) (T := F_Model) (N := 54) hx hb hg i_Model hown hK hP 0 rfl rfl 29 (by decide) (hg _ k719) (fun _ h9 => h9) rfl d_Model_height_1 ?_
  refine lv_aload_n hx hb d_Model_height_4 rfl (lv_at hl 0 rfl) ?_
  refine va_get (D := (dC, dI)) (ci := 10) (v := .ref (r 24)) (C := R_Model) (T := F_Model) (N := 54) hx hb hg i_Model hown hK hP 0 rfl rfl 24 (by decide) (hg _ k717) (fun _ h9 => h9) rfl d_Model_height_5 ?_
  refine lv_aload_n hx hb d_Model_height_8 rfl (lv_at hl 0 rfl) ?_
  refine va_get (D := (dC, dI)) (ci := 10) (v := .int (I 22)) (C := R_Model) (T := F_Model) (N := 54) hx hb hg i_Model hown hK hP 0 rfl rfl 22 (by decide) (hg _ k715) (fun _ h9 => h9) rfl d_Model_height_9 ?_
  refine lv_iconst (v := 1) hx hb d_Model_height_12 (by decide) ?_
  refine lv_isub hx hb d_Model_height_13 ?_
  obtain ⟨i1, h⟩ := dz_oi h
  refine va_iald (D := (dC, dI)) (f := F 24) hx hb hK hP 14 1 rfl rfl i1 d_Model_height_14 ?_
  refine lv_isub hx hb d_Model_height_15 ?_
  refine lv_aload_n hx hb d_Model_height_16 rfl (lv_at hl 0 rfl) ?_
  refine va_get (D := (dC, dI)) (ci := 10) (v := .ref (r 25)) (C := R_Model) (T := F_Model) (N := 54) hx hb hg i_Model hown hK hP 0 rfl rfl 25 (by decide) (hg _ k718) (fun _ h9 => h9) rfl d_Model_height_17 ?_
  refine lv_aload_n hx hb d_Model_height_20 rfl (lv_at hl 0 rfl) ?_
  refine va_get (D := (dC, dI)) (ci := 10) (v := .int (I 22)) (C := R_Model) (T := F_Model) (N := 54) hx hb hg i_Model hown hK hP 0 rfl rfl 22 (by decide) (hg _ k715) (fun _ h9 => h9) rfl d_Model_height_21 ?_
  refine lv_iconst (v := 1) hx hb d_Model_height_24 (by decide) ?_
  refine lv_isub hx hb d_Model_height_25 ?_
  obtain ⟨i2, h⟩ := dz_oi h
  refine va_iald (D := (dC, dI)) (f := F 25) hx hb hK hP 15 1 rfl rfl i2 d_Model_height_26 ?_
  refine lv_isub hx hb d_Model_height_27 ?_
  obtain ⟨x3, ex3, h⟩ := dz_lt h
  refine dz_topi ex3 ?_
  obtain rfl := Option.some.inj h
  exact W.iret (v := x3) hx hb hr (fun t ht hW => ⟨_, rfl, rfl, ht⟩) (fun _ h => by cases h) d_Model_height_28

set_option maxHeartbeats 4000000 in
set_option maxRecDepth 100000 in
theorem c_Model_needs (l : Launch) (dC : Nat → ClassId) (dI : Nat → Nat → Nat) (N : Nat) (p0 : Int32) (p1 : Int32) (z : Int32) (h : m_Model_needs N p0 p1 = some z) : Met l y_Model_needs (.code y_Model_needs b_Model_needs 2 (some .int) :: lw_g) ({ frames := 0, cells := 0, slots := 0, locals := 0 }) (va_Pc [.int p0, .int p1] (fun U => dz_N U ∧ va_P (dC, dI) classes [] U.heap ∧ va_K (dC, dI) classes [] U)) (vp_Si (fun r => r = z)) 0 0 (fun _ => False) := by
  refine Met.ofW (cc := b_Model_needs) (maxL := 2) (ret := (some .int)) (by decide +kernel) rfl ?_
  intro p e s m args below meth c s₁ B hml hv
  obtain ⟨rfl, hN, hP, hK⟩ := hv
  have hx := B.exec
  have hb := B.bytes
  have hr := B.returns
  have hg : ∀ w ∈ lw_g, w.before _ s = true := fun w hw => atoms_spec (ws := .code y_Model_needs b_Model_needs 2 (some .int) :: lw_g) B.pre w (List.mem_cons_of_mem _ hw)
  have hown : s.vm.findClass R_Model = some m.cls := findClass_of_methodNamed B.named
  have hlocks := B.notSynchronized
  clear B
  have hP : va_P (dC, dI) classes [] s.heap := hP
  have hl := lv_entry ([.int p0, .int p1]) (n := 2) (Nat.le_of_ble_eq_true rfl)
  rw [lg_entry_eq]
  generalize (lg_sl ([.int p0, .int p1]) ++ List.replicate (2 - (lg_sl ([.int p0, .int p1])).length) Slot.unset).toArray = ls at hl ⊢
  have hl : lv_has ls 2 [(0, .int p0), (1, .int p1)] := hl
  unfold m_Model_needs at h
  refine lv_iload_n hx hb d_Model_needs_0 rfl (lv_at hl 0 rfl) ?_
  by_cases s1_0 : p0 = 0
  · rw [if_pos s1_0] at h
    refine lv_tableIn (off := 175) (tgt := 176) hx hb d_Model_needs_1 (by rw [s1_0]; decide) (by rw [s1_0]; decide) (by rw [s1_0]; decide) (by decide) ?_
    refine lv_iconst (v := 1) hx hb d_Model_needs_176 (by decide) ?_
    obtain rfl := Option.some.inj h
    exact W.iret (v := 1) hx hb hr (fun t ht hW => ⟨_, rfl, rfl, ht⟩) (fun _ h => by cases h) d_Model_needs_177
  rw [if_neg s1_0] at h
  by_cases s1_1 : p0 = 1
  · rw [if_pos s1_1] at h
    refine lv_tableIn (off := 181) (tgt := 182) hx hb d_Model_needs_1 (by rw [s1_1]; decide) (by rw [s1_1]; decide) (by rw [s1_1]; decide) (by decide) ?_
    refine lv_iconst (v := 0) hx hb d_Model_needs_182 (by decide) ?_
    obtain rfl := Option.some.inj h
    exact W.iret (v := 0) hx hb hr (fun t ht hW => ⟨_, rfl, rfl, ht⟩) (fun _ h => by cases h) d_Model_needs_183
  rw [if_neg s1_1] at h
  by_cases s1_2 : p0 = 2
  · rw [if_pos s1_2] at h
    refine lv_tableIn (off := 181) (tgt := 182) hx hb d_Model_needs_1 (by rw [s1_2]; decide) (by rw [s1_2]; decide) (by rw [s1_2]; decide) (by decide) ?_
    refine lv_iconst (v := 0) hx hb d_Model_needs_182 (by decide) ?_
    obtain rfl := Option.some.inj h
    exact W.iret (v := 0) hx hb hr (fun t ht hW => ⟨_, rfl, rfl, ht⟩) (fun _ h => by cases h) d_Model_needs_183
  rw [if_neg s1_2] at h
  by_cases s1_3 : p0 = 3
  · rw [if_pos s1_3] at h
    refine lv_tableIn (off := 181) (tgt := 182) hx hb d_Model_needs_1 (by rw [s1_3]; decide) (by rw [s1_3]; decide) (by rw [s1_3]; decide) (by decide) ?_
    refine lv_iconst (v := 0) hx hb d_Model_needs_182 (by decide) ?_
    obtain rfl := Option.some.inj h
    exact W.iret (v := 0) hx hb hr (fun t ht hW => ⟨_, rfl, rfl, ht⟩) (fun _ h => by cases h) d_Model_needs_183
  rw [if_neg s1_3] at h
  by_cases s1_4 : p0 = 4
  · rw [if_pos s1_4] at h
    refine lv_tableIn (off := 175) (tgt := 176) hx hb d_Model_needs_1 (by rw [s1_4]; decide) (by rw [s1_4]; decide) (by rw [s1_4]; decide) (by decide) ?_
    refine lv_iconst (v := 1) hx hb d_Model_needs_176 (by decide) ?_
    obtain rfl := Option.some.inj h
    exact W.iret (v := 1) hx hb hr (fun t ht hW => ⟨_, rfl, rfl, ht⟩) (fun _ h => by cases h) d_Model_needs_177
  rw [if_neg s1_4] at h
  by_cases s1_5 : p0 = 5
  · rw [if_pos s1_5] at h
    refine lv_tableIn (off := 181) (tgt := 182) hx hb d_Model_needs_1 (by rw [s1_5]; decide) (by rw [s1_5]; decide) (by rw [s1_5]; decide) (by decide) ?_
    refine lv_iconst (v := 0) hx hb d_Model_needs_182 (by decide) ?_
    obtain rfl := Option.some.inj h
    exact W.iret (v := 0) hx hb hr (fun t ht hW => ⟨_, rfl, rfl, ht⟩) (fun _ h => by cases h) d_Model_needs_183
  rw [if_neg s1_5] at h
  by_cases s1_6 : p0 = 6
  · rw [if_pos s1_6] at h
    refine lv_tableIn (off := 181) (tgt := 182) hx hb d_Model_needs_1 (by rw [s1_6]; decide) (by rw [s1_6]; decide) (by rw [s1_6]; decide) (by decide) ?_
    refine lv_iconst (v := 0) hx hb d_Model_needs_182 (by decide) ?_
    obtain rfl := Option.some.inj h
    exact W.iret (v := 0) hx hb hr (fun t ht hW => ⟨_, rfl, rfl, ht⟩) (fun _ h => by cases h) d_Model_needs_183
  rw [if_neg s1_6] at h
  by_cases s1_7 : p0 = 7
  · rw [if_pos s1_7] at h
    refine lv_tableIn (off := 175) (tgt := 176) hx hb d_Model_needs_1 (by rw [s1_7]; decide) (by rw [s1_7]; decide) (by rw [s1_7]; decide) (by decide) ?_
    refine lv_iconst (v := 1) hx hb d_Model_needs_176 (by decide) ?_
    obtain rfl := Option.some.inj h
    exact W.iret (v := 1) hx hb hr (fun t ht hW => ⟨_, rfl, rfl, ht⟩) (fun _ h => by cases h) d_Model_needs_177
  rw [if_neg s1_7] at h
  by_cases s1_8 : p0 = 8
  · rw [if_pos s1_8] at h
    refine lv_tableIn (off := 175) (tgt := 176) hx hb d_Model_needs_1 (by rw [s1_8]; decide) (by rw [s1_8]; decide) (by rw [s1_8]; decide) (by decide) ?_
    refine lv_iconst (v := 1) hx hb d_Model_needs_176 (by decide) ?_
    obtain rfl := Option.some.inj h
    exact W.iret (v := 1) hx hb hr (fun t ht hW => ⟨_, rfl, rfl, ht⟩) (fun _ h => by cases h) d_Model_needs_177
  rw [if_neg s1_8] at h
  by_cases s1_9 : p0 = 9
  · rw [if_pos s1_9] at h
    refine lv_tableIn (off := 175) (tgt := 176) hx hb d_Model_needs_1 (by rw [s1_9]; decide) (by rw [s1_9]; decide) (by rw [s1_9]; decide) (by decide) ?_
    refine lv_iconst (v := 1) hx hb d_Model_needs_176 (by decide) ?_
    obtain rfl := Option.some.inj h
    exact W.iret (v := 1) hx hb hr (fun t ht hW => ⟨_, rfl, rfl, ht⟩) (fun _ h => by cases h) d_Model_needs_177
  rw [if_neg s1_9] at h
  by_cases s1_10 : p0 = 10
  · rw [if_pos s1_10] at h
    refine lv_tableIn (off := 179) (tgt := 180) hx hb d_Model_needs_1 (by rw [s1_10]; decide) (by rw [s1_10]; decide) (by rw [s1_10]; decide) (by decide) ?_
    refine lv_iload_n hx hb d_Model_needs_180 rfl (lv_at hl 1 rfl) ?_
    obtain rfl := Option.some.inj h
    exact W.iret (v := p1) hx hb hr (fun t ht hW => ⟨_, rfl, rfl, ht⟩) (fun _ h => by cases h) d_Model_needs_181
  rw [if_neg s1_10] at h
  by_cases s1_11 : p0 = 11
  · rw [if_pos s1_11] at h
    refine lv_tableIn (off := 175) (tgt := 176) hx hb d_Model_needs_1 (by rw [s1_11]; decide) (by rw [s1_11]; decide) (by rw [s1_11]; decide) (by decide) ?_
    refine lv_iconst (v := 1) hx hb d_Model_needs_176 (by decide) ?_
    obtain rfl := Option.some.inj h
    exact W.iret (v := 1) hx hb hr (fun t ht hW => ⟨_, rfl, rfl, ht⟩) (fun _ h => by cases h) d_Model_needs_177
  rw [if_neg s1_11] at h
  by_cases s1_12 : p0 = 12
  · rw [if_pos s1_12] at h
    refine lv_tableIn (off := 175) (tgt := 176) hx hb d_Model_needs_1 (by rw [s1_12]; decide) (by rw [s1_12]; decide) (by rw [s1_12]; decide) (by decide) ?_
    refine lv_iconst (v := 1) hx hb d_Model_needs_176 (by decide) ?_
    obtain rfl := Option.some.inj h
    exact W.iret (v := 1) hx hb hr (fun t ht hW => ⟨_, rfl, rfl, ht⟩) (fun _ h => by cases h) d_Model_needs_177
  rw [if_neg s1_12] at h
  by_cases s1_13 : p0 = 13
  · rw [if_pos s1_13] at h
    refine lv_tableIn (off := 175) (tgt := 176) hx hb d_Model_needs_1 (by rw [s1_13]; decide) (by rw [s1_13]; decide) (by rw [s1_13]; decide) (by decide) ?_
    refine lv_iconst (v := 1) hx hb d_Model_needs_176 (by decide) ?_
    obtain rfl := Option.some.inj h
    exact W.iret (v := 1) hx hb hr (fun t ht hW => ⟨_, rfl, rfl, ht⟩) (fun _ h => by cases h) d_Model_needs_177
  rw [if_neg s1_13] at h
  by_cases s1_14 : p0 = 14
  · rw [if_pos s1_14] at h
    refine lv_tableIn (off := 175) (tgt := 176) hx hb d_Model_needs_1 (by rw [s1_14]; decide) (by rw [s1_14]; decide) (by rw [s1_14]; decide) (by decide) ?_
    refine lv_iconst (v := 1) hx hb d_Model_needs_176 (by decide) ?_
    obtain rfl := Option.some.inj h
    exact W.iret (v := 1) hx hb hr (fun t ht hW => ⟨_, rfl, rfl, ht⟩) (fun _ h => by cases h) d_Model_needs_177
  rw [if_neg s1_14] at h
  by_cases s1_15 : p0 = 15
  · rw [if_pos s1_15] at h
    refine lv_tableIn (off := 181) (tgt := 182) hx hb d_Model_needs_1 (by rw [s1_15]; decide) (by rw [s1_15]; decide) (by rw [s1_15]; decide) (by decide) ?_
    refine lv_iconst (v := 0) hx hb d_Model_needs_182 (by decide) ?_
    obtain rfl := Option.some.inj h
    exact W.iret (v := 0) hx hb hr (fun t ht hW => ⟨_, rfl, rfl, ht⟩) (fun _ h => by cases h) d_Model_needs_183
  rw [if_neg s1_15] at h
  by_cases s1_16 : p0 = 16
  · rw [if_pos s1_16] at h
    refine lv_tableIn (off := 177) (tgt := 178) hx hb d_Model_needs_1 (by rw [s1_16]; decide) (by rw [s1_16]; decide) (by rw [s1_16]; decide) (by decide) ?_
    refine lv_iconst (v := 2) hx hb d_Model_needs_178 (by decide) ?_
    obtain rfl := Option.some.inj h
    exact W.iret (v := 2) hx hb hr (fun t ht hW => ⟨_, rfl, rfl, ht⟩) (fun _ h => by cases h) d_Model_needs_179
  rw [if_neg s1_16] at h
  by_cases s1_17 : p0 = 17
  · rw [if_pos s1_17] at h
    refine lv_tableIn (off := 177) (tgt := 178) hx hb d_Model_needs_1 (by rw [s1_17]; decide) (by rw [s1_17]; decide) (by rw [s1_17]; decide) (by decide) ?_
    refine lv_iconst (v := 2) hx hb d_Model_needs_178 (by decide) ?_
    obtain rfl := Option.some.inj h
    exact W.iret (v := 2) hx hb hr (fun t ht hW => ⟨_, rfl, rfl, ht⟩) (fun _ h => by cases h) d_Model_needs_179
  rw [if_neg s1_17] at h
  by_cases s1_18 : p0 = 18
  · rw [if_pos s1_18] at h
    refine lv_tableIn (off := 177) (tgt := 178) hx hb d_Model_needs_1 (by rw [s1_18]; decide) (by rw [s1_18]; decide) (by rw [s1_18]; decide) (by decide) ?_
    refine lv_iconst (v := 2) hx hb d_Model_needs_178 (by decide) ?_
    obtain rfl := Option.some.inj h
    exact W.iret (v := 2) hx hb hr (fun t ht hW => ⟨_, rfl, rfl, ht⟩) (fun _ h => by cases h) d_Model_needs_179
  rw [if_neg s1_18] at h
  by_cases s1_19 : p0 = 19
  · rw [if_pos s1_19] at h
    refine lv_tableIn (off := 175) (tgt := 176) hx hb d_Model_needs_1 (by rw [s1_19]; decide) (by rw [s1_19]; decide) (by rw [s1_19]; decide) (by decide) ?_
    refine lv_iconst (v := 1) hx hb d_Model_needs_176 (by decide) ?_
    obtain rfl := Option.some.inj h
    exact W.iret (v := 1) hx hb hr (fun t ht hW => ⟨_, rfl, rfl, ht⟩) (fun _ h => by cases h) d_Model_needs_177
  rw [if_neg s1_19] at h
  by_cases s1_20 : p0 = 20
  · rw [if_pos s1_20] at h
    refine lv_tableIn (off := 181) (tgt := 182) hx hb d_Model_needs_1 (by rw [s1_20]; decide) (by rw [s1_20]; decide) (by rw [s1_20]; decide) (by decide) ?_
    refine lv_iconst (v := 0) hx hb d_Model_needs_182 (by decide) ?_
    obtain rfl := Option.some.inj h
    exact W.iret (v := 0) hx hb hr (fun t ht hW => ⟨_, rfl, rfl, ht⟩) (fun _ h => by cases h) d_Model_needs_183
  rw [if_neg s1_20] at h
  by_cases s1_21 : p0 = 21
  · rw [if_pos s1_21] at h
    refine lv_tableIn (off := 175) (tgt := 176) hx hb d_Model_needs_1 (by rw [s1_21]; decide) (by rw [s1_21]; decide) (by rw [s1_21]; decide) (by decide) ?_
    refine lv_iconst (v := 1) hx hb d_Model_needs_176 (by decide) ?_
    obtain rfl := Option.some.inj h
    exact W.iret (v := 1) hx hb hr (fun t ht hW => ⟨_, rfl, rfl, ht⟩) (fun _ h => by cases h) d_Model_needs_177
  rw [if_neg s1_21] at h
  by_cases s1_22 : p0 = 22
  · rw [if_pos s1_22] at h
    refine lv_tableIn (off := 175) (tgt := 176) hx hb d_Model_needs_1 (by rw [s1_22]; decide) (by rw [s1_22]; decide) (by rw [s1_22]; decide) (by decide) ?_
    refine lv_iconst (v := 1) hx hb d_Model_needs_176 (by decide) ?_
    obtain rfl := Option.some.inj h
    exact W.iret (v := 1) hx hb hr (fun t ht hW => ⟨_, rfl, rfl, ht⟩) (fun _ h => by cases h) d_Model_needs_177
  rw [if_neg s1_22] at h
  by_cases s1_23 : p0 = 23
  · rw [if_pos s1_23] at h
    refine lv_tableIn (off := 175) (tgt := 176) hx hb d_Model_needs_1 (by rw [s1_23]; decide) (by rw [s1_23]; decide) (by rw [s1_23]; decide) (by decide) ?_
    refine lv_iconst (v := 1) hx hb d_Model_needs_176 (by decide) ?_
    obtain rfl := Option.some.inj h
    exact W.iret (v := 1) hx hb hr (fun t ht hW => ⟨_, rfl, rfl, ht⟩) (fun _ h => by cases h) d_Model_needs_177
  rw [if_neg s1_23] at h
  by_cases s1_24 : p0 = 24
  · rw [if_pos s1_24] at h
    refine lv_tableIn (off := 175) (tgt := 176) hx hb d_Model_needs_1 (by rw [s1_24]; decide) (by rw [s1_24]; decide) (by rw [s1_24]; decide) (by decide) ?_
    refine lv_iconst (v := 1) hx hb d_Model_needs_176 (by decide) ?_
    obtain rfl := Option.some.inj h
    exact W.iret (v := 1) hx hb hr (fun t ht hW => ⟨_, rfl, rfl, ht⟩) (fun _ h => by cases h) d_Model_needs_177
  rw [if_neg s1_24] at h
  by_cases s1_25 : p0 = 25
  · rw [if_pos s1_25] at h
    refine lv_tableIn (off := 177) (tgt := 178) hx hb d_Model_needs_1 (by rw [s1_25]; decide) (by rw [s1_25]; decide) (by rw [s1_25]; decide) (by decide) ?_
    refine lv_iconst (v := 2) hx hb d_Model_needs_178 (by decide) ?_
    obtain rfl := Option.some.inj h
    exact W.iret (v := 2) hx hb hr (fun t ht hW => ⟨_, rfl, rfl, ht⟩) (fun _ h => by cases h) d_Model_needs_179
  rw [if_neg s1_25] at h
  by_cases s1_26 : p0 = 26
  · rw [if_pos s1_26] at h
    refine lv_tableIn (off := 181) (tgt := 182) hx hb d_Model_needs_1 (by rw [s1_26]; decide) (by rw [s1_26]; decide) (by rw [s1_26]; decide) (by decide) ?_
    refine lv_iconst (v := 0) hx hb d_Model_needs_182 (by decide) ?_
    obtain rfl := Option.some.inj h
    exact W.iret (v := 0) hx hb hr (fun t ht hW => ⟨_, rfl, rfl, ht⟩) (fun _ h => by cases h) d_Model_needs_183
  rw [if_neg s1_26] at h
  by_cases s1_27 : p0 = 27
  · rw [if_pos s1_27] at h
    refine lv_tableIn (off := 181) (tgt := 182) hx hb d_Model_needs_1 (by rw [s1_27]; decide) (by rw [s1_27]; decide) (by rw [s1_27]; decide) (by decide) ?_
    refine lv_iconst (v := 0) hx hb d_Model_needs_182 (by decide) ?_
    obtain rfl := Option.some.inj h
    exact W.iret (v := 0) hx hb hr (fun t ht hW => ⟨_, rfl, rfl, ht⟩) (fun _ h => by cases h) d_Model_needs_183
  rw [if_neg s1_27] at h
  by_cases s1_28 : p0 = 28
  · rw [if_pos s1_28] at h
    refine lv_tableIn (off := 175) (tgt := 176) hx hb d_Model_needs_1 (by rw [s1_28]; decide) (by rw [s1_28]; decide) (by rw [s1_28]; decide) (by decide) ?_
    refine lv_iconst (v := 1) hx hb d_Model_needs_176 (by decide) ?_
    obtain rfl := Option.some.inj h
    exact W.iret (v := 1) hx hb hr (fun t ht hW => ⟨_, rfl, rfl, ht⟩) (fun _ h => by cases h) d_Model_needs_177
  rw [if_neg s1_28] at h
  by_cases s1_29 : p0 = 29
  · rw [if_pos s1_29] at h
    refine lv_tableIn (off := 181) (tgt := 182) hx hb d_Model_needs_1 (by rw [s1_29]; decide) (by rw [s1_29]; decide) (by rw [s1_29]; decide) (by decide) ?_
    refine lv_iconst (v := 0) hx hb d_Model_needs_182 (by decide) ?_
    obtain rfl := Option.some.inj h
    exact W.iret (v := 0) hx hb hr (fun t ht hW => ⟨_, rfl, rfl, ht⟩) (fun _ h => by cases h) d_Model_needs_183
  rw [if_neg s1_29] at h
  by_cases s1_30 : p0 = 30
  · rw [if_pos s1_30] at h
    refine lv_tableIn (off := 177) (tgt := 178) hx hb d_Model_needs_1 (by rw [s1_30]; decide) (by rw [s1_30]; decide) (by rw [s1_30]; decide) (by decide) ?_
    refine lv_iconst (v := 2) hx hb d_Model_needs_178 (by decide) ?_
    obtain rfl := Option.some.inj h
    exact W.iret (v := 2) hx hb hr (fun t ht hW => ⟨_, rfl, rfl, ht⟩) (fun _ h => by cases h) d_Model_needs_179
  rw [if_neg s1_30] at h
  by_cases s1_31 : p0 = 31
  · rw [if_pos s1_31] at h
    refine lv_tableIn (off := 175) (tgt := 176) hx hb d_Model_needs_1 (by rw [s1_31]; decide) (by rw [s1_31]; decide) (by rw [s1_31]; decide) (by decide) ?_
    refine lv_iconst (v := 1) hx hb d_Model_needs_176 (by decide) ?_
    obtain rfl := Option.some.inj h
    exact W.iret (v := 1) hx hb hr (fun t ht hW => ⟨_, rfl, rfl, ht⟩) (fun _ h => by cases h) d_Model_needs_177
  rw [if_neg s1_31] at h
  by_cases s1_32 : p0 = 32
  · rw [if_pos s1_32] at h
    refine lv_tableIn (off := 177) (tgt := 178) hx hb d_Model_needs_1 (by rw [s1_32]; decide) (by rw [s1_32]; decide) (by rw [s1_32]; decide) (by decide) ?_
    refine lv_iconst (v := 2) hx hb d_Model_needs_178 (by decide) ?_
    obtain rfl := Option.some.inj h
    exact W.iret (v := 2) hx hb hr (fun t ht hW => ⟨_, rfl, rfl, ht⟩) (fun _ h => by cases h) d_Model_needs_179
  rw [if_neg s1_32] at h
  by_cases s1_33 : p0 = 33
  · rw [if_pos s1_33] at h
    refine lv_tableIn (off := 177) (tgt := 178) hx hb d_Model_needs_1 (by rw [s1_33]; decide) (by rw [s1_33]; decide) (by rw [s1_33]; decide) (by decide) ?_
    refine lv_iconst (v := 2) hx hb d_Model_needs_178 (by decide) ?_
    obtain rfl := Option.some.inj h
    exact W.iret (v := 2) hx hb hr (fun t ht hW => ⟨_, rfl, rfl, ht⟩) (fun _ h => by cases h) d_Model_needs_179
  rw [if_neg s1_33] at h
  by_cases s1_34 : p0 = 34
  · rw [if_pos s1_34] at h
    refine lv_tableIn (off := 181) (tgt := 182) hx hb d_Model_needs_1 (by rw [s1_34]; decide) (by rw [s1_34]; decide) (by rw [s1_34]; decide) (by decide) ?_
    refine lv_iconst (v := 0) hx hb d_Model_needs_182 (by decide) ?_
    obtain rfl := Option.some.inj h
    exact W.iret (v := 0) hx hb hr (fun t ht hW => ⟨_, rfl, rfl, ht⟩) (fun _ h => by cases h) d_Model_needs_183
  rw [if_neg s1_34] at h
  by_cases s1_35 : p0 = 35
  · rw [if_pos s1_35] at h
    refine lv_tableIn (off := 181) (tgt := 182) hx hb d_Model_needs_1 (by rw [s1_35]; decide) (by rw [s1_35]; decide) (by rw [s1_35]; decide) (by decide) ?_
    refine lv_iconst (v := 0) hx hb d_Model_needs_182 (by decide) ?_
    obtain rfl := Option.some.inj h
    exact W.iret (v := 0) hx hb hr (fun t ht hW => ⟨_, rfl, rfl, ht⟩) (fun _ h => by cases h) d_Model_needs_183
  rw [if_neg s1_35] at h
  by_cases s1_36 : p0 = 36
  · rw [if_pos s1_36] at h
    refine lv_tableIn (off := 181) (tgt := 182) hx hb d_Model_needs_1 (by rw [s1_36]; decide) (by rw [s1_36]; decide) (by rw [s1_36]; decide) (by decide) ?_
    refine lv_iconst (v := 0) hx hb d_Model_needs_182 (by decide) ?_
    obtain rfl := Option.some.inj h
    exact W.iret (v := 0) hx hb hr (fun t ht hW => ⟨_, rfl, rfl, ht⟩) (fun _ h => by cases h) d_Model_needs_183
  rw [if_neg s1_36] at h
  by_cases s1_37 : p0 = 37
  · rw [if_pos s1_37] at h
    refine lv_tableIn (off := 181) (tgt := 182) hx hb d_Model_needs_1 (by rw [s1_37]; decide) (by rw [s1_37]; decide) (by rw [s1_37]; decide) (by decide) ?_
    refine lv_iconst (v := 0) hx hb d_Model_needs_182 (by decide) ?_
    obtain rfl := Option.some.inj h
    exact W.iret (v := 0) hx hb hr (fun t ht hW => ⟨_, rfl, rfl, ht⟩) (fun _ h => by cases h) d_Model_needs_183
  rw [if_neg s1_37] at h
  by_cases s1_38 : p0 = 38
  · rw [if_pos s1_38] at h
    refine lv_tableIn (off := 181) (tgt := 182) hx hb d_Model_needs_1 (by rw [s1_38]; decide) (by rw [s1_38]; decide) (by rw [s1_38]; decide) (by decide) ?_
    refine lv_iconst (v := 0) hx hb d_Model_needs_182 (by decide) ?_
    obtain rfl := Option.some.inj h
    exact W.iret (v := 0) hx hb hr (fun t ht hW => ⟨_, rfl, rfl, ht⟩) (fun _ h => by cases h) d_Model_needs_183
  rw [if_neg s1_38] at h
  by_cases s1_39 : p0 = 39
  · rw [if_pos s1_39] at h
    refine lv_tableIn (off := 177) (tgt := 178) hx hb d_Model_needs_1 (by rw [s1_39]; decide) (by rw [s1_39]; decide) (by rw [s1_39]; decide) (by decide) ?_
    refine lv_iconst (v := 2) hx hb d_Model_needs_178 (by decide) ?_
    obtain rfl := Option.some.inj h
    exact W.iret (v := 2) hx hb hr (fun t ht hW => ⟨_, rfl, rfl, ht⟩) (fun _ h => by cases h) d_Model_needs_179
  rw [if_neg s1_39] at h
  refine lv_tableOut (tgt := 182) hx hb d_Model_needs_1 (by have q0 := lv_neT s1_0 (a := 0) (by decide); have q1 := lv_neT s1_1 (a := 1) (by decide); have q2 := lv_neT s1_2 (a := 2) (by decide); have q3 := lv_neT s1_3 (a := 3) (by decide); have q4 := lv_neT s1_4 (a := 4) (by decide); have q5 := lv_neT s1_5 (a := 5) (by decide); have q6 := lv_neT s1_6 (a := 6) (by decide); have q7 := lv_neT s1_7 (a := 7) (by decide); have q8 := lv_neT s1_8 (a := 8) (by decide); have q9 := lv_neT s1_9 (a := 9) (by decide); have q10 := lv_neT s1_10 (a := 10) (by decide); have q11 := lv_neT s1_11 (a := 11) (by decide); have q12 := lv_neT s1_12 (a := 12) (by decide); have q13 := lv_neT s1_13 (a := 13) (by decide); have q14 := lv_neT s1_14 (a := 14) (by decide); have q15 := lv_neT s1_15 (a := 15) (by decide); have q16 := lv_neT s1_16 (a := 16) (by decide); have q17 := lv_neT s1_17 (a := 17) (by decide); have q18 := lv_neT s1_18 (a := 18) (by decide); have q19 := lv_neT s1_19 (a := 19) (by decide); have q20 := lv_neT s1_20 (a := 20) (by decide); have q21 := lv_neT s1_21 (a := 21) (by decide); have q22 := lv_neT s1_22 (a := 22) (by decide); have q23 := lv_neT s1_23 (a := 23) (by decide); have q24 := lv_neT s1_24 (a := 24) (by decide); have q25 := lv_neT s1_25 (a := 25) (by decide); have q26 := lv_neT s1_26 (a := 26) (by decide); have q27 := lv_neT s1_27 (a := 27) (by decide); have q28 := lv_neT s1_28 (a := 28) (by decide); have q29 := lv_neT s1_29 (a := 29) (by decide); have q30 := lv_neT s1_30 (a := 30) (by decide); have q31 := lv_neT s1_31 (a := 31) (by decide); have q32 := lv_neT s1_32 (a := 32) (by decide); have q33 := lv_neT s1_33 (a := 33) (by decide); have q34 := lv_neT s1_34 (a := 34) (by decide); have q35 := lv_neT s1_35 (a := 35) (by decide); have q36 := lv_neT s1_36 (a := 36) (by decide); have q37 := lv_neT s1_37 (a := 37) (by decide); have q38 := lv_neT s1_38 (a := 38) (by decide); have q39 := lv_neT s1_39 (a := 39) (by decide); omega) (by decide) ?_
  refine lv_iconst (v := 0) hx hb d_Model_needs_182 (by decide) ?_
  obtain rfl := Option.some.inj h
  exact W.iret (v := 0) hx hb hr (fun t ht hW => ⟨_, rfl, rfl, ht⟩) (fun _ h => by cases h) d_Model_needs_183

set_option maxHeartbeats 4000000 in
set_option maxRecDepth 100000 in
theorem c_Model_give (l : Launch) (dC : Nat → ClassId) (dI : Nat → Nat → Nat) (N : Nat) (cB : ClassId) (cI : ClassId) (o_Model : Nat) (r : Nat → Nat) (I : Nat → Int32) (F : Nat → Nat → Int32) (p0 : Int32) (p1 : Int32) (p2 : Int32) (sz : Nat) (z : Int32 × (Nat → Nat → Int32) × (Nat → Int32)) (h : m_Model_give N I F p0 p1 p2 = some z) : Met l y_Model_give (.code y_Model_give b_Model_give 4 (some .int) :: lw_g) ({ frames := 0, cells := 0, slots := 0, locals := 0 }) (va_Pc [.ref o_Model, .int p0, .int p1, .int p2] (fun U => dz_N U ∧ U.heap.size = sz ∧ va_P (dC, dI) classes (wD cB cI o_Model r I F) U.heap ∧ va_K (dC, dI) classes [(cB, .byte), (cI, .int)] U ∧ va_D (fun _ => True) (wD cB cI o_Model r I F))) (va_Qi (fun (r : Int32) (_ : Unit) => r = z.1) (fun (u : Unit) t => va_P (dC, dI) classes (wD cB cI o_Model r z.2.2 z.2.1) t.heap ∧ va_K (dC, dI) classes [(cB, .byte), (cI, .int)] t ∧ va_D (va_A (wD cB cI o_Model r I F) sz) (wD cB cI o_Model r z.2.2 z.2.1)) (va_A (wD cB cI o_Model r I F) sz)) 0 0 (va_A (wD cB cI o_Model r I F) sz) := by
  refine Met.ofW (cc := b_Model_give) (maxL := 4) (ret := (some .int)) (by decide +kernel) rfl ?_
  intro p e s m args below meth c s₁ B hml hv
  obtain ⟨rfl, hN, hsz, hP, hK, hD0⟩ := hv
  have hx := B.exec
  have hb := B.bytes
  have hr := B.returns
  have hg : ∀ w ∈ lw_g, w.before _ s = true := fun w hw => atoms_spec (ws := .code y_Model_give b_Model_give 4 (some .int) :: lw_g) B.pre w (List.mem_cons_of_mem _ hw)
  have hown : s.vm.findClass R_Model = some m.cls := findClass_of_methodNamed B.named
  have hlocks := B.notSynchronized
  clear B
  subst hsz
  have hD := hD0.self (sz := s.heap.size)
  generalize hAe : va_A (wD cB cI o_Model r I F) s.heap.size = A at hD ⊢
  have hA : ∀ q : Nat, s.heap.size ≤ q → A q := fun q h => by rw [← hAe]; exact Or.inr h
  have hS : va_S A s.heap s.heap [] := va_S.rf
  have hP : va_P (dC, dI) classes (wD cB cI o_Model r I F) s.heap := hP
  have hl := lv_entry ([.ref o_Model, .int p0, .int p1, .int p2]) (n := 4) (Nat.le_of_ble_eq_true rfl)
  rw [lg_entry_eq]
  generalize (lg_sl ([.ref o_Model, .int p0, .int p1, .int p2]) ++ List.replicate (4 - (lg_sl ([.ref o_Model, .int p0, .int p1, .int p2])).length) Slot.unset).toArray = ls at hl ⊢
  have hl : lv_has ls 4 [(0, .ref o_Model), (1, .int p0), (2, .int p1), (3, .int p2)] := hl
  unfold m_Model_give at h
  refine lv_aload_n hx hb d_Model_give_0 rfl (lv_at hl 0 rfl) ?_
  refine lv_dup hx hb d_Model_give_1 rfl ?_
  refine va_get (D := (dC, dI)) (ci := 10) (v := .int (I 29)) (C := R_Model) (T := F_Model) (N := 54) hx hb hg i_Model hown hK hP 0 rfl rfl 29 (by decide) (hg _ k719) (fun _ h9 => h9) rfl d_Model_give_2 ?_
  refine lv_iload_n hx hb d_Model_give_5 rfl (lv_at hl 1 rfl) ?_
  refine lv_isub hx hb d_Model_give_6 ?_
  refine va_put (D := (dC, dI)) (ci := 10) (v := .int ((I 29) - p0)) (ty := .int) (C := R_Model) (T := F_Model) (N := 54) hx hb hg i_Model t_Model t_Model_ok n_Model hown hK hP hD hS 0 rfl rfl 29 (by decide) (hg _ k719) (fun _ h9 => h9) rfl (by decide +kernel) rfl rfl (Nat.le_of_ble_eq_true rfl) d_Model_give_7 (fun H locs hP hD hS => ?_)
  obtain ⟨J1, eJ1, h⟩ := dz_lt h
  have hP : va_P (dC, dI) classes (wD cB cI o_Model r J1 F) H := by rw [eJ1]; exact hP
  have hD : va_D A (wD cB cI o_Model r J1 F) := by rw [eJ1]; exact hD
  refine lv_aload_n hx hb d_Model_give_10 rfl (lv_at hl 0 rfl) ?_
  refine va_get (D := (dC, dI)) (ci := 10) (v := .ref (r 27)) (C := R_Model) (T := F_Model) (N := 54) hx hb hg i_Model hown hK hP 0 rfl rfl 27 (by decide) (hg _ k731) (fun _ h9 => h9) rfl d_Model_give_11 ?_
  refine lv_aload_n hx hb d_Model_give_14 rfl (lv_at hl 0 rfl) ?_
  refine va_get (D := (dC, dI)) (ci := 10) (v := .int (J1 29)) (C := R_Model) (T := F_Model) (N := 54) hx hb hg i_Model hown hK hP 0 rfl rfl 29 (by decide) (hg _ k719) (fun _ h9 => h9) rfl d_Model_give_15 ?_
  refine lv_iload_n hx hb d_Model_give_18 rfl (lv_at hl 2 rfl) ?_
  obtain ⟨i2, h⟩ := dz_oi h
  refine va_iast (D := (dC, dI)) (f := F 27) hx hb hK hP hD hS 17 1 rfl rfl i2 d_Model_give_19 (fun H locs hP hD hS => ?_)
  obtain ⟨G3, eG3, h⟩ := dz_lt h
  have hP : va_P (dC, dI) classes (wD cB cI o_Model r J1 G3) H := by rw [eG3]; exact hP
  have hD : va_D A (wD cB cI o_Model r J1 G3) := by rw [eG3]; exact hD
  refine lv_aload_n hx hb d_Model_give_20 rfl (lv_at hl 0 rfl) ?_
  refine va_get (D := (dC, dI)) (ci := 10) (v := .ref (r 28)) (C := R_Model) (T := F_Model) (N := 54) hx hb hg i_Model hown hK hP 0 rfl rfl 28 (by decide) (hg _ k732) (fun _ h9 => h9) rfl d_Model_give_21 ?_
  refine lv_aload_n hx hb d_Model_give_24 rfl (lv_at hl 0 rfl) ?_
  refine va_get (D := (dC, dI)) (ci := 10) (v := .int (J1 29)) (C := R_Model) (T := F_Model) (N := 54) hx hb hg i_Model hown hK hP 0 rfl rfl 29 (by decide) (hg _ k719) (fun _ h9 => h9) rfl d_Model_give_25 ?_
  refine lv_iload_n hx hb d_Model_give_28 rfl (lv_at hl 3 rfl) ?_
  obtain ⟨i4, h⟩ := dz_oi h
  refine va_iast (D := (dC, dI)) (f := G3 28) hx hb hK hP hD hS 18 1 rfl rfl i4 d_Model_give_29 (fun H locs hP hD hS => ?_)
  obtain ⟨G5, eG5, h⟩ := dz_lt h
  have hP : va_P (dC, dI) classes (wD cB cI o_Model r J1 G5) H := by rw [eG5]; exact hP
  have hD : va_D A (wD cB cI o_Model r J1 G5) := by rw [eG5]; exact hD
  refine lv_aload_n hx hb d_Model_give_30 rfl (lv_at hl 0 rfl) ?_
  refine lv_dup hx hb d_Model_give_31 rfl ?_
  refine va_get (D := (dC, dI)) (ci := 10) (v := .int (J1 29)) (C := R_Model) (T := F_Model) (N := 54) hx hb hg i_Model hown hK hP 0 rfl rfl 29 (by decide) (hg _ k719) (fun _ h9 => h9) rfl d_Model_give_32 ?_
  refine lv_iconst (v := 1) hx hb d_Model_give_35 (by decide) ?_
  refine lv_iadd hx hb d_Model_give_36 ?_
  refine va_put (D := (dC, dI)) (ci := 10) (v := .int ((J1 29) + 1)) (ty := .int) (C := R_Model) (T := F_Model) (N := 54) hx hb hg i_Model t_Model t_Model_ok n_Model hown hK hP hD hS 0 rfl rfl 29 (by decide) (hg _ k719) (fun _ h9 => h9) rfl (by decide +kernel) rfl rfl (Nat.le_of_ble_eq_true rfl) d_Model_give_37 (fun H locs hP hD hS => ?_)
  obtain ⟨J6, eJ6, h⟩ := dz_lt h
  have hP : va_P (dC, dI) classes (wD cB cI o_Model r J6 G5) H := by rw [eJ6]; exact hP
  have hD : va_D A (wD cB cI o_Model r J6 G5) := by rw [eJ6]; exact hD
  refine lv_iconst (v := 5) hx hb d_Model_give_40 (by decide) ?_
  obtain rfl := Option.some.inj h
  have hP9 := hP
  have hD9 := hD
  have hK9 := hK
  exact W.iret (v := 5) hx hb hr (fun t ht hW => ⟨⟨5, (), rfl, rfl, by rw [ht]; exact hP9, va_K.moved hW.alike hK9, hD9⟩, hS.F ht⟩) hS.2.2 d_Model_give_41

set_option maxHeartbeats 4000000 in
set_option maxRecDepth 100000 in
theorem c_Model_more (l : Launch) (dC : Nat → ClassId) (dI : Nat → Nat → Nat) (N : Nat) (cB : ClassId) (cI : ClassId) (o_Model : Nat) (r : Nat → Nat) (I : Nat → Int32) (F : Nat → Nat → Int32) (p0 : Int32) (p1 : Int32) (sz : Nat) (z : Int32 × (Nat → Nat → Int32) × (Nat → Int32)) (h : m_Model_more N I F p0 p1 = some z) : Met l y_Model_more (.code y_Model_more b_Model_more 3 (some .int) :: lw_g) ({ frames := 1, cells := 0, slots := 0, locals := 23 }) (va_Pc [.ref o_Model, .int p0, .int p1] (fun U => dz_N U ∧ U.heap.size = sz ∧ va_P (dC, dI) classes (wD cB cI o_Model r I F) U.heap ∧ va_K (dC, dI) classes [(cB, .byte), (cI, .int)] U ∧ va_D (fun _ => True) (wD cB cI o_Model r I F))) (va_Qi (fun (r : Int32) (_ : Unit) => r = z.1) (fun (u : Unit) t => va_P (dC, dI) classes (wD cB cI o_Model r z.2.2 z.2.1) t.heap ∧ va_K (dC, dI) classes [(cB, .byte), (cI, .int)] t ∧ va_D (va_A (wD cB cI o_Model r I F) sz) (wD cB cI o_Model r z.2.2 z.2.1)) (va_A (wD cB cI o_Model r I F) sz)) 0 0 (va_A (wD cB cI o_Model r I F) sz) := by
  refine Met.ofW (cc := b_Model_more) (maxL := 3) (ret := (some .int)) (by decide +kernel) rfl ?_
  intro p e s m args below meth c s₁ B hml hv
  obtain ⟨rfl, hN, hsz, hP, hK, hD0⟩ := hv
  have hx := B.exec
  have hb := B.bytes
  have hr := B.returns
  have hg : ∀ w ∈ lw_g, w.before _ s = true := fun w hw => atoms_spec (ws := .code y_Model_more b_Model_more 3 (some .int) :: lw_g) B.pre w (List.mem_cons_of_mem _ hw)
  have hown : s.vm.findClass R_Model = some m.cls := findClass_of_methodNamed B.named
  have hlocks := B.notSynchronized
  clear B
  subst hsz
  have hD := hD0.self (sz := s.heap.size)
  generalize hAe : va_A (wD cB cI o_Model r I F) s.heap.size = A at hD ⊢
  have hA : ∀ q : Nat, s.heap.size ≤ q → A q := fun q h => by rw [← hAe]; exact Or.inr h
  have hS : va_S A s.heap s.heap [] := va_S.rf
  have hP : va_P (dC, dI) classes (wD cB cI o_Model r I F) s.heap := hP
  have hl := lv_entry ([.ref o_Model, .int p0, .int p1]) (n := 3) (Nat.le_of_ble_eq_true rfl)
  rw [lg_entry_eq]
  generalize (lg_sl ([.ref o_Model, .int p0, .int p1]) ++ List.replicate (3 - (lg_sl ([.ref o_Model, .int p0, .int p1])).length) Slot.unset).toArray = ls at hl ⊢
  have hl : lv_has ls 3 [(0, .ref o_Model), (1, .int p0), (2, .int p1)] := hl
  unfold m_Model_more at h
  refine lv_aload_n hx hb d_Model_more_0 rfl (lv_at hl 0 rfl) ?_
  refine va_get (D := (dC, dI)) (ci := 10) (v := .int (I 29)) (C := R_Model) (T := F_Model) (N := 54) hx hb hg i_Model hown hK hP 0 rfl rfl 29 (by decide) (hg _ k719) (fun _ h9 => h9) rfl d_Model_more_1 ?_
  refine lv_ldc (v := 65536) hx hb hown (hg _ k713) d_Model_more_4 ?_
  refine lv_icmp_ne (tgt := 13) hx hb d_Model_more_6 (by decide) (fun c1 => ?_) (fun c1 => ?_)
  · rw [if_neg c1] at h
    refine lv_aload_n hx hb d_Model_more_13 rfl (lv_at hl 0 rfl) ?_
    refine lv_iconst (v := 0) hx hb d_Model_more_14 (by decide) ?_
    refine lv_iload_n hx hb d_Model_more_15 rfl (lv_at hl 1 rfl) ?_
    refine lv_iload_n hx hb d_Model_more_16 rfl (lv_at hl 2 rfl) ?_
    obtain ⟨⟨z2_1, z2_2, z2_3⟩, hc2, h⟩ := dz_ob h
    try dsimp only at h
    have hPc := hP
    have hKc := hK
    have hDc := hD
    have hFc := dz_freeall hD hS hA
    refine va_calli (va_runV (As := [.int 0, .int p0, .int p1]) (rest := []) ⟨hx, hb, hml, hown, hg⟩ (c_Model_give l dC dI N cB cI o_Model r I F (0 : Int32) p0 p1 s.heap.size (z2_1, z2_2, z2_3) hc2) (cwV 3 hg (gd_V k734 k735 k736 k707 k733) rfl rfl rfl (by decide +kernel) ⟨Nat.le_of_ble_eq_true rfl, Nat.le_of_ble_eq_true rfl⟩) ⟨dz_blind, va_recv hKc hPc (ci := 10) (q0 := 0) rfl rfl, fun U hU hW => ⟨rfl, dz_Nw hW hN, by rw [hU], by rw [hU]; exact hPc, va_K.moved hW.alike hKc, hDc.weaken (fun _ _ _ _ => trivial)⟩⟩ rfl rfl hl.1 rfl (lv_room (Nat.le_of_ble_eq_true rfl)) d_Model_more_17 ⟨Nat.le_of_ble_eq_true rfl, Nat.le_of_ble_eq_true rfl⟩) hS (fun q _ h => hFc q h) hFc (fun r2 u2 t2 H1 locs ht hvm hw hB hz1 hk1 hS => ?_)
    obtain ⟨hP1, hK1, hD1⟩ := hB
    rw [ht] at hP1
    have hP := hP1
    have hD := hD1.weaken (fun _ q _ h => hFc q.1 h)
    have hw : z2_1 = r2 := hw.symm
    subst hw
    generalize H1 = H at hP hS ⊢
    have hP : va_P (dC, dI) classes (wD cB cI o_Model r z2_3 z2_2) H := hP
    have hD : va_D A (wD cB cI o_Model r z2_3 z2_2) := hD
    obtain rfl := Option.some.inj h
    have hP9 := hP
    have hD9 := hD
    have hK9 := hK
    exact W.iret (v := z2_1) hx hb hr (fun t ht hW => ⟨⟨z2_1, (), rfl, rfl, by rw [ht]; exact hP9, va_K.moved hW.alike hK9, hD9⟩, hS.F ht⟩) hS.2.2 d_Model_more_20
  · rw [if_pos c1] at h
    refine lv_iconst (v := 3) hx hb d_Model_more_9 (by decide) ?_
    refine lv_goto (tgt := 20) hx hb d_Model_more_10 (by decide) ?_
    obtain rfl := Option.some.inj h
    have hP9 := hP
    have hD9 := hD
    have hK9 := hK
    exact W.iret (v := 3) hx hb hr (fun t ht hW => ⟨⟨3, (), rfl, rfl, by rw [ht]; exact hP9, va_K.moved hW.alike hK9, hD9⟩, hS.F ht⟩) hS.2.2 d_Model_more_20
