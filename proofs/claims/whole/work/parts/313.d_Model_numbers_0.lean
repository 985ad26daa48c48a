theorem d_Model_numbers_0 : decode b_Model_numbers 0 = .ok (.aload_n 0, 1) := by decide +kernel
theorem d_Model_numbers_1 : decode b_Model_numbers 1 = .ok (.iconst 1, 1) := by decide +kernel
theorem d_Model_numbers_2 : decode b_Model_numbers 2 = .ok (.invokevirtual 250, 3) := by decide +kernel
theorem d_Model_numbers_5 : decode b_Model_numbers 5 = .ok (.istore_n 3, 1) := by decide +kernel
theorem d_Model_numbers_6 : decode b_Model_numbers 6 = .ok (.iload_n 2, 1) := by decide +kernel
theorem d_Model_numbers_7 : decode b_Model_numbers 7 = .ok (.ifCond .eq 7, 3) := by decide +kernel
theorem d_Model_numbers_10 : decode b_Model_numbers 10 = .ok (.iload_n 3, 1) := by decide +kernel
theorem d_Model_numbers_11 : decode b_Model_numbers 11 = .ok (.goto 8, 3) := by decide +kernel
theorem d_Model_numbers_14 : decode b_Model_numbers 14 = .ok (.aload_n 0, 1) := by decide +kernel
theorem d_Model_numbers_15 : decode b_Model_numbers 15 = .ok (.iconst 2, 1) := by decide +kernel
theorem d_Model_numbers_16 : decode b_Model_numbers 16 = .ok (.invokevirtual 250, 3) := by decide +kernel
theorem d_Model_numbers_19 : decode b_Model_numbers 19 = .ok (.istore 4, 2) := by decide +kernel
theorem d_Model_numbers_21 : decode b_Model_numbers 21 = .ok (.iload_n 2, 1) := by decide +kernel
theorem d_Model_numbers_22 : decode b_Model_numbers 22 = .ok (.ifCond .eq 7, 3) := by decide +kernel
theorem d_Model_numbers_25 : decode b_Model_numbers 25 = .ok (.iconst 1, 1) := by decide +kernel
theorem d_Model_numbers_26 : decode b_Model_numbers 26 = .ok (.goto 4, 3) := by decide +kernel
theorem d_Model_numbers_29 : decode b_Model_numbers 29 = .ok (.iconst 2, 1) := by decide +kernel
theorem d_Model_numbers_30 : decode b_Model_numbers 30 = .ok (.istore 5, 2) := by decide +kernel
theorem d_Model_numbers_32 : decode b_Model_numbers 32 = .ok (.iload_n 1, 1) := by decide +kernel
theorem d_Model_numbers_33 : decode b_Model_numbers 33 = .ok (.iconst 5, 1) := by decide +kernel
theorem d_Model_numbers_34 : decode b_Model_numbers 34 = .ok (.if_icmp .ge 109, 3) := by decide +kernel
theorem d_Model_numbers_37 : decode b_Model_numbers 37 = .ok (.iload_n 1, 1) := by decide +kernel
theorem d_Model_numbers_38 : decode b_Model_numbers 38 = .ok (.ifCond .ne 12, 3) := by decide +kernel
theorem d_Model_numbers_41 : decode b_Model_numbers 41 = .ok (.iload 4, 2) := by decide +kernel
theorem d_Model_numbers_43 : decode b_Model_numbers 43 = .ok (.i2l, 1) := by decide +kernel
theorem d_Model_numbers_44 : decode b_Model_numbers 44 = .ok (.iload_n 3, 1) := by decide +kernel
theorem d_Model_numbers_45 : decode b_Model_numbers 45 = .ok (.i2l, 1) := by decide +kernel
theorem d_Model_numbers_46 : decode b_Model_numbers 46 = .ok (.ladd, 1) := by decide +kernel
theorem d_Model_numbers_47 : decode b_Model_numbers 47 = .ok (.goto 58, 3) := by decide +kernel
theorem d_Model_numbers_50 : decode b_Model_numbers 50 = .ok (.iload_n 1, 1) := by decide +kernel
theorem d_Model_numbers_51 : decode b_Model_numbers 51 = .ok (.iconst 1, 1) := by decide +kernel
theorem d_Model_numbers_52 : decode b_Model_numbers 52 = .ok (.if_icmp .ne 12, 3) := by decide +kernel
theorem d_Model_numbers_55 : decode b_Model_numbers 55 = .ok (.iload 4, 2) := by decide +kernel
theorem d_Model_numbers_57 : decode b_Model_numbers 57 = .ok (.i2l, 1) := by decide +kernel
theorem d_Model_numbers_58 : decode b_Model_numbers 58 = .ok (.iload_n 3, 1) := by decide +kernel
theorem d_Model_numbers_59 : decode b_Model_numbers 59 = .ok (.i2l, 1) := by decide +kernel
theorem d_Model_numbers_60 : decode b_Model_numbers 60 = .ok (.lsub, 1) := by decide +kernel
theorem d_Model_numbers_61 : decode b_Model_numbers 61 = .ok (.goto 44, 3) := by decide +kernel
theorem d_Model_numbers_64 : decode b_Model_numbers 64 = .ok (.iload_n 1, 1) := by decide +kernel
theorem d_Model_numbers_65 : decode b_Model_numbers 65 = .ok (.iconst 2, 1) := by decide +kernel
theorem d_Model_numbers_66 : decode b_Model_numbers 66 = .ok (.if_icmp .ne 12, 3) := by decide +kernel
theorem d_Model_numbers_69 : decode b_Model_numbers 69 = .ok (.iload 4, 2) := by decide +kernel
theorem d_Model_numbers_71 : decode b_Model_numbers 71 = .ok (.i2l, 1) := by decide +kernel
theorem d_Model_numbers_72 : decode b_Model_numbers 72 = .ok (.iload_n 3, 1) := by decide +kernel
theorem d_Model_numbers_73 : decode b_Model_numbers 73 = .ok (.i2l, 1) := by decide +kernel
theorem d_Model_numbers_74 : decode b_Model_numbers 74 = .ok (.lmul, 1) := by decide +kernel
theorem d_Model_numbers_75 : decode b_Model_numbers 75 = .ok (.goto 30, 3) := by decide +kernel
theorem d_Model_numbers_78 : decode b_Model_numbers 78 = .ok (.iload_n 1, 1) := by decide +kernel
theorem d_Model_numbers_79 : decode b_Model_numbers 79 = .ok (.iconst 3, 1) := by decide +kernel
theorem d_Model_numbers_80 : decode b_Model_numbers 80 = .ok (.if_icmp .ne 10, 3) := by decide +kernel
theorem d_Model_numbers_83 : decode b_Model_numbers 83 = .ok (.iload 4, 2) := by decide +kernel
theorem d_Model_numbers_85 : decode b_Model_numbers 85 = .ok (.i2l, 1) := by decide +kernel
theorem d_Model_numbers_86 : decode b_Model_numbers 86 = .ok (.lneg, 1) := by decide +kernel
theorem d_Model_numbers_87 : decode b_Model_numbers 87 = .ok (.goto 18, 3) := by decide +kernel
theorem d_Model_numbers_90 : decode b_Model_numbers 90 = .ok (.iload 4, 2) := by decide +kernel
theorem d_Model_numbers_92 : decode b_Model_numbers 92 = .ok (.ifCond .ge 10, 3) := by decide +kernel
theorem d_Model_numbers_95 : decode b_Model_numbers 95 = .ok (.iload 4, 2) := by decide +kernel
theorem d_Model_numbers_97 : decode b_Model_numbers 97 = .ok (.i2l, 1) := by decide +kernel
theorem d_Model_numbers_98 : decode b_Model_numbers 98 = .ok (.lneg, 1) := by decide +kernel
theorem d_Model_numbers_99 : decode b_Model_numbers 99 = .ok (.goto 6, 3) := by decide +kernel
theorem d_Model_numbers_102 : decode b_Model_numbers 102 = .ok (.iload 4, 2) := by decide +kernel
theorem d_Model_numbers_104 : decode b_Model_numbers 104 = .ok (.i2l, 1) := by decide +kernel
theorem d_Model_numbers_105 : decode b_Model_numbers 105 = .ok (.lstore 6, 2) := by decide +kernel
theorem d_Model_numbers_107 : decode b_Model_numbers 107 = .ok (.lload 6, 2) := by decide +kernel
theorem d_Model_numbers_109 : decode b_Model_numbers 109 = .ok (.lload 6, 2) := by decide +kernel
theorem d_Model_numbers_111 : decode b_Model_numbers 111 = .ok (.l2i, 1) := by decide +kernel
theorem d_Model_numbers_112 : decode b_Model_numbers 112 = .ok (.i2l, 1) := by decide +kernel
theorem d_Model_numbers_113 : decode b_Model_numbers 113 = .ok (.lcmp, 1) := by decide +kernel
theorem d_Model_numbers_114 : decode b_Model_numbers 114 = .ok (.ifCond .eq 13, 3) := by decide +kernel
theorem d_Model_numbers_117 : decode b_Model_numbers 117 = .ok (.aload_n 0, 1) := by decide +kernel
