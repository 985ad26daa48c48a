theorem d_Model_slide_0 : decode b_Model_slide 0 = .ok (.aload_n 0, 1) := by decide +kernel
theorem d_Model_slide_1 : decode b_Model_slide 1 = .ok (.invokevirtual 151, 3) := by decide +kernel
theorem d_Model_slide_4 : decode b_Model_slide 4 = .ok (.istore_n 1, 1) := by decide +kernel
theorem d_Model_slide_5 : decode b_Model_slide 5 = .ok (.iconst 0, 1) := by decide +kernel
theorem d_Model_slide_6 : decode b_Model_slide 6 = .ok (.istore_n 2, 1) := by decide +kernel
theorem d_Model_slide_7 : decode b_Model_slide 7 = .ok (.iload_n 2, 1) := by decide +kernel
theorem d_Model_slide_8 : decode b_Model_slide 8 = .ok (.sipush 2048, 3) := by decide +kernel
theorem d_Model_slide_11 : decode b_Model_slide 11 = .ok (.if_icmp .ge 45, 3) := by decide +kernel
theorem d_Model_slide_14 : decode b_Model_slide 14 = .ok (.aload_n 0, 1) := by decide +kernel
theorem d_Model_slide_15 : decode b_Model_slide 15 = .ok (.getfield 23, 3) := by decide +kernel
theorem d_Model_slide_18 : decode b_Model_slide 18 = .ok (.iload_n 2, 1) := by decide +kernel
theorem d_Model_slide_19 : decode b_Model_slide 19 = .ok (.aload_n 0, 1) := by decide +kernel
theorem d_Model_slide_20 : decode b_Model_slide 20 = .ok (.getfield 20, 3) := by decide +kernel
theorem d_Model_slide_23 : decode b_Model_slide 23 = .ok (.iload_n 2, 1) := by decide +kernel
theorem d_Model_slide_24 : decode b_Model_slide 24 = .ok (.iaload, 1) := by decide +kernel
theorem d_Model_slide_25 : decode b_Model_slide 25 = .ok (.iconst 2, 1) := by decide +kernel
theorem d_Model_slide_26 : decode b_Model_slide 26 = .ok (.if_icmp .ne 17, 3) := by decide +kernel
theorem d_Model_slide_29 : decode b_Model_slide 29 = .ok (.aload_n 0, 1) := by decide +kernel
theorem d_Model_slide_30 : decode b_Model_slide 30 = .ok (.getfield 17, 3) := by decide +kernel
theorem d_Model_slide_33 : decode b_Model_slide 33 = .ok (.aload_n 0, 1) := by decide +kernel
theorem d_Model_slide_34 : decode b_Model_slide 34 = .ok (.getfield 23, 3) := by decide +kernel
theorem d_Model_slide_37 : decode b_Model_slide 37 = .ok (.iload_n 2, 1) := by decide +kernel
theorem d_Model_slide_38 : decode b_Model_slide 38 = .ok (.iaload, 1) := by decide +kernel
theorem d_Model_slide_39 : decode b_Model_slide 39 = .ok (.iaload, 1) := by decide +kernel
theorem d_Model_slide_40 : decode b_Model_slide 40 = .ok (.goto 9, 3) := by decide +kernel
theorem d_Model_slide_43 : decode b_Model_slide 43 = .ok (.aload_n 0, 1) := by decide +kernel
theorem d_Model_slide_44 : decode b_Model_slide 44 = .ok (.getfield 23, 3) := by decide +kernel
theorem d_Model_slide_47 : decode b_Model_slide 47 = .ok (.iload_n 2, 1) := by decide +kernel
theorem d_Model_slide_48 : decode b_Model_slide 48 = .ok (.iaload, 1) := by decide +kernel
theorem d_Model_slide_49 : decode b_Model_slide 49 = .ok (.iastore, 1) := by decide +kernel
theorem d_Model_slide_50 : decode b_Model_slide 50 = .ok (.iinc 2 1, 3) := by decide +kernel
theorem d_Model_slide_53 : decode b_Model_slide 53 = .ok (.goto (-46), 3) := by decide +kernel
theorem d_Model_slide_56 : decode b_Model_slide 56 = .ok (.iconst 0, 1) := by decide +kernel
theorem d_Model_slide_57 : decode b_Model_slide 57 = .ok (.istore_n 2, 1) := by decide +kernel
theorem d_Model_slide_58 : decode b_Model_slide 58 = .ok (.iload_n 2, 1) := by decide +kernel
theorem d_Model_slide_59 : decode b_Model_slide 59 = .ok (.aload_n 0, 1) := by decide +kernel
theorem d_Model_slide_60 : decode b_Model_slide 60 = .ok (.getfield 135, 3) := by decide +kernel
theorem d_Model_slide_63 : decode b_Model_slide 63 = .ok (.if_icmp .ge 52, 3) := by decide +kernel
theorem d_Model_slide_66 : decode b_Model_slide 66 = .ok (.aload_n 0, 1) := by decide +kernel
theorem d_Model_slide_67 : decode b_Model_slide 67 = .ok (.invokevirtual 138, 3) := by decide +kernel
theorem d_Model_slide_70 : decode b_Model_slide 70 = .ok (.ifCond .eq 45, 3) := by decide +kernel
theorem d_Model_slide_73 : decode b_Model_slide 73 = .ok (.aload_n 0, 1) := by decide +kernel
theorem d_Model_slide_74 : decode b_Model_slide 74 = .ok (.getfield 66, 3) := by decide +kernel
theorem d_Model_slide_77 : decode b_Model_slide 77 = .ok (.iload_n 2, 1) := by decide +kernel
theorem d_Model_slide_78 : decode b_Model_slide 78 = .ok (.aload_n 0, 1) := by decide +kernel
theorem d_Model_slide_79 : decode b_Model_slide 79 = .ok (.getfield 63, 3) := by decide +kernel
theorem d_Model_slide_82 : decode b_Model_slide 82 = .ok (.iload_n 2, 1) := by decide +kernel
theorem d_Model_slide_83 : decode b_Model_slide 83 = .ok (.iaload, 1) := by decide +kernel
theorem d_Model_slide_84 : decode b_Model_slide 84 = .ok (.iconst 2, 1) := by decide +kernel
theorem d_Model_slide_85 : decode b_Model_slide 85 = .ok (.if_icmp .ne 17, 3) := by decide +kernel
theorem d_Model_slide_88 : decode b_Model_slide 88 = .ok (.aload_n 0, 1) := by decide +kernel
theorem d_Model_slide_89 : decode b_Model_slide 89 = .ok (.getfield 17, 3) := by decide +kernel
theorem d_Model_slide_92 : decode b_Model_slide 92 = .ok (.aload_n 0, 1) := by decide +kernel
theorem d_Model_slide_93 : decode b_Model_slide 93 = .ok (.getfield 66, 3) := by decide +kernel
theorem d_Model_slide_96 : decode b_Model_slide 96 = .ok (.iload_n 2, 1) := by decide +kernel
theorem d_Model_slide_97 : decode b_Model_slide 97 = .ok (.iaload, 1) := by decide +kernel
theorem d_Model_slide_98 : decode b_Model_slide 98 = .ok (.iaload, 1) := by decide +kernel
theorem d_Model_slide_99 : decode b_Model_slide 99 = .ok (.goto 9, 3) := by decide +kernel
theorem d_Model_slide_102 : decode b_Model_slide 102 = .ok (.aload_n 0, 1) := by decide +kernel
theorem d_Model_slide_103 : decode b_Model_slide 103 = .ok (.getfield 66, 3) := by decide +kernel
theorem d_Model_slide_106 : decode b_Model_slide 106 = .ok (.iload_n 2, 1) := by decide +kernel
theorem d_Model_slide_107 : decode b_Model_slide 107 = .ok (.iaload, 1) := by decide +kernel
theorem d_Model_slide_108 : decode b_Model_slide 108 = .ok (.iastore, 1) := by decide +kernel
theorem d_Model_slide_109 : decode b_Model_slide 109 = .ok (.iinc 2 1, 3) := by decide +kernel
theorem d_Model_slide_112 : decode b_Model_slide 112 = .ok (.goto (-54), 3) := by decide +kernel
theorem d_Model_slide_115 : decode b_Model_slide 115 = .ok (.iconst 0, 1) := by decide +kernel
theorem d_Model_slide_116 : decode b_Model_slide 116 = .ok (.istore_n 2, 1) := by decide +kernel
theorem d_Model_slide_117 : decode b_Model_slide 117 = .ok (.iload_n 2, 1) := by decide +kernel
theorem d_Model_slide_118 : decode b_Model_slide 118 = .ok (.aload_n 0, 1) := by decide +kernel
theorem d_Model_slide_119 : decode b_Model_slide 119 = .ok (.getfield 142, 3) := by decide +kernel
