theorem d_Model_join_0 : decode b_Model_join 0 = .ok (.aload_n 0, 1) := by decide +kernel
theorem d_Model_join_1 : decode b_Model_join 1 = .ok (.getfield 14, 3) := by decide +kernel
theorem d_Model_join_4 : decode b_Model_join 4 = .ok (.aload_n 0, 1) := by decide +kernel
theorem d_Model_join_5 : decode b_Model_join 5 = .ok (.iconst 2, 1) := by decide +kernel
theorem d_Model_join_6 : decode b_Model_join 6 = .ok (.invokevirtual 250, 3) := by decide +kernel
theorem d_Model_join_9 : decode b_Model_join 9 = .ok (.iaload, 1) := by decide +kernel
theorem d_Model_join_10 : decode b_Model_join 10 = .ok (.istore_n 1, 1) := by decide +kernel
theorem d_Model_join_11 : decode b_Model_join 11 = .ok (.iload_n 1, 1) := by decide +kernel
theorem d_Model_join_12 : decode b_Model_join 12 = .ok (.aload_n 0, 1) := by decide +kernel
theorem d_Model_join_13 : decode b_Model_join 13 = .ok (.getfield 14, 3) := by decide +kernel
theorem d_Model_join_16 : decode b_Model_join 16 = .ok (.aload_n 0, 1) := by decide +kernel
theorem d_Model_join_17 : decode b_Model_join 17 = .ok (.iconst 1, 1) := by decide +kernel
theorem d_Model_join_18 : decode b_Model_join 18 = .ok (.invokevirtual 250, 3) := by decide +kernel
theorem d_Model_join_21 : decode b_Model_join 21 = .ok (.iaload, 1) := by decide +kernel
theorem d_Model_join_22 : decode b_Model_join 22 = .ok (.iadd, 1) := by decide +kernel
theorem d_Model_join_23 : decode b_Model_join 23 = .ok (.istore_n 2, 1) := by decide +kernel
theorem d_Model_join_24 : decode b_Model_join 24 = .ok (.iload_n 2, 1) := by decide +kernel
theorem d_Model_join_25 : decode b_Model_join 25 = .ok (.ldc_w 324, 3) := by decide +kernel
theorem d_Model_join_28 : decode b_Model_join 28 = .ok (.if_icmp .le 10, 3) := by decide +kernel
theorem d_Model_join_31 : decode b_Model_join 31 = .ok (.aload_n 0, 1) := by decide +kernel
theorem d_Model_join_32 : decode b_Model_join 32 = .ok (.iconst 2, 1) := by decide +kernel
theorem d_Model_join_33 : decode b_Model_join 33 = .ok (.iconst 5, 1) := by decide +kernel
theorem d_Model_join_34 : decode b_Model_join 34 = .ok (.invokevirtual 360, 3) := by decide +kernel
theorem d_Model_join_37 : decode b_Model_join 37 = .ok (.ireturn, 1) := by decide +kernel
theorem d_Model_join_38 : decode b_Model_join 38 = .ok (.aload_n 0, 1) := by decide +kernel
theorem d_Model_join_39 : decode b_Model_join 39 = .ok (.iconst 1, 1) := by decide +kernel
theorem d_Model_join_40 : decode b_Model_join 40 = .ok (.iload_n 2, 1) := by decide +kernel
theorem d_Model_join_41 : decode b_Model_join 41 = .ok (.iconst 3, 1) := by decide +kernel
theorem d_Model_join_42 : decode b_Model_join 42 = .ok (.iadd, 1) := by decide +kernel
theorem d_Model_join_43 : decode b_Model_join 43 = .ok (.iconst 4, 1) := by decide +kernel
theorem d_Model_join_44 : decode b_Model_join 44 = .ok (.idiv, 1) := by decide +kernel
theorem d_Model_join_45 : decode b_Model_join 45 = .ok (.iadd, 1) := by decide +kernel
theorem d_Model_join_46 : decode b_Model_join 46 = .ok (.invokevirtual 379, 3) := by decide +kernel
theorem d_Model_join_49 : decode b_Model_join 49 = .ok (.ifCond .ne 5, 3) := by decide +kernel
theorem d_Model_join_52 : decode b_Model_join 52 = .ok (.iconst 3, 1) := by decide +kernel
theorem d_Model_join_53 : decode b_Model_join 53 = .ok (.ireturn, 1) := by decide +kernel
theorem d_Model_join_54 : decode b_Model_join 54 = .ok (.aload_n 0, 1) := by decide +kernel
theorem d_Model_join_55 : decode b_Model_join 55 = .ok (.iload_n 2, 1) := by decide +kernel
theorem d_Model_join_56 : decode b_Model_join 56 = .ok (.invokevirtual 311, 3) := by decide +kernel
theorem d_Model_join_59 : decode b_Model_join 59 = .ok (.istore_n 3, 1) := by decide +kernel
theorem d_Model_join_60 : decode b_Model_join 60 = .ok (.iconst 0, 1) := by decide +kernel
theorem d_Model_join_61 : decode b_Model_join 61 = .ok (.istore 4, 2) := by decide +kernel
theorem d_Model_join_63 : decode b_Model_join 63 = .ok (.iload 4, 2) := by decide +kernel
theorem d_Model_join_65 : decode b_Model_join 65 = .ok (.iload_n 2, 1) := by decide +kernel
theorem d_Model_join_66 : decode b_Model_join 66 = .ok (.if_icmp .ge 49, 3) := by decide +kernel
theorem d_Model_join_69 : decode b_Model_join 69 = .ok (.aload_n 0, 1) := by decide +kernel
theorem d_Model_join_70 : decode b_Model_join 70 = .ok (.iload_n 3, 1) := by decide +kernel
theorem d_Model_join_71 : decode b_Model_join 71 = .ok (.iload 4, 2) := by decide +kernel
theorem d_Model_join_73 : decode b_Model_join 73 = .ok (.iload 4, 2) := by decide +kernel
theorem d_Model_join_75 : decode b_Model_join 75 = .ok (.iload_n 1, 1) := by decide +kernel
theorem d_Model_join_76 : decode b_Model_join 76 = .ok (.if_icmp .ge 17, 3) := by decide +kernel
theorem d_Model_join_79 : decode b_Model_join 79 = .ok (.aload_n 0, 1) := by decide +kernel
theorem d_Model_join_80 : decode b_Model_join 80 = .ok (.aload_n 0, 1) := by decide +kernel
theorem d_Model_join_81 : decode b_Model_join 81 = .ok (.iconst 2, 1) := by decide +kernel
theorem d_Model_join_82 : decode b_Model_join 82 = .ok (.invokevirtual 250, 3) := by decide +kernel
theorem d_Model_join_85 : decode b_Model_join 85 = .ok (.iload 4, 2) := by decide +kernel
theorem d_Model_join_87 : decode b_Model_join 87 = .ok (.invokevirtual 350, 3) := by decide +kernel
theorem d_Model_join_90 : decode b_Model_join 90 = .ok (.goto 16, 3) := by decide +kernel
theorem d_Model_join_93 : decode b_Model_join 93 = .ok (.aload_n 0, 1) := by decide +kernel
theorem d_Model_join_94 : decode b_Model_join 94 = .ok (.aload_n 0, 1) := by decide +kernel
theorem d_Model_join_95 : decode b_Model_join 95 = .ok (.iconst 1, 1) := by decide +kernel
theorem d_Model_join_96 : decode b_Model_join 96 = .ok (.invokevirtual 250, 3) := by decide +kernel
theorem d_Model_join_99 : decode b_Model_join 99 = .ok (.iload 4, 2) := by decide +kernel
theorem d_Model_join_101 : decode b_Model_join 101 = .ok (.iload_n 1, 1) := by decide +kernel
theorem d_Model_join_102 : decode b_Model_join 102 = .ok (.isub, 1) := by decide +kernel
theorem d_Model_join_103 : decode b_Model_join 103 = .ok (.invokevirtual 350, 3) := by decide +kernel
theorem d_Model_join_106 : decode b_Model_join 106 = .ok (.invokevirtual 314, 3) := by decide +kernel
theorem d_Model_join_109 : decode b_Model_join 109 = .ok (.iinc 4 1, 3) := by decide +kernel
theorem d_Model_join_112 : decode b_Model_join 112 = .ok (.goto (-49), 3) := by decide +kernel
theorem d_Model_join_115 : decode b_Model_join 115 = .ok (.aload_n 0, 1) := by decide +kernel
theorem d_Model_join_116 : decode b_Model_join 116 = .ok (.iconst 2, 1) := by decide +kernel
theorem d_Model_join_117 : decode b_Model_join 117 = .ok (.aload_n 0, 1) := by decide +kernel
theorem d_Model_join_118 : decode b_Model_join 118 = .ok (.iconst 2, 1) := by decide +kernel
theorem d_Model_join_119 : decode b_Model_join 119 = .ok (.iconst 2, 1) := by decide +kernel
theorem d_Model_join_120 : decode b_Model_join 120 = .ok (.iload_n 3, 1) := by decide +kernel
theorem d_Model_join_121 : decode b_Model_join 121 = .ok (.invokevirtual 207, 3) := by decide +kernel
theorem d_Model_join_124 : decode b_Model_join 124 = .ok (.invokevirtual 228, 3) := by decide +kernel
theorem d_Model_join_127 : decode b_Model_join 127 = .ok (.ireturn, 1) := by decide +kernel
theorem d_Model_slice_0 : decode b_Model_slice 0 = .ok (.aload_n 0, 1) := by decide +kernel
theorem d_Model_slice_1 : decode b_Model_slice 1 = .ok (.iconst 2, 1) := by decide +kernel
theorem d_Model_slice_2 : decode b_Model_slice 2 = .ok (.invokevirtual 250, 3) := by decide +kernel
theorem d_Model_slice_5 : decode b_Model_slice 5 = .ok (.istore_n 1, 1) := by decide +kernel
theorem d_Model_slice_6 : decode b_Model_slice 6 = .ok (.aload_n 0, 1) := by decide +kernel
theorem d_Model_slice_7 : decode b_Model_slice 7 = .ok (.iconst 1, 1) := by decide +kernel
theorem d_Model_slice_8 : decode b_Model_slice 8 = .ok (.invokevirtual 250, 3) := by decide +kernel
theorem d_Model_slice_11 : decode b_Model_slice 11 = .ok (.istore_n 2, 1) := by decide +kernel
theorem d_Model_slice_12 : decode b_Model_slice 12 = .ok (.iload_n 1, 1) := by decide +kernel
theorem d_Model_slice_13 : decode b_Model_slice 13 = .ok (.ifCond .lt 27, 3) := by decide +kernel
theorem d_Model_slice_16 : decode b_Model_slice 16 = .ok (.iload_n 2, 1) := by decide +kernel
theorem d_Model_slice_17 : decode b_Model_slice 17 = .ok (.ifCond .lt 23, 3) := by decide +kernel
theorem d_Model_slice_20 : decode b_Model_slice 20 = .ok (.iload_n 1, 1) := by decide +kernel
theorem d_Model_slice_21 : decode b_Model_slice 21 = .ok (.i2l, 1) := by decide +kernel
theorem d_Model_slice_22 : decode b_Model_slice 22 = .ok (.iload_n 2, 1) := by decide +kernel
theorem d_Model_slice_23 : decode b_Model_slice 23 = .ok (.i2l, 1) := by decide +kernel
theorem d_Model_slice_24 : decode b_Model_slice 24 = .ok (.ladd, 1) := by decide +kernel
theorem d_Model_slice_25 : decode b_Model_slice 25 = .ok (.aload_n 0, 1) := by decide +kernel
theorem d_Model_slice_26 : decode b_Model_slice 26 = .ok (.getfield 14, 3) := by decide +kernel
theorem d_Model_slice_29 : decode b_Model_slice 29 = .ok (.aload_n 0, 1) := by decide +kernel
theorem d_Model_slice_30 : decode b_Model_slice 30 = .ok (.iconst 3, 1) := by decide +kernel
theorem d_Model_slice_31 : decode b_Model_slice 31 = .ok (.invokevirtual 250, 3) := by decide +kernel
theorem d_Model_slice_34 : decode b_Model_slice 34 = .ok (.iaload, 1) := by decide +kernel
theorem d_Model_slice_35 : decode b_Model_slice 35 = .ok (.i2l, 1) := by decide +kernel
theorem d_Model_slice_36 : decode b_Model_slice 36 = .ok (.lcmp, 1) := by decide +kernel
theorem d_Model_slice_37 : decode b_Model_slice 37 = .ok (.ifCond .le 10, 3) := by decide +kernel
theorem d_Model_slice_40 : decode b_Model_slice 40 = .ok (.aload_n 0, 1) := by decide +kernel
theorem d_Model_slice_41 : decode b_Model_slice 41 = .ok (.iconst 3, 1) := by decide +kernel
theorem d_Model_slice_42 : decode b_Model_slice 42 = .ok (.iconst 4, 1) := by decide +kernel
theorem d_Model_slice_43 : decode b_Model_slice 43 = .ok (.invokevirtual 360, 3) := by decide +kernel
theorem d_Model_slice_46 : decode b_Model_slice 46 = .ok (.ireturn, 1) := by decide +kernel
theorem d_Model_slice_47 : decode b_Model_slice 47 = .ok (.aload_n 0, 1) := by decide +kernel
theorem d_Model_slice_48 : decode b_Model_slice 48 = .ok (.iconst 1, 1) := by decide +kernel
theorem d_Model_slice_49 : decode b_Model_slice 49 = .ok (.iload_n 2, 1) := by decide +kernel
theorem d_Model_slice_50 : decode b_Model_slice 50 = .ok (.iconst 3, 1) := by decide +kernel
theorem d_Model_slice_51 : decode b_Model_slice 51 = .ok (.iadd, 1) := by decide +kernel
theorem d_Model_slice_52 : decode b_Model_slice 52 = .ok (.iconst 4, 1) := by decide +kernel
theorem d_Model_slice_53 : decode b_Model_slice 53 = .ok (.idiv, 1) := by decide +kernel
theorem d_Model_slice_54 : decode b_Model_slice 54 = .ok (.iadd, 1) := by decide +kernel
theorem d_Model_slice_55 : decode b_Model_slice 55 = .ok (.invokevirtual 379, 3) := by decide +kernel
theorem d_Model_slice_58 : decode b_Model_slice 58 = .ok (.ifCond .ne 5, 3) := by decide +kernel
theorem d_Model_slice_61 : decode b_Model_slice 61 = .ok (.iconst 3, 1) := by decide +kernel
theorem d_Model_slice_62 : decode b_Model_slice 62 = .ok (.ireturn, 1) := by decide +kernel
theorem d_Model_slice_63 : decode b_Model_slice 63 = .ok (.aload_n 0, 1) := by decide +kernel
theorem d_Model_slice_64 : decode b_Model_slice 64 = .ok (.iload_n 2, 1) := by decide +kernel
theorem d_Model_slice_65 : decode b_Model_slice 65 = .ok (.invokevirtual 311, 3) := by decide +kernel
theorem d_Model_slice_68 : decode b_Model_slice 68 = .ok (.istore_n 3, 1) := by decide +kernel
theorem d_Model_slice_69 : decode b_Model_slice 69 = .ok (.iconst 0, 1) := by decide +kernel
theorem d_Model_slice_70 : decode b_Model_slice 70 = .ok (.istore 4, 2) := by decide +kernel
theorem d_Model_slice_72 : decode b_Model_slice 72 = .ok (.iload 4, 2) := by decide +kernel
theorem d_Model_slice_74 : decode b_Model_slice 74 = .ok (.iload_n 2, 1) := by decide +kernel
theorem d_Model_slice_75 : decode b_Model_slice 75 = .ok (.if_icmp .ge 29, 3) := by decide +kernel
theorem d_Model_slice_78 : decode b_Model_slice 78 = .ok (.aload_n 0, 1) := by decide +kernel
theorem d_Model_slice_79 : decode b_Model_slice 79 = .ok (.iload_n 3, 1) := by decide +kernel
theorem d_Model_slice_80 : decode b_Model_slice 80 = .ok (.iload 4, 2) := by decide +kernel
theorem d_Model_slice_82 : decode b_Model_slice 82 = .ok (.aload_n 0, 1) := by decide +kernel
theorem d_Model_slice_83 : decode b_Model_slice 83 = .ok (.aload_n 0, 1) := by decide +kernel
theorem d_Model_slice_84 : decode b_Model_slice 84 = .ok (.iconst 3, 1) := by decide +kernel
theorem d_Model_slice_85 : decode b_Model_slice 85 = .ok (.invokevirtual 250, 3) := by decide +kernel
theorem d_Model_slice_88 : decode b_Model_slice 88 = .ok (.iload_n 1, 1) := by decide +kernel
theorem d_Model_slice_89 : decode b_Model_slice 89 = .ok (.iload 4, 2) := by decide +kernel
theorem d_Model_slice_91 : decode b_Model_slice 91 = .ok (.iadd, 1) := by decide +kernel
theorem d_Model_slice_92 : decode b_Model_slice 92 = .ok (.invokevirtual 350, 3) := by decide +kernel
theorem d_Model_slice_95 : decode b_Model_slice 95 = .ok (.invokevirtual 314, 3) := by decide +kernel
theorem d_Model_slice_98 : decode b_Model_slice 98 = .ok (.iinc 4 1, 3) := by decide +kernel
theorem d_Model_slice_101 : decode b_Model_slice 101 = .ok (.goto (-29), 3) := by decide +kernel
theorem d_Model_slice_104 : decode b_Model_slice 104 = .ok (.aload_n 0, 1) := by decide +kernel
theorem d_Model_slice_105 : decode b_Model_slice 105 = .ok (.iconst 2, 1) := by decide +kernel
theorem d_Model_slice_106 : decode b_Model_slice 106 = .ok (.aload_n 0, 1) := by decide +kernel
theorem d_Model_slice_107 : decode b_Model_slice 107 = .ok (.iconst 3, 1) := by decide +kernel
theorem d_Model_slice_108 : decode b_Model_slice 108 = .ok (.iconst 2, 1) := by decide +kernel
theorem d_Model_slice_109 : decode b_Model_slice 109 = .ok (.iload_n 3, 1) := by decide +kernel
theorem d_Model_slice_110 : decode b_Model_slice 110 = .ok (.invokevirtual 207, 3) := by decide +kernel
theorem d_Model_slice_113 : decode b_Model_slice 113 = .ok (.invokevirtual 228, 3) := by decide +kernel
theorem d_Model_slice_116 : decode b_Model_slice 116 = .ok (.ireturn, 1) := by decide +kernel
theorem d_Model_print_0 : decode b_Model_print 0 = .ok (.aload_n 0, 1) := by decide +kernel
theorem d_Model_print_1 : decode b_Model_print 1 = .ok (.iconst 1, 1) := by decide +kernel
theorem d_Model_print_2 : decode b_Model_print 2 = .ok (.invokevirtual 250, 3) := by decide +kernel
theorem d_Model_print_5 : decode b_Model_print 5 = .ok (.istore_n 1, 1) := by decide +kernel
theorem d_Model_print_6 : decode b_Model_print 6 = .ok (.iconst 0, 1) := by decide +kernel
theorem d_Model_print_7 : decode b_Model_print 7 = .ok (.istore_n 2, 1) := by decide +kernel
theorem d_Model_print_8 : decode b_Model_print 8 = .ok (.iload_n 2, 1) := by decide +kernel
theorem d_Model_print_9 : decode b_Model_print 9 = .ok (.aload_n 0, 1) := by decide +kernel
theorem d_Model_print_10 : decode b_Model_print 10 = .ok (.getfield 14, 3) := by decide +kernel
theorem d_Model_print_13 : decode b_Model_print 13 = .ok (.iload_n 1, 1) := by decide +kernel
theorem d_Model_print_14 : decode b_Model_print 14 = .ok (.iaload, 1) := by decide +kernel
theorem d_Model_print_15 : decode b_Model_print 15 = .ok (.if_icmp .ge 44, 3) := by decide +kernel
theorem d_Model_print_18 : decode b_Model_print 18 = .ok (.aload_n 0, 1) := by decide +kernel
theorem d_Model_print_19 : decode b_Model_print 19 = .ok (.getfield 200, 3) := by decide +kernel
theorem d_Model_print_22 : decode b_Model_print 22 = .ok (.ldc 62, 2) := by decide +kernel
theorem d_Model_print_24 : decode b_Model_print 24 = .ok (.if_icmp .ge 29, 3) := by decide +kernel
theorem d_Model_print_27 : decode b_Model_print 27 = .ok (.aload_n 0, 1) := by decide +kernel
theorem d_Model_print_28 : decode b_Model_print 28 = .ok (.getfield 81, 3) := by decide +kernel
theorem d_Model_print_31 : decode b_Model_print 31 = .ok (.aload_n 0, 1) := by decide +kernel
theorem d_Model_print_32 : decode b_Model_print 32 = .ok (.getfield 200, 3) := by decide +kernel
theorem d_Model_print_35 : decode b_Model_print 35 = .ok (.aload_n 0, 1) := by decide +kernel
theorem d_Model_print_36 : decode b_Model_print 36 = .ok (.iload_n 1, 1) := by decide +kernel
theorem d_Model_print_37 : decode b_Model_print 37 = .ok (.iload_n 2, 1) := by decide +kernel
theorem d_Model_print_38 : decode b_Model_print 38 = .ok (.invokevirtual 350, 3) := by decide +kernel
theorem d_Model_print_41 : decode b_Model_print 41 = .ok (.i2b, 1) := by decide +kernel
theorem d_Model_print_42 : decode b_Model_print 42 = .ok (.bastore, 1) := by decide +kernel
theorem d_Model_print_43 : decode b_Model_print 43 = .ok (.aload_n 0, 1) := by decide +kernel
theorem d_Model_print_44 : decode b_Model_print 44 = .ok (.dup, 1) := by decide +kernel
theorem d_Model_print_45 : decode b_Model_print 45 = .ok (.getfield 200, 3) := by decide +kernel
theorem d_Model_print_48 : decode b_Model_print 48 = .ok (.iconst 1, 1) := by decide +kernel
theorem d_Model_print_49 : decode b_Model_print 49 = .ok (.iadd, 1) := by decide +kernel
theorem d_Model_print_50 : decode b_Model_print 50 = .ok (.putfield 200, 3) := by decide +kernel
theorem d_Model_print_53 : decode b_Model_print 53 = .ok (.iinc 2 1, 3) := by decide +kernel
theorem d_Model_print_56 : decode b_Model_print 56 = .ok (.goto (-48), 3) := by decide +kernel
theorem d_Model_print_59 : decode b_Model_print 59 = .ok (.aload_n 0, 1) := by decide +kernel
theorem d_Model_print_60 : decode b_Model_print 60 = .ok (.iconst 1, 1) := by decide +kernel
theorem d_Model_print_61 : decode b_Model_print 61 = .ok (.iconst 0, 1) := by decide +kernel
theorem d_Model_print_62 : decode b_Model_print 62 = .ok (.iconst 0, 1) := by decide +kernel
theorem d_Model_print_63 : decode b_Model_print 63 = .ok (.invokevirtual 207, 3) := by decide +kernel
theorem d_Model_print_66 : decode b_Model_print 66 = .ok (.ireturn, 1) := by decide +kernel
theorem d_Model_isList_0 : decode b_Model_isList 0 = .ok (.iload_n 1, 1) := by decide +kernel
theorem d_Model_isList_1 : decode b_Model_isList 1 = .ok (.iconst 2, 1) := by decide +kernel
theorem d_Model_isList_2 : decode b_Model_isList 2 = .ok (.if_icmp .ne 70, 3) := by decide +kernel
theorem d_Model_isList_5 : decode b_Model_isList 5 = .ok (.aload_n 0, 1) := by decide +kernel
theorem d_Model_isList_6 : decode b_Model_isList 6 = .ok (.iload_n 2, 1) := by decide +kernel
theorem d_Model_isList_7 : decode b_Model_isList 7 = .ok (.invokevirtual 102, 3) := by decide +kernel
theorem d_Model_isList_10 : decode b_Model_isList 10 = .ok (.iconst 3, 1) := by decide +kernel
theorem d_Model_isList_11 : decode b_Model_isList 11 = .ok (.if_icmp .ne 61, 3) := by decide +kernel
theorem d_Model_isList_14 : decode b_Model_isList 14 = .ok (.aload_n 0, 1) := by decide +kernel
theorem d_Model_isList_15 : decode b_Model_isList 15 = .ok (.getfield 14, 3) := by decide +kernel
theorem d_Model_isList_18 : decode b_Model_isList 18 = .ok (.iload_n 2, 1) := by decide +kernel
theorem d_Model_isList_19 : decode b_Model_isList 19 = .ok (.iaload, 1) := by decide +kernel
theorem d_Model_isList_20 : decode b_Model_isList 20 = .ok (.iconst 1, 1) := by decide +kernel
theorem d_Model_isList_21 : decode b_Model_isList 21 = .ok (.if_icmp .ne 51, 3) := by decide +kernel
theorem d_Model_isList_24 : decode b_Model_isList 24 = .ok (.aload_n 0, 1) := by decide +kernel
theorem d_Model_isList_25 : decode b_Model_isList 25 = .ok (.getfield 10, 3) := by decide +kernel
theorem d_Model_isList_28 : decode b_Model_isList 28 = .ok (.iload_n 2, 1) := by decide +kernel
theorem d_Model_isList_29 : decode b_Model_isList 29 = .ok (.iconst 1, 1) := by decide +kernel
theorem d_Model_isList_30 : decode b_Model_isList 30 = .ok (.iadd, 1) := by decide +kernel
theorem d_Model_isList_31 : decode b_Model_isList 31 = .ok (.iaload, 1) := by decide +kernel
theorem d_Model_isList_32 : decode b_Model_isList 32 = .ok (.iconst 2, 1) := by decide +kernel
theorem d_Model_isList_33 : decode b_Model_isList 33 = .ok (.if_icmp .ne 39, 3) := by decide +kernel
theorem d_Model_isList_36 : decode b_Model_isList 36 = .ok (.aload_n 0, 1) := by decide +kernel
theorem d_Model_isList_37 : decode b_Model_isList 37 = .ok (.aload_n 0, 1) := by decide +kernel
theorem d_Model_isList_38 : decode b_Model_isList 38 = .ok (.getfield 14, 3) := by decide +kernel
theorem d_Model_isList_41 : decode b_Model_isList 41 = .ok (.iload_n 2, 1) := by decide +kernel
theorem d_Model_isList_42 : decode b_Model_isList 42 = .ok (.iconst 1, 1) := by decide +kernel
theorem d_Model_isList_43 : decode b_Model_isList 43 = .ok (.iadd, 1) := by decide +kernel
theorem d_Model_isList_44 : decode b_Model_isList 44 = .ok (.iaload, 1) := by decide +kernel
theorem d_Model_isList_45 : decode b_Model_isList 45 = .ok (.invokevirtual 102, 3) := by decide +kernel
theorem d_Model_isList_48 : decode b_Model_isList 48 = .ok (.iconst 2, 1) := by decide +kernel
theorem d_Model_isList_49 : decode b_Model_isList 49 = .ok (.if_icmp .ne 23, 3) := by decide +kernel
theorem d_Model_isList_52 : decode b_Model_isList 52 = .ok (.aload_n 0, 1) := by decide +kernel
theorem d_Model_isList_53 : decode b_Model_isList 53 = .ok (.aload_n 0, 1) := by decide +kernel
theorem d_Model_isList_54 : decode b_Model_isList 54 = .ok (.getfield 14, 3) := by decide +kernel
theorem d_Model_isList_57 : decode b_Model_isList 57 = .ok (.iload_n 2, 1) := by decide +kernel
theorem d_Model_isList_58 : decode b_Model_isList 58 = .ok (.iconst 1, 1) := by decide +kernel
theorem d_Model_isList_59 : decode b_Model_isList 59 = .ok (.iadd, 1) := by decide +kernel
theorem d_Model_isList_60 : decode b_Model_isList 60 = .ok (.iaload, 1) := by decide +kernel
theorem d_Model_isList_61 : decode b_Model_isList 61 = .ok (.invokevirtual 106, 3) := by decide +kernel
theorem d_Model_isList_64 : decode b_Model_isList 64 = .ok (.iconst 2, 1) := by decide +kernel
theorem d_Model_isList_65 : decode b_Model_isList 65 = .ok (.if_icmp .ne 7, 3) := by decide +kernel
theorem d_Model_isList_68 : decode b_Model_isList 68 = .ok (.iconst 1, 1) := by decide +kernel
theorem d_Model_isList_69 : decode b_Model_isList 69 = .ok (.goto 4, 3) := by decide +kernel
theorem d_Model_isList_72 : decode b_Model_isList 72 = .ok (.iconst 0, 1) := by decide +kernel
theorem d_Model_isList_73 : decode b_Model_isList 73 = .ok (.ireturn, 1) := by decide +kernel
theorem k886 : Cond.code y_Model_divide b_Model_divide 12 (some .int) ∈ lw_g := kg (List.mem_append_right _ (List.mem_of_getElem? (i := 1431) (by decide +kernel))) rfl
theorem k887 : Cond.methodLink R_Model 363 y_Model_divide ∈ lw_g := kg (List.mem_append_right _ (List.mem_of_getElem? (i := 1428) (by decide +kernel))) rfl
theorem k888 : Cond.instanceMethod y_Model_divide ∈ lw_g := kg (List.mem_append_right _ (List.mem_of_getElem? (i := 1430) (by decide +kernel))) rfl
theorem k889 : Cond.selects R_Model y_Model_divide y_Model_divide ∈ lw_g := kg (List.mem_append_left _ (List.mem_of_getElem? (i := 91) (by decide +kernel))) rfl
theorem k890 : Cond.code y_Model_plain b_Model_plain 7 (some .int) ∈ lw_g := kg (List.mem_append_right _ (List.mem_of_getElem? (i := 1449) (by decide +kernel))) rfl
theorem k891 : Cond.methodLink R_Model 372 y_Model_plain ∈ lw_g := kg (List.mem_append_right _ (List.mem_of_getElem? (i := 1447) (by decide +kernel))) rfl
theorem k892 : Cond.static y_Model_plain ∈ lw_g := kg (List.mem_append_right _ (List.mem_of_getElem? (i := 1448) (by decide +kernel))) rfl
theorem k893 : Cond.code y_Model_decimal b_Model_decimal 10 (some .int) ∈ lw_g := kg (List.mem_append_right _ (List.mem_of_getElem? (i := 1444) (by decide +kernel))) rfl
theorem k894 : Cond.methodLink R_Model 369 y_Model_decimal ∈ lw_g := kg (List.mem_append_right _ (List.mem_of_getElem? (i := 1441) (by decide +kernel))) rfl
theorem k895 : Cond.instanceMethod y_Model_decimal ∈ lw_g := kg (List.mem_append_right _ (List.mem_of_getElem? (i := 1443) (by decide +kernel))) rfl
theorem k896 : Cond.selects R_Model y_Model_decimal y_Model_decimal ∈ lw_g := kg (List.mem_append_left _ (List.mem_of_getElem? (i := 94) (by decide +kernel))) rfl
theorem k897 : Cond.code y_Model_oneByte b_Model_oneByte 3 (some .int) ∈ lw_g := kg (List.mem_append_right _ (List.mem_of_getElem? (i := 1436) (by decide +kernel))) rfl
theorem k898 : Cond.methodLink R_Model 366 y_Model_oneByte ∈ lw_g := kg (List.mem_append_right _ (List.mem_of_getElem? (i := 1433) (by decide +kernel))) rfl
theorem k899 : Cond.instanceMethod y_Model_oneByte ∈ lw_g := kg (List.mem_append_right _ (List.mem_of_getElem? (i := 1435) (by decide +kernel))) rfl
theorem k900 : Cond.selects R_Model y_Model_oneByte y_Model_oneByte ∈ lw_g := kg (List.mem_append_left _ (List.mem_of_getElem? (i := 92) (by decide +kernel))) rfl
theorem k901 : Cond.fieldLink R_Model 81 "CellEngineModel" "output" "[B" ∈ lw_g := kg (List.mem_append_right _ (List.mem_of_getElem? (i := 1060) (by decide +kernel))) rfl
set_option maxHeartbeats 4000000 in
set_option maxRecDepth 100000 in
theorem l_Model_numbers_1 {p : Program} {l : Launch} {e : Env} {s : State} {m : MethodId} {args : Array Value} {below : List Frame} {meth : Method} {c : Code} {Q : State → Prop} {A : Nat → Prop} (dC : Nat → ClassId) (dI : Nat → Nat → Nat) (N : Nat) (cB : ClassId) (cI : ClassId) (o_Model : Nat) (r : Nat → Nat) (I : Nat → Int32) (F : Nat → Nat → Int32) (p0 : Int32) (p1 : Int32) (z1_1 : Int32) {ζ : Type} {z : ζ} (hx : p.tables.exec = Jvm.exec) (hb : c.code = b_Model_numbers) (hml : c.maxLocals = 8) (hown : s.vm.findClass R_Model = some m.cls) (hg : ∀ w ∈ lw_g, w.before args s = true) (hN : dz_N s) (hK : va_K (dC, dI) classes [(cB, .byte), (cI, .int)] s) (hA : ∀ q : Nat, s.heap.size ≤ q → A q) {k1_19 : Int32 → Option (ζ)} (hk1_19 : ∀   (y1_0 : Int32)  (H : Heap) (locs : List Loc) (ls : Array Slot), k1_19 y1_0 = some z → va_P (dC, dI) classes (wD cB cI o_Model r I F) H → va_D A (wD cB cI o_Model r I F) → va_S A s.heap H locs → lv_has ls 8 [(3, .int z1_1), (0, .ref o_Model), (1, .int p0), (2, .int p1)] → W p l e ({ frames := 9, cells := 0, slots := 0, locals := 200 } : Room) s m args below meth c H locs 0 0 Q (F0 m 19 ls [.int y1_0])) : ∀    (H : Heap) (locs : List Loc) (ls : Array Slot), lm_Model_numbers_1 N I F p1 z1_1 k1_19  = some z → va_P (dC, dI) classes (wD cB cI o_Model r I F) H → va_D A (wD cB cI o_Model r I F) → va_S A s.heap H locs → lv_has ls 8 [(3, .int z1_1), (0, .ref o_Model), (1, .int p0), (2, .int p1)] → W p l e ({ frames := 9, cells := 0, slots := 0, locals := 200 } : Room) s m args below meth c H locs 0 0 Q (F0 m 6 ls []) := by
  intro H locs ls h hP hD hS hl
  unfold lm_Model_numbers_1 at h
  refine lv_iload_n hx hb d_Model_numbers_6 rfl (lv_at hl 3 rfl) ?_
  refine lv_if_eq (tgt := 14) hx hb d_Model_numbers_7 (by decide) (fun c2 => ?_) (fun c2 => ?_)
  · rw [if_pos c2] at h
    refine lv_aload_n hx hb d_Model_numbers_14 rfl (lv_at hl 1 rfl) ?_
    refine lv_iconst (v := 2) hx hb d_Model_numbers_15 (by decide) ?_
    obtain ⟨z3_1, hc3, h⟩ := dz_ob h
    try dsimp only at h
    have hPc := hP
    have hKc := hK
    refine vp_callSi (va_Run.run (va_runV (As := [.int 2]) (rest := []) ⟨hx, hb, hml, hown, hg⟩ (c_Model_scalar l dC dI N cB cI o_Model r I F (2 : Int32) z3_1 hc3) (cwV 1 hg (gd_V k804 k805 k806 k707 k803) rfl rfl rfl (by decide +kernel) ⟨Nat.le_of_ble_eq_true rfl, Nat.le_of_ble_eq_true rfl⟩) ⟨dz_blindR, va_recv hKc hPc (ci := 10) (q0 := 0) rfl rfl, fun U hU hW => ⟨rfl, dz_Nw hW hN, by rw [hU]; exact hPc, va_K.moved hW.alike hKc⟩⟩ rfl rfl hl.1 rfl (lv_room (Nat.le_of_ble_eq_true rfl)) d_Model_numbers_16 ⟨Nat.le_of_ble_eq_true rfl, Nat.le_of_ble_eq_true rfl⟩)) (fun r3 hw => ?_)
    have hw : z3_1 = r3 := hw.symm
    subst hw
    exact hk1_19 z3_1 _ _ _ h hP hD hS (lv_sub hl [0, 1, 2, 3] rfl)
  · rw [if_neg c2] at h
    refine lv_iload_n hx hb d_Model_numbers_10 rfl (lv_at hl 0 rfl) ?_
    refine lv_goto (tgt := 19) hx hb d_Model_numbers_11 (by decide) ?_
    exact hk1_19 z1_1 _ _ _ h hP hD hS (lv_sub hl [0, 1, 2, 3] rfl)
set_option maxHeartbeats 4000000 in
set_option maxRecDepth 100000 in
theorem l_Model_numbers_2 {p : Program} {l : Launch} {e : Env} {s : State} {m : MethodId} {args : Array Value} {below : List Frame} {meth : Method} {c : Code} {Q : State → Prop} {A : Nat → Prop} (dC : Nat → ClassId) (dI : Nat → Nat → Nat) (N : Nat) (cB : ClassId) (cI : ClassId) (o_Model : Nat) (r : Nat → Nat) (I : Nat → Int32) (F : Nat → Nat → Int32) (p0 : Int32) (p1 : Int32) (z1_1 : Int32) (y1_0 : Int32) {ζ : Type} {z : ζ} (hx : p.tables.exec = Jvm.exec) (hb : c.code = b_Model_numbers) (hml : c.maxLocals = 8) (hown : s.vm.findClass R_Model = some m.cls) (hg : ∀ w ∈ lw_g, w.before args s = true) (hN : dz_N s) (hK : va_K (dC, dI) classes [(cB, .byte), (cI, .int)] s) (hA : ∀ q : Nat, s.heap.size ≤ q → A q) {k2_30 : Int32 → Option (ζ)} (hk2_30 : ∀   (y2_0 : Int32)  (H : Heap) (locs : List Loc) (ls : Array Slot), k2_30 y2_0 = some z → va_P (dC, dI) classes (wD cB cI o_Model r I F) H → va_D A (wD cB cI o_Model r I F) → va_S A s.heap H locs → lv_has ls 8 [(4, .int y1_0), (3, .int z1_1), (0, .ref o_Model), (1, .int p0), (2, .int p1)] → W p l e ({ frames := 9, cells := 0, slots := 0, locals := 200 } : Room) s m args below meth c H locs 0 0 Q (F0 m 30 ls [.int y2_0])) : ∀    (H : Heap) (locs : List Loc) (ls : Array Slot), lm_Model_numbers_2 N p1 k2_30  = some z → va_P (dC, dI) classes (wD cB cI o_Model r I F) H → va_D A (wD cB cI o_Model r I F) → va_S A s.heap H locs → lv_has ls 8 [(4, .int y1_0), (3, .int z1_1), (0, .ref o_Model), (1, .int p0), (2, .int p1)] → W p l e ({ frames := 9, cells := 0, slots := 0, locals := 200 } : Room) s m args below meth c H locs 0 0 Q (F0 m 21 ls []) := by
  intro H locs ls h hP hD hS hl
  unfold lm_Model_numbers_2 at h
  refine lv_iload_n hx hb d_Model_numbers_21 rfl (lv_at hl 4 rfl) ?_
  refine lv_if_eq (tgt := 29) hx hb d_Model_numbers_22 (by decide) (fun c4 => ?_) (fun c4 => ?_)
  · rw [if_pos c4] at h
    refine lv_iconst (v := 2) hx hb d_Model_numbers_29 (by decide) ?_
    exact hk2_30 (2 : Int32) _ _ _ h hP hD hS (lv_sub hl [0, 1, 2, 3, 4] rfl)
  · rw [if_neg c4] at h
    refine lv_iconst (v := 1) hx hb d_Model_numbers_25 (by decide) ?_
    refine lv_goto (tgt := 30) hx hb d_Model_numbers_26 (by decide) ?_
    exact hk2_30 (1 : Int32) _ _ _ h hP hD hS (lv_sub hl [0, 1, 2, 3, 4] rfl)
set_option maxHeartbeats 4000000 in
set_option maxRecDepth 100000 in
theorem l_Model_numbers_3 {p : Program} {l : Launch} {e : Env} {s : State} {m : MethodId} {args : Array Value} {below : List Frame} {meth : Method} {c : Code} {Q : State → Prop} {A : Nat → Prop} (dC : Nat → ClassId) (dI : Nat → Nat → Nat) (N : Nat) (cB : ClassId) (cI : ClassId) (o_Model : Nat) (r : Nat → Nat) (I : Nat → Int32) (F : Nat → Nat → Int32) (p0 : Int32) (p1 : Int32) (z1_1 : Int32) (y1_0 : Int32) (y2_0 : Int32) {ζ : Type} {z : ζ} (hx : p.tables.exec = Jvm.exec) (hb : c.code = b_Model_numbers) (hml : c.maxLocals = 8) (hown : s.vm.findClass R_Model = some m.cls) (hg : ∀ w ∈ lw_g, w.before args s = true) (hN : dz_N s) (hK : va_K (dC, dI) classes [(cB, .byte), (cI, .int)] s) (hA : ∀ q : Nat, s.heap.size ≤ q → A q) {k3_105 : Int64 → Option (ζ)} (hk3_105 : ∀   (y3_0 : Int64)  (H : Heap) (locs : List Loc) (ls : Array Slot), k3_105 y3_0 = some z → va_P (dC, dI) classes (wD cB cI o_Model r I F) H → va_D A (wD cB cI o_Model r I F) → va_S A s.heap H locs → lv_has ls 8 [(5, .int y2_0), (4, .int y1_0), (3, .int z1_1), (0, .ref o_Model), (1, .int p0), (2, .int p1)] → W p l e ({ frames := 9, cells := 0, slots := 0, locals := 200 } : Room) s m args below meth c H locs 0 0 Q (F0 m 105 ls [.long y3_0])) : ∀    (H : Heap) (locs : List Loc) (ls : Array Slot), lm_Model_numbers_3 N p0 z1_1 y1_0 k3_105  = some z → va_P (dC, dI) classes (wD cB cI o_Model r I F) H → va_D A (wD cB cI o_Model r I F) → va_S A s.heap H locs → lv_has ls 8 [(5, .int y2_0), (4, .int y1_0), (3, .int z1_1), (0, .ref o_Model), (1, .int p0), (2, .int p1)] → W p l e ({ frames := 9, cells := 0, slots := 0, locals := 200 } : Room) s m args below meth c H locs 0 0 Q (F0 m 37 ls []) := by
  intro H locs ls h hP hD hS hl
  unfold lm_Model_numbers_3 at h
  refine lv_iload_n hx hb d_Model_numbers_37 rfl (lv_at hl 4 rfl) ?_
  refine lv_if_ne (tgt := 50) hx hb d_Model_numbers_38 (by decide) (fun c55 => ?_) (fun c55 => ?_)
  · rw [if_neg c55] at h
    refine lv_iload_n hx hb d_Model_numbers_50 rfl (lv_at hl 4 rfl) ?_
    refine lv_iconst (v := 1) hx hb d_Model_numbers_51 (by decide) ?_
    refine lv_icmp_ne (tgt := 64) hx hb d_Model_numbers_52 (by decide) (fun c56 => ?_) (fun c56 => ?_)
    · rw [if_neg c56] at h
      refine lv_iload_n hx hb d_Model_numbers_64 rfl (lv_at hl 4 rfl) ?_
      refine lv_iconst (v := 2) hx hb d_Model_numbers_65 (by decide) ?_
      refine lv_icmp_ne (tgt := 78) hx hb d_Model_numbers_66 (by decide) (fun c57 => ?_) (fun c57 => ?_)
      · rw [if_neg c57] at h
        refine lv_iload_n hx hb d_Model_numbers_78 rfl (lv_at hl 4 rfl) ?_
        refine lv_iconst (v := 3) hx hb d_Model_numbers_79 (by decide) ?_
        refine lv_icmp_ne (tgt := 90) hx hb d_Model_numbers_80 (by decide) (fun c58 => ?_) (fun c58 => ?_)
        · rw [if_neg c58] at h
          refine lv_iload hx hb d_Model_numbers_90 (lv_at hl 1 rfl) ?_
          refine lv_if_ge (tgt := 102) hx hb d_Model_numbers_92 (by decide) (fun c59 => ?_) (fun c59 => ?_)
          · rw [if_pos c59] at h
            refine lv_iload hx hb d_Model_numbers_102 (lv_at hl 1 rfl) ?_
            refine lv_i2l (v := y1_0.toInt64) hx hb d_Model_numbers_104 rfl ?_
            exact hk3_105 y1_0.toInt64 _ _ _ h hP hD hS (lv_sub hl [0, 1, 2, 3, 4, 5] rfl)
          · rw [if_neg c59] at h
            refine lv_iload hx hb d_Model_numbers_95 (lv_at hl 1 rfl) ?_
            refine lv_i2l (v := y1_0.toInt64) hx hb d_Model_numbers_97 rfl ?_
            refine lv_lneg hx hb d_Model_numbers_98 ?_
            refine lv_goto (tgt := 105) hx hb d_Model_numbers_99 (by decide) ?_
            exact hk3_105 (-y1_0.toInt64) _ _ _ h hP hD hS (lv_sub hl [0, 1, 2, 3, 4, 5] rfl)
        · rw [if_pos c58] at h
          refine lv_iload hx hb d_Model_numbers_83 (lv_at hl 1 rfl) ?_
          refine lv_i2l (v := y1_0.toInt64) hx hb d_Model_numbers_85 rfl ?_
          refine lv_lneg hx hb d_Model_numbers_86 ?_
          refine lv_goto (tgt := 105) hx hb d_Model_numbers_87 (by decide) ?_
          exact hk3_105 (-y1_0.toInt64) _ _ _ h hP hD hS (lv_sub hl [0, 1, 2, 3, 4, 5] rfl)
      · rw [if_pos c57] at h
        refine lv_iload hx hb d_Model_numbers_69 (lv_at hl 1 rfl) ?_
        refine lv_i2l (v := y1_0.toInt64) hx hb d_Model_numbers_71 rfl ?_
        refine lv_iload_n hx hb d_Model_numbers_72 rfl (lv_at hl 2 rfl) ?_
        refine lv_i2l (v := z1_1.toInt64) hx hb d_Model_numbers_73 rfl ?_
        refine lv_lmul hx hb d_Model_numbers_74 ?_
        refine lv_goto (tgt := 105) hx hb d_Model_numbers_75 (by decide) ?_
        exact hk3_105 (y1_0.toInt64 * z1_1.toInt64) _ _ _ h hP hD hS (lv_sub hl [0, 1, 2, 3, 4, 5] rfl)
    · rw [if_pos c56] at h
      refine lv_iload hx hb d_Model_numbers_55 (lv_at hl 1 rfl) ?_
      refine lv_i2l (v := y1_0.toInt64) hx hb d_Model_numbers_57 rfl ?_
      refine lv_iload_n hx hb d_Model_numbers_58 rfl (lv_at hl 2 rfl) ?_
      refine lv_i2l (v := z1_1.toInt64) hx hb d_Model_numbers_59 rfl ?_
      refine lv_lsub hx hb d_Model_numbers_60 ?_
      refine lv_goto (tgt := 105) hx hb d_Model_numbers_61 (by decide) ?_
      exact hk3_105 (y1_0.toInt64 - z1_1.toInt64) _ _ _ h hP hD hS (lv_sub hl [0, 1, 2, 3, 4, 5] rfl)
  · rw [if_pos c55] at h
    refine lv_iload hx hb d_Model_numbers_41 (lv_at hl 1 rfl) ?_
    refine lv_i2l (v := y1_0.toInt64) hx hb d_Model_numbers_43 rfl ?_
    refine lv_iload_n hx hb d_Model_numbers_44 rfl (lv_at hl 2 rfl) ?_
    refine lv_i2l (v := z1_1.toInt64) hx hb d_Model_numbers_45 rfl ?_
    refine lv_ladd hx hb d_Model_numbers_46 ?_
    refine lv_goto (tgt := 105) hx hb d_Model_numbers_47 (by decide) ?_
    exact hk3_105 (y1_0.toInt64 + z1_1.toInt64) _ _ _ h hP hD hS (lv_sub hl [0, 1, 2, 3, 4, 5] rfl)
set_option maxHeartbeats 4000000 in
set_option maxRecDepth 100000 in
theorem c_Model_numbers (l : Launch) (dC : Nat → ClassId) (dI : Nat → Nat → Nat) (N : Nat) (cB : ClassId) (cI : ClassId) (o_Model : Nat) (r : Nat → Nat) (I : Nat → Int32) (F : Nat → Nat → Int32) (p0 : Int32) (p1 : Int32) (sz : Nat) (z : Int32 × (Nat → Nat → Int32) × (Nat → Int32)) (h : m_Model_numbers N I F p0 p1 = some z) : Met l y_Model_numbers (.code y_Model_numbers b_Model_numbers 8 (some .int) :: lw_g) ({ frames := 9, cells := 0, slots := 0, locals := 200 }) (va_Pc [.ref o_Model, .int p0, .int p1] (fun U => dz_N U ∧ U.heap.size = sz ∧ va_P (dC, dI) classes (wD cB cI o_Model r I F) U.heap ∧ va_K (dC, dI) classes [(cB, .byte), (cI, .int)] U ∧ va_D (fun _ => True) (wD cB cI o_Model r I F))) (va_Qi (fun (r : Int32) (_ : Unit) => r = z.1) (fun (u : Unit) t => va_P (dC, dI) classes (wD cB cI o_Model r z.2.2 z.2.1) t.heap ∧ va_K (dC, dI) classes [(cB, .byte), (cI, .int)] t ∧ va_D (va_A (wD cB cI o_Model r I F) sz) (wD cB cI o_Model r z.2.2 z.2.1)) (va_A (wD cB cI o_Model r I F) sz)) 0 0 (va_A (wD cB cI o_Model r I F) sz) := by
  refine Met.ofW (cc := b_Model_numbers) (maxL := 8) (ret := (some .int)) (by decide +kernel) rfl ?_
  intro p e s m args below meth c s₁ B hml hv
  obtain ⟨rfl, hN, hsz, hP, hK, hD0⟩ := hv
  have hx := B.exec
  have hb := B.bytes
  have hr := B.returns
  have hg : ∀ w ∈ lw_g, w.before _ s = true := fun w hw => atoms_spec (ws := .code y_Model_numbers b_Model_numbers 8 (some .int) :: lw_g) B.pre w (List.mem_cons_of_mem _ hw)
  have hown : s.vm.findClass R_Model = some m.cls := findClass_of_methodNamed B.named
  have hlocks := B.notSynchronized
  clear B
  subst hsz
  have hD := hD0.self (sz := s.heap.size)
  generalize hAe : va_A (wD cB cI o_Model r I F) s.heap.size = A at hD ⊢
  have hA : ∀ q : Nat, s.heap.size ≤ q → A q := fun q h => by rw [← hAe]; exact Or.inr h
  have hS : va_S A s.heap s.heap [] := va_S.rf
  have hP : va_P (dC, dI) classes (wD cB cI o_Model r I F) s.heap := hP
  have hl := lv_entry ([.ref o_Model, .int p0, .int p1]) (n := 8) (Nat.le_of_ble_eq_true rfl)
  rw [lg_entry_eq]
  generalize (lg_sl ([.ref o_Model, .int p0, .int p1]) ++ List.replicate (8 - (lg_sl ([.ref o_Model, .int p0, .int p1])).length) Slot.unset).toArray = ls at hl ⊢
  have hl : lv_has ls 8 [(0, .ref o_Model), (1, .int p0), (2, .int p1)] := hl
  unfold m_Model_numbers at h
  refine lv_aload_n hx hb d_Model_numbers_0 rfl (lv_at hl 0 rfl) ?_
  refine lv_iconst (v := 1) hx hb d_Model_numbers_1 (by decide) ?_
  obtain ⟨z1_1, hc1, h⟩ := dz_ob h
  try dsimp only at h
  have hPc := hP
  have hKc := hK
  refine vp_callSi (va_Run.run (va_runV (As := [.int 1]) (rest := []) ⟨hx, hb, hml, hown, hg⟩ (c_Model_scalar l dC dI N cB cI o_Model r I F (1 : Int32) z1_1 hc1) (cwV 1 hg (gd_V k804 k805 k806 k707 k803) rfl rfl rfl (by decide +kernel) ⟨Nat.le_of_ble_eq_true rfl, Nat.le_of_ble_eq_true rfl⟩) ⟨dz_blindR, va_recv hKc hPc (ci := 10) (q0 := 0) rfl rfl, fun U hU hW => ⟨rfl, dz_Nw hW hN, by rw [hU]; exact hPc, va_K.moved hW.alike hKc⟩⟩ rfl rfl hl.1 rfl (lv_room (Nat.le_of_ble_eq_true rfl)) d_Model_numbers_2 ⟨Nat.le_of_ble_eq_true rfl, Nat.le_of_ble_eq_true rfl⟩)) (fun r1 hw => ?_)
  have hw : z1_1 = r1 := hw.symm
  subst hw
  refine lv_istore_n (lv' := [(3, .int z1_1), (0, .ref o_Model), (1, .int p0), (2, .int p1)]) hx hb d_Model_numbers_5 rfl hl (by decide) rfl (fun ls hl => ?_)
  refine l_Model_numbers_1 dC dI N cB cI o_Model r I F p0 p1 z1_1 hx hb hml hown hg hN hK hA (fun y1_0 H locs ls h hP hD hS hl => ?_)  _ _ _ h hP hD hS (lv_sub hl [0, 1, 2, 3] rfl)
  refine lv_istore (lv' := [(4, .int y1_0), (3, .int z1_1), (0, .ref o_Model), (1, .int p0), (2, .int p1)]) hx hb d_Model_numbers_19 hl (by decide) rfl (fun ls hl => ?_)
  refine l_Model_numbers_2 dC dI N cB cI o_Model r I F p0 p1 z1_1 y1_0 hx hb hml hown hg hN hK hA (fun y2_0 H locs ls h hP hD hS hl => ?_)  _ _ _ h hP hD hS (lv_sub hl [0, 1, 2, 3, 4] rfl)
  refine lv_istore (lv' := [(5, .int y2_0), (4, .int y1_0), (3, .int z1_1), (0, .ref o_Model), (1, .int p0), (2, .int p1)]) hx hb d_Model_numbers_30 hl (by decide) rfl (fun ls hl => ?_)
  refine lv_iload_n hx hb d_Model_numbers_32 rfl (lv_at hl 4 rfl) ?_
  refine lv_iconst (v := 5) hx hb d_Model_numbers_33 (by decide) ?_
  refine lv_icmp_ge (tgt := 143) hx hb d_Model_numbers_34 (by decide) (fun c5 => ?_) (fun c5 => ?_)
  · rw [if_pos c5] at h
    refine lv_iload_n hx hb d_Model_numbers_143 rfl (lv_at hl 4 rfl) ?_
    refine lv_iconst (v := 5) hx hb d_Model_numbers_144 (by decide) ?_
    refine lv_icmp_eq (tgt := 166) hx hb d_Model_numbers_145 (by decide) (fun c6 => ?_) (fun c6 => ?_)
    · rw [if_pos c6] at h
      refine lv_aload_n hx hb d_Model_numbers_166 rfl (lv_at hl 3 rfl) ?_
      refine lv_iload_n hx hb d_Model_numbers_167 rfl (lv_at hl 4 rfl) ?_
      refine lv_iload hx hb d_Model_numbers_168 (lv_at hl 1 rfl) ?_
      refine lv_iload_n hx hb d_Model_numbers_170 rfl (lv_at hl 2 rfl) ?_
      obtain ⟨⟨z7_1, z7_2, z7_3⟩, hc7, h⟩ := dz_ob h
      try dsimp only at h
      have hPc := hP
      have hKc := hK
      have hDc := hD
      have hFc := dz_freeall hD hS hA
      refine va_calli (va_runV (As := [.int p0, .int y1_0, .int z1_1]) (rest := []) ⟨hx, hb, hml, hown, hg⟩ (c_Model_divide l dC dI N cB cI o_Model r I F p0 y1_0 z1_1 H.size (z7_1, z7_2, z7_3) hc7) (cwV 3 hg (gd_V k887 k888 k889 k707 k886) rfl rfl rfl (by decide +kernel) ⟨Nat.le_of_ble_eq_true rfl, Nat.le_of_ble_eq_true rfl⟩) ⟨dz_blind, va_recv hKc hPc (ci := 10) (q0 := 0) rfl rfl, fun U hU hW => ⟨rfl, dz_Nw hW hN, by rw [hU], by rw [hU]; exact hPc, va_K.moved hW.alike hKc, hDc.weaken (fun _ _ _ _ => trivial)⟩⟩ rfl rfl hl.1 rfl (lv_room (Nat.le_of_ble_eq_true rfl)) d_Model_numbers_171 ⟨Nat.le_of_ble_eq_true rfl, Nat.le_of_ble_eq_true rfl⟩) hS (fun q _ h => hFc q h) hFc (fun r7 u7 t7 H1 locs ht hvm hw hB hz1 hk1 hS => ?_)
      obtain ⟨hP1, hK1, hD1⟩ := hB
      rw [ht] at hP1
      have hP := hP1
      have hD := hD1.weaken (fun _ q _ h => hFc q.1 h)
      have hw : z7_1 = r7 := hw.symm
      subst hw
      generalize H1 = H at hP hS ⊢
      have hP : va_P (dC, dI) classes (wD cB cI o_Model r z7_3 z7_2) H := hP
      have hD : va_D A (wD cB cI o_Model r z7_3 z7_2) := hD
      obtain rfl := Option.some.inj h
      have hP9 := hP
      have hD9 := hD
      have hK9 := hK
      exact W.iret (v := z7_1) hx hb hr (fun t ht hW => ⟨⟨z7_1, (), rfl, rfl, by rw [ht]; exact hP9, va_K.moved hW.alike hK9, hD9⟩, hS.F ht⟩) hS.2.2 d_Model_numbers_174
    · rw [if_neg c6] at h
      refine lv_iload_n hx hb d_Model_numbers_148 rfl (lv_at hl 4 rfl) ?_
      refine lv_bipush (v := 6) hx hb d_Model_numbers_149 (by decide) ?_
      refine lv_icmp_eq (tgt := 166) hx hb d_Model_numbers_151 (by decide) (fun c8 => ?_) (fun c8 => ?_)
      · rw [if_pos c8] at h
        refine lv_aload_n hx hb d_Model_numbers_166 rfl (lv_at hl 3 rfl) ?_
        refine lv_iload_n hx hb d_Model_numbers_167 rfl (lv_at hl 4 rfl) ?_
        refine lv_iload hx hb d_Model_numbers_168 (lv_at hl 1 rfl) ?_
        refine lv_iload_n hx hb d_Model_numbers_170 rfl (lv_at hl 2 rfl) ?_
        obtain ⟨⟨z9_1, z9_2, z9_3⟩, hc9, h⟩ := dz_ob h
        try dsimp only at h
        have hPc := hP
        have hKc := hK
        have hDc := hD
        have hFc := dz_freeall hD hS hA
        refine va_calli (va_runV (As := [.int p0, .int y1_0, .int z1_1]) (rest := []) ⟨hx, hb, hml, hown, hg⟩ (c_Model_divide l dC dI N cB cI o_Model r I F p0 y1_0 z1_1 H.size (z9_1, z9_2, z9_3) hc9) (cwV 3 hg (gd_V k887 k888 k889 k707 k886) rfl rfl rfl (by decide +kernel) ⟨Nat.le_of_ble_eq_true rfl, Nat.le_of_ble_eq_true rfl⟩) ⟨dz_blind, va_recv hKc hPc (ci := 10) (q0 := 0) rfl rfl, fun U hU hW => ⟨rfl, dz_Nw hW hN, by rw [hU], by rw [hU]; exact hPc, va_K.moved hW.alike hKc, hDc.weaken (fun _ _ _ _ => trivial)⟩⟩ rfl rfl hl.1 rfl (lv_room (Nat.le_of_ble_eq_true rfl)) d_Model_numbers_171 ⟨Nat.le_of_ble_eq_true rfl, Nat.le_of_ble_eq_true rfl⟩) hS (fun q _ h => hFc q h) hFc (fun r9 u9 t9 H1 locs ht hvm hw hB hz1 hk1 hS => ?_)
        obtain ⟨hP1, hK1, hD1⟩ := hB
        rw [ht] at hP1
        have hP := hP1
        have hD := hD1.weaken (fun _ q _ h => hFc q.1 h)
        have hw : z9_1 = r9 := hw.symm
        subst hw
        generalize H1 = H at hP hS ⊢
        have hP : va_P (dC, dI) classes (wD cB cI o_Model r z9_3 z9_2) H := hP
        have hD : va_D A (wD cB cI o_Model r z9_3 z9_2) := hD
        obtain rfl := Option.some.inj h
        have hP9 := hP
        have hD9 := hD
        have hK9 := hK
        exact W.iret (v := z9_1) hx hb hr (fun t ht hW => ⟨⟨z9_1, (), rfl, rfl, by rw [ht]; exact hP9, va_K.moved hW.alike hK9, hD9⟩, hS.F ht⟩) hS.2.2 d_Model_numbers_174
      · rw [if_neg c8] at h
        refine lv_iload_n hx hb d_Model_numbers_154 rfl (lv_at hl 4 rfl) ?_
        refine lv_bipush (v := 14) hx hb d_Model_numbers_155 (by decide) ?_
        refine lv_icmp_eq (tgt := 166) hx hb d_Model_numbers_157 (by decide) (fun c10 => ?_) (fun c10 => ?_)
        · rw [if_pos c10] at h
          refine lv_aload_n hx hb d_Model_numbers_166 rfl (lv_at hl 3 rfl) ?_
          refine lv_iload_n hx hb d_Model_numbers_167 rfl (lv_at hl 4 rfl) ?_
          refine lv_iload hx hb d_Model_numbers_168 (lv_at hl 1 rfl) ?_
          refine lv_iload_n hx hb d_Model_numbers_170 rfl (lv_at hl 2 rfl) ?_
          obtain ⟨⟨z11_1, z11_2, z11_3⟩, hc11, h⟩ := dz_ob h
          try dsimp only at h
          have hPc := hP
          have hKc := hK
          have hDc := hD
          have hFc := dz_freeall hD hS hA
          refine va_calli (va_runV (As := [.int p0, .int y1_0, .int z1_1]) (rest := []) ⟨hx, hb, hml, hown, hg⟩ (c_Model_divide l dC dI N cB cI o_Model r I F p0 y1_0 z1_1 H.size (z11_1, z11_2, z11_3) hc11) (cwV 3 hg (gd_V k887 k888 k889 k707 k886) rfl rfl rfl (by decide +kernel) ⟨Nat.le_of_ble_eq_true rfl, Nat.le_of_ble_eq_true rfl⟩) ⟨dz_blind, va_recv hKc hPc (ci := 10) (q0 := 0) rfl rfl, fun U hU hW => ⟨rfl, dz_Nw hW hN, by rw [hU], by rw [hU]; exact hPc, va_K.moved hW.alike hKc, hDc.weaken (fun _ _ _ _ => trivial)⟩⟩ rfl rfl hl.1 rfl (lv_room (Nat.le_of_ble_eq_true rfl)) d_Model_numbers_171 ⟨Nat.le_of_ble_eq_true rfl, Nat.le_of_ble_eq_true rfl⟩) hS (fun q _ h => hFc q h) hFc (fun r11 u11 t11 H1 locs ht hvm hw hB hz1 hk1 hS => ?_)
          obtain ⟨hP1, hK1, hD1⟩ := hB
          rw [ht] at hP1
          have hP := hP1
          have hD := hD1.weaken (fun _ q _ h => hFc q.1 h)
          have hw : z11_1 = r11 := hw.symm
          subst hw
          generalize H1 = H at hP hS ⊢
          have hP : va_P (dC, dI) classes (wD cB cI o_Model r z11_3 z11_2) H := hP
          have hD : va_D A (wD cB cI o_Model r z11_3 z11_2) := hD
          obtain rfl := Option.some.inj h
          have hP9 := hP
          have hD9 := hD
          have hK9 := hK
          exact W.iret (v := z11_1) hx hb hr (fun t ht hW => ⟨⟨z11_1, (), rfl, rfl, by rw [ht]; exact hP9, va_K.moved hW.alike hK9, hD9⟩, hS.F ht⟩) hS.2.2 d_Model_numbers_174
        · rw [if_neg c10] at h
          refine lv_iload_n hx hb d_Model_numbers_160 rfl (lv_at hl 4 rfl) ?_
          refine lv_bipush (v := 15) hx hb d_Model_numbers_161 (by decide) ?_
          refine lv_icmp_ne (tgt := 175) hx hb d_Model_numbers_163 (by decide) (fun c12 => ?_) (fun c12 => ?_)
          · rw [if_neg c12] at h
            refine lv_iload_n hx hb d_Model_numbers_175 rfl (lv_at hl 4 rfl) ?_
            refine lv_bipush (v := 26) hx hb d_Model_numbers_176 (by decide) ?_
            refine lv_icmp_ne (tgt := 193) hx hb d_Model_numbers_178 (by decide) (fun c13 => ?_) (fun c13 => ?_)
            · rw [if_neg c13] at h
              refine lv_iload_n hx hb d_Model_numbers_193 rfl (lv_at hl 4 rfl) ?_
              refine lv_bipush (v := 29) hx hb d_Model_numbers_194 (by decide) ?_
              refine lv_icmp_ne (tgt := 228) hx hb d_Model_numbers_196 (by decide) (fun c14 => ?_) (fun c14 => ?_)
              · rw [if_neg c14] at h
                refine lv_iload_n hx hb d_Model_numbers_228 rfl (lv_at hl 4 rfl) ?_
                refine lv_bipush (v := 38) hx hb d_Model_numbers_229 (by decide) ?_
                refine lv_icmp_ne (tgt := 246) hx hb d_Model_numbers_231 (by decide) (fun c15 => ?_) (fun c15 => ?_)
                · rw [if_neg c15] at h
                  refine lv_iload_n hx hb d_Model_numbers_246 rfl (lv_at hl 4 rfl) ?_
                  refine lv_bipush (v := 39) hx hb d_Model_numbers_247 (by decide) ?_
                  refine lv_icmp_ne (tgt := 273) hx hb d_Model_numbers_249 (by decide) (fun c16 => ?_) (fun c16 => ?_)
                  · rw [if_neg c16] at h
                    refine lv_aload_n hx hb d_Model_numbers_273 rfl (lv_at hl 3 rfl) ?_
                    refine lv_iconst (v := 2) hx hb d_Model_numbers_274 (by decide) ?_
                    refine lv_aload_n hx hb d_Model_numbers_275 rfl (lv_at hl 3 rfl) ?_
                    refine lv_iload hx hb d_Model_numbers_276 (lv_at hl 0 rfl) ?_
                    refine lv_iconst (v := 0) hx hb d_Model_numbers_278 (by decide) ?_
                    refine lv_iload_n hx hb d_Model_numbers_279 rfl (lv_at hl 4 rfl) ?_
                    refine lv_iload hx hb d_Model_numbers_280 (lv_at hl 1 rfl) ?_
                    refine lv_iload_n hx hb d_Model_numbers_282 rfl (lv_at hl 2 rfl) ?_
                    obtain ⟨z17_1, hc17, h⟩ := dz_ob h
                    try dsimp only at h
                    have hPc := hP.sub (ws' := []) [] rfl
                    have hKc := hK.sub (tys' := []) [] rfl
                    refine vp_callSi (va_Run.run (va_runS (As := [.int p0, .int y1_0, .int z1_1]) (rest := [.int 0, .int y2_0, .ref o_Model, .int 2, .ref o_Model]) ⟨hx, hb, hml, hown, hg⟩ (c_Model_plain l dC dI N p0 y1_0 z1_1 z17_1 hc17) (va_cwS 3 hg (gd_S k891 k892 k707 k890) rfl rfl rfl (by decide +kernel) ⟨Nat.le_of_ble_eq_true rfl, Nat.le_of_ble_eq_true rfl⟩) ⟨dz_blindR, fun U hU hW => ⟨rfl, dz_Nw hW hN, by rw [hU]; exact hPc, va_K.moved hW.alike hKc⟩⟩ rfl rfl hl.1 rfl (lv_room (Nat.le_of_ble_eq_true rfl)) d_Model_numbers_283 ⟨Nat.le_of_ble_eq_true rfl, Nat.le_of_ble_eq_true rfl⟩)) (fun r17 hw => ?_)
                    have hw : z17_1 = r17 := hw.symm
                    subst hw
                    obtain ⟨⟨z18_1, z18_2, z18_3⟩, hc18, h⟩ := dz_ob h
                    try dsimp only at h
                    have hPc := hP
                    have hKc := hK
                    have hDc := hD
                    have hFc := dz_freeall hD hS hA
                    refine va_calli (va_runV (As := [.int y2_0, .int 0, .int z17_1]) (rest := [.int 2, .ref o_Model]) ⟨hx, hb, hml, hown, hg⟩ (c_Model_give l dC dI N cB cI o_Model r I F y2_0 (0 : Int32) z17_1 H.size (z18_1, z18_2, z18_3) hc18) (cwV 3 hg (gd_V k734 k735 k736 k707 k733) rfl rfl rfl (by decide +kernel) ⟨Nat.le_of_ble_eq_true rfl, Nat.le_of_ble_eq_true rfl⟩) ⟨dz_blind, va_recv hKc hPc (ci := 10) (q0 := 0) rfl rfl, fun U hU hW => ⟨rfl, dz_Nw hW hN, by rw [hU], by rw [hU]; exact hPc, va_K.moved hW.alike hKc, hDc.weaken (fun _ _ _ _ => trivial)⟩⟩ rfl rfl hl.1 rfl (lv_room (Nat.le_of_ble_eq_true rfl)) d_Model_numbers_286 ⟨Nat.le_of_ble_eq_true rfl, Nat.le_of_ble_eq_true rfl⟩) hS (fun q _ h => hFc q h) hFc (fun r18 u18 t18 H1 locs ht hvm hw hB hz1 hk1 hS => ?_)
                    obtain ⟨hP1, hK1, hD1⟩ := hB
                    rw [ht] at hP1
                    have hP := hP1
                    have hD := hD1.weaken (fun _ q _ h => hFc q.1 h)
                    have hw : z18_1 = r18 := hw.symm
                    subst hw
                    generalize H1 = H at hP hS ⊢
                    have hP : va_P (dC, dI) classes (wD cB cI o_Model r z18_3 z18_2) H := hP
                    have hD : va_D A (wD cB cI o_Model r z18_3 z18_2) := hD
                    obtain ⟨⟨z19_1, z19_2⟩, hc19, h⟩ := dz_ob h
                    try dsimp only at h
                    have hPc := hP
                    have hKc := hK
                    have hDc := hD
                    have hFc := dz_freeall hD hS hA
                    refine va_calli (va_runV (As := [.int 2, .int z18_1]) (rest := []) ⟨hx, hb, hml, hown, hg⟩ (c_Model_next l dC dI N cB cI o_Model r z18_3 z18_2 (2 : Int32) z18_1 H.size (z19_1, z19_2) hc19) (cwV 2 hg (gd_V k871 k872 k873 k707 k870) rfl rfl rfl (by decide +kernel) ⟨Nat.le_of_ble_eq_true rfl, Nat.le_of_ble_eq_true rfl⟩) ⟨dz_blind, va_recv hKc hPc (ci := 10) (q0 := 0) rfl rfl, fun U hU hW => ⟨rfl, dz_Nw hW hN, by rw [hU], by rw [hU]; exact hPc, va_K.moved hW.alike hKc, hDc.weaken (fun _ _ _ _ => trivial)⟩⟩ rfl rfl hl.1 rfl (lv_room (Nat.le_of_ble_eq_true rfl)) d_Model_numbers_289 ⟨Nat.le_of_ble_eq_true rfl, Nat.le_of_ble_eq_true rfl⟩) hS (fun q _ h => hFc q h) hFc (fun r19 u19 t19 H1 locs ht hvm hw hB hz1 hk1 hS => ?_)
                    obtain ⟨hP1, hK1, hD1⟩ := hB
                    rw [ht] at hP1
                    have hP := hP1
                    have hD := hD1.weaken (fun _ q _ h => hFc q.1 h)
                    have hw : z19_1 = r19 := hw.symm
                    subst hw
                    generalize H1 = H at hP hS ⊢
                    have hP : va_P (dC, dI) classes (wD cB cI o_Model r z19_2 z18_2) H := hP
                    have hD : va_D A (wD cB cI o_Model r z19_2 z18_2) := hD
                    obtain rfl := Option.some.inj h
                    have hP9 := hP
                    have hD9 := hD
                    have hK9 := hK
                    exact W.iret (v := z19_1) hx hb hr (fun t ht hW => ⟨⟨z19_1, (), rfl, rfl, by rw [ht]; exact hP9, va_K.moved hW.alike hK9, hD9⟩, hS.F ht⟩) hS.2.2 d_Model_numbers_292
                  · rw [if_pos c16] at h
                    refine lv_iload hx hb d_Model_numbers_252 (lv_at hl 1 rfl) ?_
                    refine lv_if_lt (tgt := 265) hx hb d_Model_numbers_254 (by decide) (fun c20 => ?_) (fun c20 => ?_)
                    · rw [if_pos c20] at h
                      refine lv_aload_n hx hb d_Model_numbers_265 rfl (lv_at hl 3 rfl) ?_
                      refine lv_iconst (v := 1) hx hb d_Model_numbers_266 (by decide) ?_
                      refine lv_bipush (v := 6) hx hb d_Model_numbers_267 (by decide) ?_
                      obtain ⟨⟨z21_1, z21_2, z21_3⟩, hc21, h⟩ := dz_ob h
                      try dsimp only at h
                      have hPc := hP
                      have hKc := hK
                      have hDc := hD
                      have hFc := dz_freeall hD hS hA
                      refine va_calli (va_runV (As := [.int 1, .int 6]) (rest := []) ⟨hx, hb, hml, hown, hg⟩ (c_Model_raiseGlobal l dC dI N cB cI o_Model r I F (1 : Int32) (6 : Int32) H.size (z21_1, z21_2, z21_3) hc21) (cwV 2 hg (gd_V k875 k876 k877 k707 k874) rfl rfl rfl (by decide +kernel) ⟨Nat.le_of_ble_eq_true rfl, Nat.le_of_ble_eq_true rfl⟩) ⟨dz_blind, va_recv hKc hPc (ci := 10) (q0 := 0) rfl rfl, fun U hU hW => ⟨rfl, dz_Nw hW hN, by rw [hU], by rw [hU]; exact hPc, va_K.moved hW.alike hKc, hDc.weaken (fun _ _ _ _ => trivial)⟩⟩ rfl rfl hl.1 rfl (lv_room (Nat.le_of_ble_eq_true rfl)) d_Model_numbers_269 ⟨Nat.le_of_ble_eq_true rfl, Nat.le_of_ble_eq_true rfl⟩) hS (fun q _ h => hFc q h) hFc (fun r21 u21 t21 H1 locs ht hvm hw hB hz1 hk1 hS => ?_)
                      obtain ⟨hP1, hK1, hD1⟩ := hB
                      rw [ht] at hP1
                      have hP := hP1
                      have hD := hD1.weaken (fun _ q _ h => hFc q.1 h)
                      have hw : z21_1 = r21 := hw.symm
                      subst hw
                      generalize H1 = H at hP hS ⊢
                      have hP : va_P (dC, dI) classes (wD cB cI o_Model r z21_3 z21_2) H := hP
                      have hD : va_D A (wD cB cI o_Model r z21_3 z21_2) := hD
                      obtain rfl := Option.some.inj h
                      have hP9 := hP
                      have hD9 := hD
                      have hK9 := hK
                      exact W.iret (v := z21_1) hx hb hr (fun t ht hW => ⟨⟨z21_1, (), rfl, rfl, by rw [ht]; exact hP9, va_K.moved hW.alike hK9, hD9⟩, hS.F ht⟩) hS.2.2 d_Model_numbers_272
                    · rw [if_neg c20] at h
                      refine lv_iload hx hb d_Model_numbers_257 (lv_at hl 1 rfl) ?_
                      refine lv_sipush (v := 255) hx hb d_Model_numbers_259 (by decide) ?_
                      refine lv_icmp_le (tgt := 273) hx hb d_Model_numbers_262 (by decide) (fun c22 => ?_) (fun c22 => ?_)
                      · rw [if_pos c22] at h
                        refine lv_aload_n hx hb d_Model_numbers_273 rfl (lv_at hl 3 rfl) ?_
                        refine lv_iconst (v := 2) hx hb d_Model_numbers_274 (by decide) ?_
                        refine lv_aload_n hx hb d_Model_numbers_275 rfl (lv_at hl 3 rfl) ?_
                        refine lv_iload hx hb d_Model_numbers_276 (lv_at hl 0 rfl) ?_
                        refine lv_iconst (v := 0) hx hb d_Model_numbers_278 (by decide) ?_
                        refine lv_iload_n hx hb d_Model_numbers_279 rfl (lv_at hl 4 rfl) ?_
                        refine lv_iload hx hb d_Model_numbers_280 (lv_at hl 1 rfl) ?_
                        refine lv_iload_n hx hb d_Model_numbers_282 rfl (lv_at hl 2 rfl) ?_
                        obtain ⟨z23_1, hc23, h⟩ := dz_ob h
                        try dsimp only at h
                        have hPc := hP.sub (ws' := []) [] rfl
                        have hKc := hK.sub (tys' := []) [] rfl
                        refine vp_callSi (va_Run.run (va_runS (As := [.int p0, .int y1_0, .int z1_1]) (rest := [.int 0, .int y2_0, .ref o_Model, .int 2, .ref o_Model]) ⟨hx, hb, hml, hown, hg⟩ (c_Model_plain l dC dI N p0 y1_0 z1_1 z23_1 hc23) (va_cwS 3 hg (gd_S k891 k892 k707 k890) rfl rfl rfl (by decide +kernel) ⟨Nat.le_of_ble_eq_true rfl, Nat.le_of_ble_eq_true rfl⟩) ⟨dz_blindR, fun U hU hW => ⟨rfl, dz_Nw hW hN, by rw [hU]; exact hPc, va_K.moved hW.alike hKc⟩⟩ rfl rfl hl.1 rfl (lv_room (Nat.le_of_ble_eq_true rfl)) d_Model_numbers_283 ⟨Nat.le_of_ble_eq_true rfl, Nat.le_of_ble_eq_true rfl⟩)) (fun r23 hw => ?_)
                        have hw : z23_1 = r23 := hw.symm
                        subst hw
                        obtain ⟨⟨z24_1, z24_2, z24_3⟩, hc24, h⟩ := dz_ob h
                        try dsimp only at h
                        have hPc := hP
                        have hKc := hK
                        have hDc := hD
                        have hFc := dz_freeall hD hS hA
                        refine va_calli (va_runV (As := [.int y2_0, .int 0, .int z23_1]) (rest := [.int 2, .ref o_Model]) ⟨hx, hb, hml, hown, hg⟩ (c_Model_give l dC dI N cB cI o_Model r I F y2_0 (0 : Int32) z23_1 H.size (z24_1, z24_2, z24_3) hc24) (cwV 3 hg (gd_V k734 k735 k736 k707 k733) rfl rfl rfl (by decide +kernel) ⟨Nat.le_of_ble_eq_true rfl, Nat.le_of_ble_eq_true rfl⟩) ⟨dz_blind, va_recv hKc hPc (ci := 10) (q0 := 0) rfl rfl, fun U hU hW => ⟨rfl, dz_Nw hW hN, by rw [hU], by rw [hU]; exact hPc, va_K.moved hW.alike hKc, hDc.weaken (fun _ _ _ _ => trivial)⟩⟩ rfl rfl hl.1 rfl (lv_room (Nat.le_of_ble_eq_true rfl)) d_Model_numbers_286 ⟨Nat.le_of_ble_eq_true rfl, Nat.le_of_ble_eq_true rfl⟩) hS (fun q _ h => hFc q h) hFc (fun r24 u24 t24 H1 locs ht hvm hw hB hz1 hk1 hS => ?_)
                        obtain ⟨hP1, hK1, hD1⟩ := hB
                        rw [ht] at hP1
                        have hP := hP1
                        have hD := hD1.weaken (fun _ q _ h => hFc q.1 h)
                        have hw : z24_1 = r24 := hw.symm
                        subst hw
                        generalize H1 = H at hP hS ⊢
                        have hP : va_P (dC, dI) classes (wD cB cI o_Model r z24_3 z24_2) H := hP
                        have hD : va_D A (wD cB cI o_Model r z24_3 z24_2) := hD
                        obtain ⟨⟨z25_1, z25_2⟩, hc25, h⟩ := dz_ob h
                        try dsimp only at h
                        have hPc := hP
                        have hKc := hK
                        have hDc := hD
                        have hFc := dz_freeall hD hS hA
                        refine va_calli (va_runV (As := [.int 2, .int z24_1]) (rest := []) ⟨hx, hb, hml, hown, hg⟩ (c_Model_next l dC dI N cB cI o_Model r z24_3 z24_2 (2 : Int32) z24_1 H.size (z25_1, z25_2) hc25) (cwV 2 hg (gd_V k871 k872 k873 k707 k870) rfl rfl rfl (by decide +kernel) ⟨Nat.le_of_ble_eq_true rfl, Nat.le_of_ble_eq_true rfl⟩) ⟨dz_blind, va_recv hKc hPc (ci := 10) (q0 := 0) rfl rfl, fun U hU hW => ⟨rfl, dz_Nw hW hN, by rw [hU], by rw [hU]; exact hPc, va_K.moved hW.alike hKc, hDc.weaken (fun _ _ _ _ => trivial)⟩⟩ rfl rfl hl.1 rfl (lv_room (Nat.le_of_ble_eq_true rfl)) d_Model_numbers_289 ⟨Nat.le_of_ble_eq_true rfl, Nat.le_of_ble_eq_true rfl⟩) hS (fun q _ h => hFc q h) hFc (fun r25 u25 t25 H1 locs ht hvm hw hB hz1 hk1 hS => ?_)
                        obtain ⟨hP1, hK1, hD1⟩ := hB
                        rw [ht] at hP1
                        have hP := hP1
                        have hD := hD1.weaken (fun _ q _ h => hFc q.1 h)
                        have hw : z25_1 = r25 := hw.symm
                        subst hw
                        generalize H1 = H at hP hS ⊢
                        have hP : va_P (dC, dI) classes (wD cB cI o_Model r z25_2 z24_2) H := hP
                        have hD : va_D A (wD cB cI o_Model r z25_2 z24_2) := hD
                        obtain rfl := Option.some.inj h
                        have hP9 := hP
                        have hD9 := hD
                        have hK9 := hK
                        exact W.iret (v := z25_1) hx hb hr (fun t ht hW => ⟨⟨z25_1, (), rfl, rfl, by rw [ht]; exact hP9, va_K.moved hW.alike hK9, hD9⟩, hS.F ht⟩) hS.2.2 d_Model_numbers_292
                      · rw [if_neg c22] at h
                        refine lv_aload_n hx hb d_Model_numbers_265 rfl (lv_at hl 3 rfl) ?_
                        refine lv_iconst (v := 1) hx hb d_Model_numbers_266 (by decide) ?_
                        refine lv_bipush (v := 6) hx hb d_Model_numbers_267 (by decide) ?_
                        obtain ⟨⟨z26_1, z26_2, z26_3⟩, hc26, h⟩ := dz_ob h
                        try dsimp only at h
                        have hPc := hP
                        have hKc := hK
                        have hDc := hD
                        have hFc := dz_freeall hD hS hA
                        refine va_calli (va_runV (As := [.int 1, .int 6]) (rest := []) ⟨hx, hb, hml, hown, hg⟩ (c_Model_raiseGlobal l dC dI N cB cI o_Model r I F (1 : Int32) (6 : Int32) H.size (z26_1, z26_2, z26_3) hc26) (cwV 2 hg (gd_V k875 k876 k877 k707 k874) rfl rfl rfl (by decide +kernel) ⟨Nat.le_of_ble_eq_true rfl, Nat.le_of_ble_eq_true rfl⟩) ⟨dz_blind, va_recv hKc hPc (ci := 10) (q0 := 0) rfl rfl, fun U hU hW => ⟨rfl, dz_Nw hW hN, by rw [hU], by rw [hU]; exact hPc, va_K.moved hW.alike hKc, hDc.weaken (fun _ _ _ _ => trivial)⟩⟩ rfl rfl hl.1 rfl (lv_room (Nat.le_of_ble_eq_true rfl)) d_Model_numbers_269 ⟨Nat.le_of_ble_eq_true rfl, Nat.le_of_ble_eq_true rfl⟩) hS (fun q _ h => hFc q h) hFc (fun r26 u26 t26 H1 locs ht hvm hw hB hz1 hk1 hS => ?_)
                        obtain ⟨hP1, hK1, hD1⟩ := hB
                        rw [ht] at hP1
                        have hP := hP1
                        have hD := hD1.weaken (fun _ q _ h => hFc q.1 h)
                        have hw : z26_1 = r26 := hw.symm
                        subst hw
                        generalize H1 = H at hP hS ⊢
                        have hP : va_P (dC, dI) classes (wD cB cI o_Model r z26_3 z26_2) H := hP
                        have hD : va_D A (wD cB cI o_Model r z26_3 z26_2) := hD
                        obtain rfl := Option.some.inj h
                        have hP9 := hP
                        have hD9 := hD
                        have hK9 := hK
                        exact W.iret (v := z26_1) hx hb hr (fun t ht hW => ⟨⟨z26_1, (), rfl, rfl, by rw [ht]; exact hP9, va_K.moved hW.alike hK9, hD9⟩, hS.F ht⟩) hS.2.2 d_Model_numbers_272
                · rw [if_pos c15] at h
                  refine lv_aload_n hx hb d_Model_numbers_234 rfl (lv_at hl 3 rfl) ?_
                  refine lv_iconst (v := 2) hx hb d_Model_numbers_235 (by decide) ?_
                  refine lv_aload_n hx hb d_Model_numbers_236 rfl (lv_at hl 3 rfl) ?_
                  refine lv_iload hx hb d_Model_numbers_237 (lv_at hl 1 rfl) ?_
                  obtain ⟨⟨z27_1, z27_2, z27_3⟩, hc27, h⟩ := dz_ob h
                  try dsimp only at h
                  have hPc := hP
                  have hKc := hK
                  have hDc := hD
                  have hFc := dz_freeall hD hS hA
                  refine va_calli (va_runV (As := [.int y1_0]) (rest := [.int 2, .ref o_Model]) ⟨hx, hb, hml, hown, hg⟩ (c_Model_decimal l dC dI N cB cI o_Model r I F y1_0 H.size (z27_1, z27_2, z27_3) hc27) (cwV 1 hg (gd_V k894 k895 k896 k707 k893) rfl rfl rfl (by decide +kernel) ⟨Nat.le_of_ble_eq_true rfl, Nat.le_of_ble_eq_true rfl⟩) ⟨dz_blind, va_recv hKc hPc (ci := 10) (q0 := 0) rfl rfl, fun U hU hW => ⟨rfl, dz_Nw hW hN, by rw [hU], by rw [hU]; exact hPc, va_K.moved hW.alike hKc, hDc.weaken (fun _ _ _ _ => trivial)⟩⟩ rfl rfl hl.1 rfl (lv_room (Nat.le_of_ble_eq_true rfl)) d_Model_numbers_239 ⟨Nat.le_of_ble_eq_true rfl, Nat.le_of_ble_eq_true rfl⟩) hS (fun q _ h => hFc q h) hFc (fun r27 u27 t27 H1 locs ht hvm hw hB hz1 hk1 hS => ?_)
                  obtain ⟨hP1, hK1, hD1⟩ := hB
                  rw [ht] at hP1
                  have hP := hP1
                  have hD := hD1.weaken (fun _ q _ h => hFc q.1 h)
                  have hw : z27_1 = r27 := hw.symm
                  subst hw
                  generalize H1 = H at hP hS ⊢
                  have hP : va_P (dC, dI) classes (wD cB cI o_Model r z27_3 z27_2) H := hP
                  have hD : va_D A (wD cB cI o_Model r z27_3 z27_2) := hD
                  obtain ⟨⟨z28_1, z28_2⟩, hc28, h⟩ := dz_ob h
                  try dsimp only at h
                  have hPc := hP
                  have hKc := hK
                  have hDc := hD
                  have hFc := dz_freeall hD hS hA
                  refine va_calli (va_runV (As := [.int 2, .int z27_1]) (rest := []) ⟨hx, hb, hml, hown, hg⟩ (c_Model_next l dC dI N cB cI o_Model r z27_3 z27_2 (2 : Int32) z27_1 H.size (z28_1, z28_2) hc28) (cwV 2 hg (gd_V k871 k872 k873 k707 k870) rfl rfl rfl (by decide +kernel) ⟨Nat.le_of_ble_eq_true rfl, Nat.le_of_ble_eq_true rfl⟩) ⟨dz_blind, va_recv hKc hPc (ci := 10) (q0 := 0) rfl rfl, fun U hU hW => ⟨rfl, dz_Nw hW hN, by rw [hU], by rw [hU]; exact hPc, va_K.moved hW.alike hKc, hDc.weaken (fun _ _ _ _ => trivial)⟩⟩ rfl rfl hl.1 rfl (lv_room (Nat.le_of_ble_eq_true rfl)) d_Model_numbers_242 ⟨Nat.le_of_ble_eq_true rfl, Nat.le_of_ble_eq_true rfl⟩) hS (fun q _ h => hFc q h) hFc (fun r28 u28 t28 H1 locs ht hvm hw hB hz1 hk1 hS => ?_)
                  obtain ⟨hP1, hK1, hD1⟩ := hB
                  rw [ht] at hP1
                  have hP := hP1
                  have hD := hD1.weaken (fun _ q _ h => hFc q.1 h)
                  have hw : z28_1 = r28 := hw.symm
                  subst hw
                  generalize H1 = H at hP hS ⊢
                  have hP : va_P (dC, dI) classes (wD cB cI o_Model r z28_2 z27_2) H := hP
                  have hD : va_D A (wD cB cI o_Model r z28_2 z27_2) := hD
                  obtain rfl := Option.some.inj h
                  have hP9 := hP
                  have hD9 := hD
                  have hK9 := hK
                  exact W.iret (v := z28_1) hx hb hr (fun t ht hW => ⟨⟨z28_1, (), rfl, rfl, by rw [ht]; exact hP9, va_K.moved hW.alike hK9, hD9⟩, hS.F ht⟩) hS.2.2 d_Model_numbers_245
              · rw [if_pos c14] at h
                refine lv_iload hx hb d_Model_numbers_199 (lv_at hl 1 rfl) ?_
                refine lv_if_lt (tgt := 212) hx hb d_Model_numbers_201 (by decide) (fun c29 => ?_) (fun c29 => ?_)
                · rw [if_pos c29] at h
                  refine lv_iconst (v := 4) hx hb d_Model_numbers_212 (by decide) ?_
                  refine lv_goto (tgt := 227) hx hb d_Model_numbers_213 (by decide) ?_
                  obtain rfl := Option.some.inj h
                  have hP9 := hP
                  have hD9 := hD
                  have hK9 := hK
                  exact W.iret (v := 4) hx hb hr (fun t ht hW => ⟨⟨4, (), rfl, rfl, by rw [ht]; exact hP9, va_K.moved hW.alike hK9, hD9⟩, hS.F ht⟩) hS.2.2 d_Model_numbers_227
                · rw [if_neg c29] at h
                  refine lv_iload hx hb d_Model_numbers_204 (lv_at hl 1 rfl) ?_
                  refine lv_sipush (v := 255) hx hb d_Model_numbers_206 (by decide) ?_
                  refine lv_icmp_le (tgt := 216) hx hb d_Model_numbers_209 (by decide) (fun c30 => ?_) (fun c30 => ?_)
                  · rw [if_pos c30] at h
                    refine lv_aload_n hx hb d_Model_numbers_216 rfl (lv_at hl 3 rfl) ?_
                    refine lv_iconst (v := 2) hx hb d_Model_numbers_217 (by decide) ?_
                    refine lv_aload_n hx hb d_Model_numbers_218 rfl (lv_at hl 3 rfl) ?_
                    refine lv_iload hx hb d_Model_numbers_219 (lv_at hl 1 rfl) ?_
                    obtain ⟨⟨z31_1, z31_2, z31_3⟩, hc31, h⟩ := dz_ob h
                    try dsimp only at h
                    have hPc := hP
                    have hKc := hK
                    have hDc := hD
                    have hFc := dz_freeall hD hS hA
                    refine va_calli (va_runV (As := [.int y1_0]) (rest := [.int 2, .ref o_Model]) ⟨hx, hb, hml, hown, hg⟩ (c_Model_oneByte l dC dI N cB cI o_Model r I F y1_0 H.size (z31_1, z31_2, z31_3) hc31) (cwV 1 hg (gd_V k898 k899 k900 k707 k897) rfl rfl rfl (by decide +kernel) ⟨Nat.le_of_ble_eq_true rfl, Nat.le_of_ble_eq_true rfl⟩) ⟨dz_blind, va_recv hKc hPc (ci := 10) (q0 := 0) rfl rfl, fun U hU hW => ⟨rfl, dz_Nw hW hN, by rw [hU], by rw [hU]; exact hPc, va_K.moved hW.alike hKc, hDc.weaken (fun _ _ _ _ => trivial)⟩⟩ rfl rfl hl.1 rfl (lv_room (Nat.le_of_ble_eq_true rfl)) d_Model_numbers_221 ⟨Nat.le_of_ble_eq_true rfl, Nat.le_of_ble_eq_true rfl⟩) hS (fun q _ h => hFc q h) hFc (fun r31 u31 t31 H1 locs ht hvm hw hB hz1 hk1 hS => ?_)
                    obtain ⟨hP1, hK1, hD1⟩ := hB
                    rw [ht] at hP1
                    have hP := hP1
                    have hD := hD1.weaken (fun _ q _ h => hFc q.1 h)
                    have hw : z31_1 = r31 := hw.symm
                    subst hw
                    generalize H1 = H at hP hS ⊢
                    have hP : va_P (dC, dI) classes (wD cB cI o_Model r z31_3 z31_2) H := hP
                    have hD : va_D A (wD cB cI o_Model r z31_3 z31_2) := hD
                    obtain ⟨⟨z32_1, z32_2⟩, hc32, h⟩ := dz_ob h
                    try dsimp only at h
                    have hPc := hP
                    have hKc := hK
                    have hDc := hD
                    have hFc := dz_freeall hD hS hA
                    refine va_calli (va_runV (As := [.int 2, .int z31_1]) (rest := []) ⟨hx, hb, hml, hown, hg⟩ (c_Model_next l dC dI N cB cI o_Model r z31_3 z31_2 (2 : Int32) z31_1 H.size (z32_1, z32_2) hc32) (cwV 2 hg (gd_V k871 k872 k873 k707 k870) rfl rfl rfl (by decide +kernel) ⟨Nat.le_of_ble_eq_true rfl, Nat.le_of_ble_eq_true rfl⟩) ⟨dz_blind, va_recv hKc hPc (ci := 10) (q0 := 0) rfl rfl, fun U hU hW => ⟨rfl, dz_Nw hW hN, by rw [hU], by rw [hU]; exact hPc, va_K.moved hW.alike hKc, hDc.weaken (fun _ _ _ _ => trivial)⟩⟩ rfl rfl hl.1 rfl (lv_room (Nat.le_of_ble_eq_true rfl)) d_Model_numbers_224 ⟨Nat.le_of_ble_eq_true rfl, Nat.le_of_ble_eq_true rfl⟩) hS (fun q _ h => hFc q h) hFc (fun r32 u32 t32 H1 locs ht hvm hw hB hz1 hk1 hS => ?_)
                    obtain ⟨hP1, hK1, hD1⟩ := hB
                    rw [ht] at hP1
                    have hP := hP1
                    have hD := hD1.weaken (fun _ q _ h => hFc q.1 h)
                    have hw : z32_1 = r32 := hw.symm
                    subst hw
                    generalize H1 = H at hP hS ⊢
                    have hP : va_P (dC, dI) classes (wD cB cI o_Model r z32_2 z31_2) H := hP
                    have hD : va_D A (wD cB cI o_Model r z32_2 z31_2) := hD
                    obtain rfl := Option.some.inj h
                    have hP9 := hP
                    have hD9 := hD
                    have hK9 := hK
                    exact W.iret (v := z32_1) hx hb hr (fun t ht hW => ⟨⟨z32_1, (), rfl, rfl, by rw [ht]; exact hP9, va_K.moved hW.alike hK9, hD9⟩, hS.F ht⟩) hS.2.2 d_Model_numbers_227
                  · rw [if_neg c30] at h
                    refine lv_iconst (v := 4) hx hb d_Model_numbers_212 (by decide) ?_
                    refine lv_goto (tgt := 227) hx hb d_Model_numbers_213 (by decide) ?_
                    obtain rfl := Option.some.inj h
                    have hP9 := hP
                    have hD9 := hD
                    have hK9 := hK
                    exact W.iret (v := 4) hx hb hr (fun t ht hW => ⟨⟨4, (), rfl, rfl, by rw [ht]; exact hP9, va_K.moved hW.alike hK9, hD9⟩, hS.F ht⟩) hS.2.2 d_Model_numbers_227
            · rw [if_pos c13] at h
              refine lv_iload hx hb d_Model_numbers_181 (lv_at hl 1 rfl) ?_
              refine lv_if_ge (tgt := 193) hx hb d_Model_numbers_183 (by decide) (fun c33 => ?_) (fun c33 => ?_)
              · rw [if_pos c33] at h
                refine lv_iload_n hx hb d_Model_numbers_193 rfl (lv_at hl 4 rfl) ?_
                refine lv_bipush (v := 29) hx hb d_Model_numbers_194 (by decide) ?_
                refine lv_icmp_ne (tgt := 228) hx hb d_Model_numbers_196 (by decide) (fun c34 => ?_) (fun c34 => ?_)
                · rw [if_neg c34] at h
                  refine lv_iload_n hx hb d_Model_numbers_228 rfl (lv_at hl 4 rfl) ?_
                  refine lv_bipush (v := 38) hx hb d_Model_numbers_229 (by decide) ?_
                  refine lv_icmp_ne (tgt := 246) hx hb d_Model_numbers_231 (by decide) (fun c35 => ?_) (fun c35 => ?_)
                  · rw [if_neg c35] at h
                    refine lv_iload_n hx hb d_Model_numbers_246 rfl (lv_at hl 4 rfl) ?_
                    refine lv_bipush (v := 39) hx hb d_Model_numbers_247 (by decide) ?_
                    refine lv_icmp_ne (tgt := 273) hx hb d_Model_numbers_249 (by decide) (fun c36 => ?_) (fun c36 => ?_)
                    · rw [if_neg c36] at h
                      refine lv_aload_n hx hb d_Model_numbers_273 rfl (lv_at hl 3 rfl) ?_
                      refine lv_iconst (v := 2) hx hb d_Model_numbers_274 (by decide) ?_
                      refine lv_aload_n hx hb d_Model_numbers_275 rfl (lv_at hl 3 rfl) ?_
                      refine lv_iload hx hb d_Model_numbers_276 (lv_at hl 0 rfl) ?_
                      refine lv_iconst (v := 0) hx hb d_Model_numbers_278 (by decide) ?_
                      refine lv_iload_n hx hb d_Model_numbers_279 rfl (lv_at hl 4 rfl) ?_
                      refine lv_iload hx hb d_Model_numbers_280 (lv_at hl 1 rfl) ?_
                      refine lv_iload_n hx hb d_Model_numbers_282 rfl (lv_at hl 2 rfl) ?_
                      obtain ⟨z37_1, hc37, h⟩ := dz_ob h
                      try dsimp only at h
                      have hPc := hP.sub (ws' := []) [] rfl
                      have hKc := hK.sub (tys' := []) [] rfl
                      refine vp_callSi (va_Run.run (va_runS (As := [.int p0, .int y1_0, .int z1_1]) (rest := [.int 0, .int y2_0, .ref o_Model, .int 2, .ref o_Model]) ⟨hx, hb, hml, hown, hg⟩ (c_Model_plain l dC dI N p0 y1_0 z1_1 z37_1 hc37) (va_cwS 3 hg (gd_S k891 k892 k707 k890) rfl rfl rfl (by decide +kernel) ⟨Nat.le_of_ble_eq_true rfl, Nat.le_of_ble_eq_true rfl⟩) ⟨dz_blindR, fun U hU hW => ⟨rfl, dz_Nw hW hN, by rw [hU]; exact hPc, va_K.moved hW.alike hKc⟩⟩ rfl rfl hl.1 rfl (lv_room (Nat.le_of_ble_eq_true rfl)) d_Model_numbers_283 ⟨Nat.le_of_ble_eq_true rfl, Nat.le_of_ble_eq_true rfl⟩)) (fun r37 hw => ?_)
                      have hw : z37_1 = r37 := hw.symm
                      subst hw
                      obtain ⟨⟨z38_1, z38_2, z38_3⟩, hc38, h⟩ := dz_ob h
                      try dsimp only at h
                      have hPc := hP
                      have hKc := hK
                      have hDc := hD
                      have hFc := dz_freeall hD hS hA
                      refine va_calli (va_runV (As := [.int y2_0, .int 0, .int z37_1]) (rest := [.int 2, .ref o_Model]) ⟨hx, hb, hml, hown, hg⟩ (c_Model_give l dC dI N cB cI o_Model r I F y2_0 (0 : Int32) z37_1 H.size (z38_1, z38_2, z38_3) hc38) (cwV 3 hg (gd_V k734 k735 k736 k707 k733) rfl rfl rfl (by decide +kernel) ⟨Nat.le_of_ble_eq_true rfl, Nat.le_of_ble_eq_true rfl⟩) ⟨dz_blind, va_recv hKc hPc (ci := 10) (q0 := 0) rfl rfl, fun U hU hW => ⟨rfl, dz_Nw hW hN, by rw [hU], by rw [hU]; exact hPc, va_K.moved hW.alike hKc, hDc.weaken (fun _ _ _ _ => trivial)⟩⟩ rfl rfl hl.1 rfl (lv_room (Nat.le_of_ble_eq_true rfl)) d_Model_numbers_286 ⟨Nat.le_of_ble_eq_true rfl, Nat.le_of_ble_eq_true rfl⟩) hS (fun q _ h => hFc q h) hFc (fun r38 u38 t38 H1 locs ht hvm hw hB hz1 hk1 hS => ?_)
                      obtain ⟨hP1, hK1, hD1⟩ := hB
                      rw [ht] at hP1
                      have hP := hP1
                      have hD := hD1.weaken (fun _ q _ h => hFc q.1 h)
                      have hw : z38_1 = r38 := hw.symm
                      subst hw
                      generalize H1 = H at hP hS ⊢
                      have hP : va_P (dC, dI) classes (wD cB cI o_Model r z38_3 z38_2) H := hP
                      have hD : va_D A (wD cB cI o_Model r z38_3 z38_2) := hD
                      obtain ⟨⟨z39_1, z39_2⟩, hc39, h⟩ := dz_ob h
                      try dsimp only at h
                      have hPc := hP
                      have hKc := hK
                      have hDc := hD
                      have hFc := dz_freeall hD hS hA
                      refine va_calli (va_runV (As := [.int 2, .int z38_1]) (rest := []) ⟨hx, hb, hml, hown, hg⟩ (c_Model_next l dC dI N cB cI o_Model r z38_3 z38_2 (2 : Int32) z38_1 H.size (z39_1, z39_2) hc39) (cwV 2 hg (gd_V k871 k872 k873 k707 k870) rfl rfl rfl (by decide +kernel) ⟨Nat.le_of_ble_eq_true rfl, Nat.le_of_ble_eq_true rfl⟩) ⟨dz_blind, va_recv hKc hPc (ci := 10) (q0 := 0) rfl rfl, fun U hU hW => ⟨rfl, dz_Nw hW hN, by rw [hU], by rw [hU]; exact hPc, va_K.moved hW.alike hKc, hDc.weaken (fun _ _ _ _ => trivial)⟩⟩ rfl rfl hl.1 rfl (lv_room (Nat.le_of_ble_eq_true rfl)) d_Model_numbers_289 ⟨Nat.le_of_ble_eq_true rfl, Nat.le_of_ble_eq_true rfl⟩) hS (fun q _ h => hFc q h) hFc (fun r39 u39 t39 H1 locs ht hvm hw hB hz1 hk1 hS => ?_)
                      obtain ⟨hP1, hK1, hD1⟩ := hB
                      rw [ht] at hP1
                      have hP := hP1
                      have hD := hD1.weaken (fun _ q _ h => hFc q.1 h)
                      have hw : z39_1 = r39 := hw.symm
                      subst hw
                      generalize H1 = H at hP hS ⊢
                      have hP : va_P (dC, dI) classes (wD cB cI o_Model r z39_2 z38_2) H := hP
                      have hD : va_D A (wD cB cI o_Model r z39_2 z38_2) := hD
                      obtain rfl := Option.some.inj h
                      have hP9 := hP
                      have hD9 := hD
                      have hK9 := hK
                      exact W.iret (v := z39_1) hx hb hr (fun t ht hW => ⟨⟨z39_1, (), rfl, rfl, by rw [ht]; exact hP9, va_K.moved hW.alike hK9, hD9⟩, hS.F ht⟩) hS.2.2 d_Model_numbers_292
                    · rw [if_pos c36] at h
                      refine lv_iload hx hb d_Model_numbers_252 (lv_at hl 1 rfl) ?_
                      refine lv_if_lt (tgt := 265) hx hb d_Model_numbers_254 (by decide) (fun c40 => ?_) (fun c40 => ?_)
                      · rw [if_pos c40] at h
                        refine lv_aload_n hx hb d_Model_numbers_265 rfl (lv_at hl 3 rfl) ?_
                        refine lv_iconst (v := 1) hx hb d_Model_numbers_266 (by decide) ?_
                        refine lv_bipush (v := 6) hx hb d_Model_numbers_267 (by decide) ?_
                        obtain ⟨⟨z41_1, z41_2, z41_3⟩, hc41, h⟩ := dz_ob h
                        try dsimp only at h
                        have hPc := hP
                        have hKc := hK
                        have hDc := hD
                        have hFc := dz_freeall hD hS hA
                        refine va_calli (va_runV (As := [.int 1, .int 6]) (rest := []) ⟨hx, hb, hml, hown, hg⟩ (c_Model_raiseGlobal l dC dI N cB cI o_Model r I F (1 : Int32) (6 : Int32) H.size (z41_1, z41_2, z41_3) hc41) (cwV 2 hg (gd_V k875 k876 k877 k707 k874) rfl rfl rfl (by decide +kernel) ⟨Nat.le_of_ble_eq_true rfl, Nat.le_of_ble_eq_true rfl⟩) ⟨dz_blind, va_recv hKc hPc (ci := 10) (q0 := 0) rfl rfl, fun U hU hW => ⟨rfl, dz_Nw hW hN, by rw [hU], by rw [hU]; exact hPc, va_K.moved hW.alike hKc, hDc.weaken (fun _ _ _ _ => trivial)⟩⟩ rfl rfl hl.1 rfl (lv_room (Nat.le_of_ble_eq_true rfl)) d_Model_numbers_269 ⟨Nat.le_of_ble_eq_true rfl, Nat.le_of_ble_eq_true rfl⟩) hS (fun q _ h => hFc q h) hFc (fun r41 u41 t41 H1 locs ht hvm hw hB hz1 hk1 hS => ?_)
                        obtain ⟨hP1, hK1, hD1⟩ := hB
                        rw [ht] at hP1
                        have hP := hP1
                        have hD := hD1.weaken (fun _ q _ h => hFc q.1 h)
                        have hw : z41_1 = r41 := hw.symm
                        subst hw
                        generalize H1 = H at hP hS ⊢
                        have hP : va_P (dC, dI) classes (wD cB cI o_Model r z41_3 z41_2) H := hP
                        have hD : va_D A (wD cB cI o_Model r z41_3 z41_2) := hD
                        obtain rfl := Option.some.inj h
                        have hP9 := hP
                        have hD9 := hD
                        have hK9 := hK
                        exact W.iret (v := z41_1) hx hb hr (fun t ht hW => ⟨⟨z41_1, (), rfl, rfl, by rw [ht]; exact hP9, va_K.moved hW.alike hK9, hD9⟩, hS.F ht⟩) hS.2.2 d_Model_numbers_272
                      · rw [if_neg c40] at h
                        refine lv_iload hx hb d_Model_numbers_257 (lv_at hl 1 rfl) ?_
                        refine lv_sipush (v := 255) hx hb d_Model_numbers_259 (by decide) ?_
                        refine lv_icmp_le (tgt := 273) hx hb d_Model_numbers_262 (by decide) (fun c42 => ?_) (fun c42 => ?_)
                        · rw [if_pos c42] at h
                          refine lv_aload_n hx hb d_Model_numbers_273 rfl (lv_at hl 3 rfl) ?_
                          refine lv_iconst (v := 2) hx hb d_Model_numbers_274 (by decide) ?_
                          refine lv_aload_n hx hb d_Model_numbers_275 rfl (lv_at hl 3 rfl) ?_
                          refine lv_iload hx hb d_Model_numbers_276 (lv_at hl 0 rfl) ?_
                          refine lv_iconst (v := 0) hx hb d_Model_numbers_278 (by decide) ?_
                          refine lv_iload_n hx hb d_Model_numbers_279 rfl (lv_at hl 4 rfl) ?_
                          refine lv_iload hx hb d_Model_numbers_280 (lv_at hl 1 rfl) ?_
                          refine lv_iload_n hx hb d_Model_numbers_282 rfl (lv_at hl 2 rfl) ?_
                          obtain ⟨z43_1, hc43, h⟩ := dz_ob h
                          try dsimp only at h
                          have hPc := hP.sub (ws' := []) [] rfl
                          have hKc := hK.sub (tys' := []) [] rfl
                          refine vp_callSi (va_Run.run (va_runS (As := [.int p0, .int y1_0, .int z1_1]) (rest := [.int 0, .int y2_0, .ref o_Model, .int 2, .ref o_Model]) ⟨hx, hb, hml, hown, hg⟩ (c_Model_plain l dC dI N p0 y1_0 z1_1 z43_1 hc43) (va_cwS 3 hg (gd_S k891 k892 k707 k890) rfl rfl rfl (by decide +kernel) ⟨Nat.le_of_ble_eq_true rfl, Nat.le_of_ble_eq_true rfl⟩) ⟨dz_blindR, fun U hU hW => ⟨rfl, dz_Nw hW hN, by rw [hU]; exact hPc, va_K.moved hW.alike hKc⟩⟩ rfl rfl hl.1 rfl (lv_room (Nat.le_of_ble_eq_true rfl)) d_Model_numbers_283 ⟨Nat.le_of_ble_eq_true rfl, Nat.le_of_ble_eq_true rfl⟩)) (fun r43 hw => ?_)
                          have hw : z43_1 = r43 := hw.symm
                          subst hw
                          obtain ⟨⟨z44_1, z44_2, z44_3⟩, hc44, h⟩ := dz_ob h
                          try dsimp only at h
                          have hPc := hP
                          have hKc := hK
                          have hDc := hD
                          have hFc := dz_freeall hD hS hA
                          refine va_calli (va_runV (As := [.int y2_0, .int 0, .int z43_1]) (rest := [.int 2, .ref o_Model]) ⟨hx, hb, hml, hown, hg⟩ (c_Model_give l dC dI N cB cI o_Model r I F y2_0 (0 : Int32) z43_1 H.size (z44_1, z44_2, z44_3) hc44) (cwV 3 hg (gd_V k734 k735 k736 k707 k733) rfl rfl rfl (by decide +kernel) ⟨Nat.le_of_ble_eq_true rfl, Nat.le_of_ble_eq_true rfl⟩) ⟨dz_blind, va_recv hKc hPc (ci := 10) (q0 := 0) rfl rfl, fun U hU hW => ⟨rfl, dz_Nw hW hN, by rw [hU], by rw [hU]; exact hPc, va_K.moved hW.alike hKc, hDc.weaken (fun _ _ _ _ => trivial)⟩⟩ rfl rfl hl.1 rfl (lv_room (Nat.le_of_ble_eq_true rfl)) d_Model_numbers_286 ⟨Nat.le_of_ble_eq_true rfl, Nat.le_of_ble_eq_true rfl⟩) hS (fun q _ h => hFc q h) hFc (fun r44 u44 t44 H1 locs ht hvm hw hB hz1 hk1 hS => ?_)
                          obtain ⟨hP1, hK1, hD1⟩ := hB
                          rw [ht] at hP1
                          have hP := hP1
                          have hD := hD1.weaken (fun _ q _ h => hFc q.1 h)
                          have hw : z44_1 = r44 := hw.symm
                          subst hw
                          generalize H1 = H at hP hS ⊢
                          have hP : va_P (dC, dI) classes (wD cB cI o_Model r z44_3 z44_2) H := hP
                          have hD : va_D A (wD cB cI o_Model r z44_3 z44_2) := hD
                          obtain ⟨⟨z45_1, z45_2⟩, hc45, h⟩ := dz_ob h
                          try dsimp only at h
                          have hPc := hP
                          have hKc := hK
                          have hDc := hD
                          have hFc := dz_freeall hD hS hA
                          refine va_calli (va_runV (As := [.int 2, .int z44_1]) (rest := []) ⟨hx, hb, hml, hown, hg⟩ (c_Model_next l dC dI N cB cI o_Model r z44_3 z44_2 (2 : Int32) z44_1 H.size (z45_1, z45_2) hc45) (cwV 2 hg (gd_V k871 k872 k873 k707 k870) rfl rfl rfl (by decide +kernel) ⟨Nat.le_of_ble_eq_true rfl, Nat.le_of_ble_eq_true rfl⟩) ⟨dz_blind, va_recv hKc hPc (ci := 10) (q0 := 0) rfl rfl, fun U hU hW => ⟨rfl, dz_Nw hW hN, by rw [hU], by rw [hU]; exact hPc, va_K.moved hW.alike hKc, hDc.weaken (fun _ _ _ _ => trivial)⟩⟩ rfl rfl hl.1 rfl (lv_room (Nat.le_of_ble_eq_true rfl)) d_Model_numbers_289 ⟨Nat.le_of_ble_eq_true rfl, Nat.le_of_ble_eq_true rfl⟩) hS (fun q _ h => hFc q h) hFc (fun r45 u45 t45 H1 locs ht hvm hw hB hz1 hk1 hS => ?_)
                          obtain ⟨hP1, hK1, hD1⟩ := hB
                          rw [ht] at hP1
                          have hP := hP1
                          have hD := hD1.weaken (fun _ q _ h => hFc q.1 h)
                          have hw : z45_1 = r45 := hw.symm
                          subst hw
                          generalize H1 = H at hP hS ⊢
                          have hP : va_P (dC, dI) classes (wD cB cI o_Model r z45_2 z44_2) H := hP
                          have hD : va_D A (wD cB cI o_Model r z45_2 z44_2) := hD
                          obtain rfl := Option.some.inj h
                          have hP9 := hP
                          have hD9 := hD
                          have hK9 := hK
                          exact W.iret (v := z45_1) hx hb hr (fun t ht hW => ⟨⟨z45_1, (), rfl, rfl, by rw [ht]; exact hP9, va_K.moved hW.alike hK9, hD9⟩, hS.F ht⟩) hS.2.2 d_Model_numbers_292
                        · rw [if_neg c42] at h
                          refine lv_aload_n hx hb d_Model_numbers_265 rfl (lv_at hl 3 rfl) ?_
                          refine lv_iconst (v := 1) hx hb d_Model_numbers_266 (by decide) ?_
                          refine lv_bipush (v := 6) hx hb d_Model_numbers_267 (by decide) ?_
                          obtain ⟨⟨z46_1, z46_2, z46_3⟩, hc46, h⟩ := dz_ob h
                          try dsimp only at h
                          have hPc := hP
                          have hKc := hK
                          have hDc := hD
                          have hFc := dz_freeall hD hS hA
                          refine va_calli (va_runV (As := [.int 1, .int 6]) (rest := []) ⟨hx, hb, hml, hown, hg⟩ (c_Model_raiseGlobal l dC dI N cB cI o_Model r I F (1 : Int32) (6 : Int32) H.size (z46_1, z46_2, z46_3) hc46) (cwV 2 hg (gd_V k875 k876 k877 k707 k874) rfl rfl rfl (by decide +kernel) ⟨Nat.le_of_ble_eq_true rfl, Nat.le_of_ble_eq_true rfl⟩) ⟨dz_blind, va_recv hKc hPc (ci := 10) (q0 := 0) rfl rfl, fun U hU hW => ⟨rfl, dz_Nw hW hN, by rw [hU], by rw [hU]; exact hPc, va_K.moved hW.alike hKc, hDc.weaken (fun _ _ _ _ => trivial)⟩⟩ rfl rfl hl.1 rfl (lv_room (Nat.le_of_ble_eq_true rfl)) d_Model_numbers_269 ⟨Nat.le_of_ble_eq_true rfl, Nat.le_of_ble_eq_true rfl⟩) hS (fun q _ h => hFc q h) hFc (fun r46 u46 t46 H1 locs ht hvm hw hB hz1 hk1 hS => ?_)
                          obtain ⟨hP1, hK1, hD1⟩ := hB
                          rw [ht] at hP1
                          have hP := hP1
                          have hD := hD1.weaken (fun _ q _ h => hFc q.1 h)
                          have hw : z46_1 = r46 := hw.symm
                          subst hw
                          generalize H1 = H at hP hS ⊢
                          have hP : va_P (dC, dI) classes (wD cB cI o_Model r z46_3 z46_2) H := hP
                          have hD : va_D A (wD cB cI o_Model r z46_3 z46_2) := hD
                          obtain rfl := Option.some.inj h
                          have hP9 := hP
                          have hD9 := hD
                          have hK9 := hK
                          exact W.iret (v := z46_1) hx hb hr (fun t ht hW => ⟨⟨z46_1, (), rfl, rfl, by rw [ht]; exact hP9, va_K.moved hW.alike hK9, hD9⟩, hS.F ht⟩) hS.2.2 d_Model_numbers_272
                  · rw [if_pos c35] at h
                    refine lv_aload_n hx hb d_Model_numbers_234 rfl (lv_at hl 3 rfl) ?_
                    refine lv_iconst (v := 2) hx hb d_Model_numbers_235 (by decide) ?_
                    refine lv_aload_n hx hb d_Model_numbers_236 rfl (lv_at hl 3 rfl) ?_
                    refine lv_iload hx hb d_Model_numbers_237 (lv_at hl 1 rfl) ?_
                    obtain ⟨⟨z47_1, z47_2, z47_3⟩, hc47, h⟩ := dz_ob h
                    try dsimp only at h
                    have hPc := hP
                    have hKc := hK
                    have hDc := hD
                    have hFc := dz_freeall hD hS hA
                    refine va_calli (va_runV (As := [.int y1_0]) (rest := [.int 2, .ref o_Model]) ⟨hx, hb, hml, hown, hg⟩ (c_Model_decimal l dC dI N cB cI o_Model r I F y1_0 H.size (z47_1, z47_2, z47_3) hc47) (cwV 1 hg (gd_V k894 k895 k896 k707 k893) rfl rfl rfl (by decide +kernel) ⟨Nat.le_of_ble_eq_true rfl, Nat.le_of_ble_eq_true rfl⟩) ⟨dz_blind, va_recv hKc hPc (ci := 10) (q0 := 0) rfl rfl, fun U hU hW => ⟨rfl, dz_Nw hW hN, by rw [hU], by rw [hU]; exact hPc, va_K.moved hW.alike hKc, hDc.weaken (fun _ _ _ _ => trivial)⟩⟩ rfl rfl hl.1 rfl (lv_room (Nat.le_of_ble_eq_true rfl)) d_Model_numbers_239 ⟨Nat.le_of_ble_eq_true rfl, Nat.le_of_ble_eq_true rfl⟩) hS (fun q _ h => hFc q h) hFc (fun r47 u47 t47 H1 locs ht hvm hw hB hz1 hk1 hS => ?_)
                    obtain ⟨hP1, hK1, hD1⟩ := hB
                    rw [ht] at hP1
                    have hP := hP1
                    have hD := hD1.weaken (fun _ q _ h => hFc q.1 h)
                    have hw : z47_1 = r47 := hw.symm
                    subst hw
                    generalize H1 = H at hP hS ⊢
                    have hP : va_P (dC, dI) classes (wD cB cI o_Model r z47_3 z47_2) H := hP
                    have hD : va_D A (wD cB cI o_Model r z47_3 z47_2) := hD
                    obtain ⟨⟨z48_1, z48_2⟩, hc48, h⟩ := dz_ob h
                    try dsimp only at h
                    have hPc := hP
                    have hKc := hK
                    have hDc := hD
                    have hFc := dz_freeall hD hS hA
                    refine va_calli (va_runV (As := [.int 2, .int z47_1]) (rest := []) ⟨hx, hb, hml, hown, hg⟩ (c_Model_next l dC dI N cB cI o_Model r z47_3 z47_2 (2 : Int32) z47_1 H.size (z48_1, z48_2) hc48) (cwV 2 hg (gd_V k871 k872 k873 k707 k870) rfl rfl rfl (by decide +kernel) ⟨Nat.le_of_ble_eq_true rfl, Nat.le_of_ble_eq_true rfl⟩) ⟨dz_blind, va_recv hKc hPc (ci := 10) (q0 := 0) rfl rfl, fun U hU hW => ⟨rfl, dz_Nw hW hN, by rw [hU], by rw [hU]; exact hPc, va_K.moved hW.alike hKc, hDc.weaken (fun _ _ _ _ => trivial)⟩⟩ rfl rfl hl.1 rfl (lv_room (Nat.le_of_ble_eq_true rfl)) d_Model_numbers_242 ⟨Nat.le_of_ble_eq_true rfl, Nat.le_of_ble_eq_true rfl⟩) hS (fun q _ h => hFc q h) hFc (fun r48 u48 t48 H1 locs ht hvm hw hB hz1 hk1 hS => ?_)
                    obtain ⟨hP1, hK1, hD1⟩ := hB
                    rw [ht] at hP1
                    have hP := hP1
                    have hD := hD1.weaken (fun _ q _ h => hFc q.1 h)
                    have hw : z48_1 = r48 := hw.symm
                    subst hw
                    generalize H1 = H at hP hS ⊢
                    have hP : va_P (dC, dI) classes (wD cB cI o_Model r z48_2 z47_2) H := hP
                    have hD : va_D A (wD cB cI o_Model r z48_2 z47_2) := hD
                    obtain rfl := Option.some.inj h
                    have hP9 := hP
                    have hD9 := hD
                    have hK9 := hK
                    exact W.iret (v := z48_1) hx hb hr (fun t ht hW => ⟨⟨z48_1, (), rfl, rfl, by rw [ht]; exact hP9, va_K.moved hW.alike hK9, hD9⟩, hS.F ht⟩) hS.2.2 d_Model_numbers_245
                · rw [if_pos c34] at h
                  refine lv_iload hx hb d_Model_numbers_199 (lv_at hl 1 rfl) ?_
                  refine lv_if_lt (tgt := 212) hx hb d_Model_numbers_201 (by decide) (fun c49 => ?_) (fun c49 => ?_)
                  · rw [if_pos c49] at h
                    refine lv_iconst (v := 4) hx hb d_Model_numbers_212 (by decide) ?_
                    refine lv_goto (tgt := 227) hx hb d_Model_numbers_213 (by decide) ?_
                    obtain rfl := Option.some.inj h
                    have hP9 := hP
                    have hD9 := hD
                    have hK9 := hK
                    exact W.iret (v := 4) hx hb hr (fun t ht hW => ⟨⟨4, (), rfl, rfl, by rw [ht]; exact hP9, va_K.moved hW.alike hK9, hD9⟩, hS.F ht⟩) hS.2.2 d_Model_numbers_227
                  · rw [if_neg c49] at h
                    refine lv_iload hx hb d_Model_numbers_204 (lv_at hl 1 rfl) ?_
                    refine lv_sipush (v := 255) hx hb d_Model_numbers_206 (by decide) ?_
                    refine lv_icmp_le (tgt := 216) hx hb d_Model_numbers_209 (by decide) (fun c50 => ?_) (fun c50 => ?_)
                    · rw [if_pos c50] at h
                      refine lv_aload_n hx hb d_Model_numbers_216 rfl (lv_at hl 3 rfl) ?_
                      refine lv_iconst (v := 2) hx hb d_Model_numbers_217 (by decide) ?_
                      refine lv_aload_n hx hb d_Model_numbers_218 rfl (lv_at hl 3 rfl) ?_
                      refine lv_iload hx hb d_Model_numbers_219 (lv_at hl 1 rfl) ?_
                      obtain ⟨⟨z51_1, z51_2, z51_3⟩, hc51, h⟩ := dz_ob h
                      try dsimp only at h
                      have hPc := hP
                      have hKc := hK
                      have hDc := hD
                      have hFc := dz_freeall hD hS hA
                      refine va_calli (va_runV (As := [.int y1_0]) (rest := [.int 2, .ref o_Model]) ⟨hx, hb, hml, hown, hg⟩ (c_Model_oneByte l dC dI N cB cI o_Model r I F y1_0 H.size (z51_1, z51_2, z51_3) hc51) (cwV 1 hg (gd_V k898 k899 k900 k707 k897) rfl rfl rfl (by decide +kernel) ⟨Nat.le_of_ble_eq_true rfl, Nat.le_of_ble_eq_true rfl⟩) ⟨dz_blind, va_recv hKc hPc (ci := 10) (q0 := 0) rfl rfl, fun U hU hW => ⟨rfl, dz_Nw hW hN, by rw [hU], by rw [hU]; exact hPc, va_K.moved hW.alike hKc, hDc.weaken (fun _ _ _ _ => trivial)⟩⟩ rfl rfl hl.1 rfl (lv_room (Nat.le_of_ble_eq_true rfl)) d_Model_numbers_221 ⟨Nat.le_of_ble_eq_true rfl, Nat.le_of_ble_eq_true rfl⟩) hS (fun q _ h => hFc q h) hFc (fun r51 u51 t51 H1 locs ht hvm hw hB hz1 hk1 hS => ?_)
                      obtain ⟨hP1, hK1, hD1⟩ := hB
                      rw [ht] at hP1
                      have hP := hP1
                      have hD := hD1.weaken (fun _ q _ h => hFc q.1 h)
                      have hw : z51_1 = r51 := hw.symm
                      subst hw
                      generalize H1 = H at hP hS ⊢
                      have hP : va_P (dC, dI) classes (wD cB cI o_Model r z51_3 z51_2) H := hP
                      have hD : va_D A (wD cB cI o_Model r z51_3 z51_2) := hD
                      obtain ⟨⟨z52_1, z52_2⟩, hc52, h⟩ := dz_ob h
                      try dsimp only at h
                      have hPc := hP
                      have hKc := hK
                      have hDc := hD
                      have hFc := dz_freeall hD hS hA
                      refine va_calli (va_runV (As := [.int 2, .int z51_1]) (rest := []) ⟨hx, hb, hml, hown, hg⟩ (c_Model_next l dC dI N cB cI o_Model r z51_3 z51_2 (2 : Int32) z51_1 H.size (z52_1, z52_2) hc52) (cwV 2 hg (gd_V k871 k872 k873 k707 k870) rfl rfl rfl (by decide +kernel) ⟨Nat.le_of_ble_eq_true rfl, Nat.le_of_ble_eq_true rfl⟩) ⟨dz_blind, va_recv hKc hPc (ci := 10) (q0 := 0) rfl rfl, fun U hU hW => ⟨rfl, dz_Nw hW hN, by rw [hU], by rw [hU]; exact hPc, va_K.moved hW.alike hKc, hDc.weaken (fun _ _ _ _ => trivial)⟩⟩ rfl rfl hl.1 rfl (lv_room (Nat.le_of_ble_eq_true rfl)) d_Model_numbers_224 ⟨Nat.le_of_ble_eq_true rfl, Nat.le_of_ble_eq_true rfl⟩) hS (fun q _ h => hFc q h) hFc (fun r52 u52 t52 H1 locs ht hvm hw hB hz1 hk1 hS => ?_)
                      obtain ⟨hP1, hK1, hD1⟩ := hB
                      rw [ht] at hP1
                      have hP := hP1
                      have hD := hD1.weaken (fun _ q _ h => hFc q.1 h)
                      have hw : z52_1 = r52 := hw.symm
                      subst hw
                      generalize H1 = H at hP hS ⊢
                      have hP : va_P (dC, dI) classes (wD cB cI o_Model r z52_2 z51_2) H := hP
                      have hD : va_D A (wD cB cI o_Model r z52_2 z51_2) := hD
                      obtain rfl := Option.some.inj h
                      have hP9 := hP
                      have hD9 := hD
                      have hK9 := hK
                      exact W.iret (v := z52_1) hx hb hr (fun t ht hW => ⟨⟨z52_1, (), rfl, rfl, by rw [ht]; exact hP9, va_K.moved hW.alike hK9, hD9⟩, hS.F ht⟩) hS.2.2 d_Model_numbers_227
                    · rw [if_neg c50] at h
                      refine lv_iconst (v := 4) hx hb d_Model_numbers_212 (by decide) ?_
                      refine lv_goto (tgt := 227) hx hb d_Model_numbers_213 (by decide) ?_
                      obtain rfl := Option.some.inj h
                      have hP9 := hP
                      have hD9 := hD
                      have hK9 := hK
                      exact W.iret (v := 4) hx hb hr (fun t ht hW => ⟨⟨4, (), rfl, rfl, by rw [ht]; exact hP9, va_K.moved hW.alike hK9, hD9⟩, hS.F ht⟩) hS.2.2 d_Model_numbers_227
              · rw [if_neg c33] at h
                refine lv_aload_n hx hb d_Model_numbers_186 rfl (lv_at hl 3 rfl) ?_
                refine lv_iconst (v := 1) hx hb d_Model_numbers_187 (by decide) ?_
                refine lv_iconst (v := 2) hx hb d_Model_numbers_188 (by decide) ?_
                obtain ⟨⟨z53_1, z53_2, z53_3⟩, hc53, h⟩ := dz_ob h
                try dsimp only at h
                have hPc := hP
                have hKc := hK
                have hDc := hD
                have hFc := dz_freeall hD hS hA
                refine va_calli (va_runV (As := [.int 1, .int 2]) (rest := []) ⟨hx, hb, hml, hown, hg⟩ (c_Model_raiseGlobal l dC dI N cB cI o_Model r I F (1 : Int32) (2 : Int32) H.size (z53_1, z53_2, z53_3) hc53) (cwV 2 hg (gd_V k875 k876 k877 k707 k874) rfl rfl rfl (by decide +kernel) ⟨Nat.le_of_ble_eq_true rfl, Nat.le_of_ble_eq_true rfl⟩) ⟨dz_blind, va_recv hKc hPc (ci := 10) (q0 := 0) rfl rfl, fun U hU hW => ⟨rfl, dz_Nw hW hN, by rw [hU], by rw [hU]; exact hPc, va_K.moved hW.alike hKc, hDc.weaken (fun _ _ _ _ => trivial)⟩⟩ rfl rfl hl.1 rfl (lv_room (Nat.le_of_ble_eq_true rfl)) d_Model_numbers_189 ⟨Nat.le_of_ble_eq_true rfl, Nat.le_of_ble_eq_true rfl⟩) hS (fun q _ h => hFc q h) hFc (fun r53 u53 t53 H1 locs ht hvm hw hB hz1 hk1 hS => ?_)
                obtain ⟨hP1, hK1, hD1⟩ := hB
                rw [ht] at hP1
                have hP := hP1
                have hD := hD1.weaken (fun _ q _ h => hFc q.1 h)
                have hw : z53_1 = r53 := hw.symm
                subst hw
                generalize H1 = H at hP hS ⊢
                have hP : va_P (dC, dI) classes (wD cB cI o_Model r z53_3 z53_2) H := hP
                have hD : va_D A (wD cB cI o_Model r z53_3 z53_2) := hD
                obtain rfl := Option.some.inj h
                have hP9 := hP
                have hD9 := hD
                have hK9 := hK
                exact W.iret (v := z53_1) hx hb hr (fun t ht hW => ⟨⟨z53_1, (), rfl, rfl, by rw [ht]; exact hP9, va_K.moved hW.alike hK9, hD9⟩, hS.F ht⟩) hS.2.2 d_Model_numbers_192
          · rw [if_pos c12] at h
            refine lv_aload_n hx hb d_Model_numbers_166 rfl (lv_at hl 3 rfl) ?_
            refine lv_iload_n hx hb d_Model_numbers_167 rfl (lv_at hl 4 rfl) ?_
            refine lv_iload hx hb d_Model_numbers_168 (lv_at hl 1 rfl) ?_
            refine lv_iload_n hx hb d_Model_numbers_170 rfl (lv_at hl 2 rfl) ?_
            obtain ⟨⟨z54_1, z54_2, z54_3⟩, hc54, h⟩ := dz_ob h
            try dsimp only at h
            have hPc := hP
            have hKc := hK
            have hDc := hD
            have hFc := dz_freeall hD hS hA
            refine va_calli (va_runV (As := [.int p0, .int y1_0, .int z1_1]) (rest := []) ⟨hx, hb, hml, hown, hg⟩ (c_Model_divide l dC dI N cB cI o_Model r I F p0 y1_0 z1_1 H.size (z54_1, z54_2, z54_3) hc54) (cwV 3 hg (gd_V k887 k888 k889 k707 k886) rfl rfl rfl (by decide +kernel) ⟨Nat.le_of_ble_eq_true rfl, Nat.le_of_ble_eq_true rfl⟩) ⟨dz_blind, va_recv hKc hPc (ci := 10) (q0 := 0) rfl rfl, fun U hU hW => ⟨rfl, dz_Nw hW hN, by rw [hU], by rw [hU]; exact hPc, va_K.moved hW.alike hKc, hDc.weaken (fun _ _ _ _ => trivial)⟩⟩ rfl rfl hl.1 rfl (lv_room (Nat.le_of_ble_eq_true rfl)) d_Model_numbers_171 ⟨Nat.le_of_ble_eq_true rfl, Nat.le_of_ble_eq_true rfl⟩) hS (fun q _ h => hFc q h) hFc (fun r54 u54 t54 H1 locs ht hvm hw hB hz1 hk1 hS => ?_)
            obtain ⟨hP1, hK1, hD1⟩ := hB
            rw [ht] at hP1
            have hP := hP1
            have hD := hD1.weaken (fun _ q _ h => hFc q.1 h)
            have hw : z54_1 = r54 := hw.symm
            subst hw
            generalize H1 = H at hP hS ⊢
            have hP : va_P (dC, dI) classes (wD cB cI o_Model r z54_3 z54_2) H := hP
            have hD : va_D A (wD cB cI o_Model r z54_3 z54_2) := hD
            obtain rfl := Option.some.inj h
            have hP9 := hP
            have hD9 := hD
            have hK9 := hK
            exact W.iret (v := z54_1) hx hb hr (fun t ht hW => ⟨⟨z54_1, (), rfl, rfl, by rw [ht]; exact hP9, va_K.moved hW.alike hK9, hD9⟩, hS.F ht⟩) hS.2.2 d_Model_numbers_174
  · rw [if_neg c5] at h
    refine l_Model_numbers_3 dC dI N cB cI o_Model r I F p0 p1 z1_1 y1_0 y2_0 hx hb hml hown hg hN hK hA (fun y3_0 H locs ls h hP hD hS hl => ?_)  _ _ _ h hP hD hS (lv_sub hl [0, 1, 2, 3, 4, 5] rfl)
    refine lv_lstore (lv' := [(6, .long y3_0), (5, .int y2_0), (4, .int y1_0), (3, .int z1_1), (0, .ref o_Model), (1, .int p0), (2, .int p1)]) hx hb d_Model_numbers_105 hl (by decide) rfl (fun ls hl => ?_)
    refine lv_lload hx hb d_Model_numbers_107 (lv_at hl 0 rfl) ?_
    refine lv_lload hx hb d_Model_numbers_109 (lv_at hl 0 rfl) ?_
    refine lv_l2i (v := y3_0.toInt32) hx hb d_Model_numbers_111 rfl ?_
    refine lv_i2l (v := y3_0.toInt32.toInt64) hx hb d_Model_numbers_112 rfl ?_
    refine W.lcmp hx hb d_Model_numbers_113 ?_
    refine lv_if_eq (tgt := 127) hx hb d_Model_numbers_114 (by decide) (fun c60 => ?_) (fun c60 => ?_)
    · rw [if_pos c60] at h
      refine lv_aload_n hx hb d_Model_numbers_127 rfl (lv_at hl 4 rfl) ?_
      refine lv_iconst (v := 2) hx hb d_Model_numbers_128 (by decide) ?_
      refine lv_aload_n hx hb d_Model_numbers_129 rfl (lv_at hl 4 rfl) ?_
      refine lv_iload hx hb d_Model_numbers_130 (lv_at hl 1 rfl) ?_
      refine lv_iconst (v := 0) hx hb d_Model_numbers_132 (by decide) ?_
      refine lv_lload hx hb d_Model_numbers_133 (lv_at hl 0 rfl) ?_
      refine lv_l2i (v := y3_0.toInt32) hx hb d_Model_numbers_135 rfl ?_
      obtain ⟨⟨z61_1, z61_2, z61_3⟩, hc61, h⟩ := dz_ob h
      try dsimp only at h
      have hPc := hP
      have hKc := hK
      have hDc := hD
      have hFc := dz_freeall hD hS hA
      refine va_calli (va_runV (As := [.int y2_0, .int 0, .int y3_0.toInt32]) (rest := [.int 2, .ref o_Model]) ⟨hx, hb, hml, hown, hg⟩ (c_Model_give l dC dI N cB cI o_Model r I F y2_0 (0 : Int32) y3_0.toInt32 H.size (z61_1, z61_2, z61_3) hc61) (cwV 3 hg (gd_V k734 k735 k736 k707 k733) rfl rfl rfl (by decide +kernel) ⟨Nat.le_of_ble_eq_true rfl, Nat.le_of_ble_eq_true rfl⟩) ⟨dz_blind, va_recv hKc hPc (ci := 10) (q0 := 0) rfl rfl, fun U hU hW => ⟨rfl, dz_Nw hW hN, by rw [hU], by rw [hU]; exact hPc, va_K.moved hW.alike hKc, hDc.weaken (fun _ _ _ _ => trivial)⟩⟩ rfl rfl hl.1 rfl (lv_room (Nat.le_of_ble_eq_true rfl)) d_Model_numbers_136 ⟨Nat.le_of_ble_eq_true rfl, Nat.le_of_ble_eq_true rfl⟩) hS (fun q _ h => hFc q h) hFc (fun r61 u61 t61 H1 locs ht hvm hw hB hz1 hk1 hS => ?_)
      obtain ⟨hP1, hK1, hD1⟩ := hB
      rw [ht] at hP1
      have hP := hP1
      have hD := hD1.weaken (fun _ q _ h => hFc q.1 h)
      have hw : z61_1 = r61 := hw.symm
      subst hw
      generalize H1 = H at hP hS ⊢
      have hP : va_P (dC, dI) classes (wD cB cI o_Model r z61_3 z61_2) H := hP
      have hD : va_D A (wD cB cI o_Model r z61_3 z61_2) := hD
      obtain ⟨⟨z62_1, z62_2⟩, hc62, h⟩ := dz_ob h
      try dsimp only at h
      have hPc := hP
      have hKc := hK
      have hDc := hD
      have hFc := dz_freeall hD hS hA
      refine va_calli (va_runV (As := [.int 2, .int z61_1]) (rest := []) ⟨hx, hb, hml, hown, hg⟩ (c_Model_next l dC dI N cB cI o_Model r z61_3 z61_2 (2 : Int32) z61_1 H.size (z62_1, z62_2) hc62) (cwV 2 hg (gd_V k871 k872 k873 k707 k870) rfl rfl rfl (by decide +kernel) ⟨Nat.le_of_ble_eq_true rfl, Nat.le_of_ble_eq_true rfl⟩) ⟨dz_blind, va_recv hKc hPc (ci := 10) (q0 := 0) rfl rfl, fun U hU hW => ⟨rfl, dz_Nw hW hN, by rw [hU], by rw [hU]; exact hPc, va_K.moved hW.alike hKc, hDc.weaken (fun _ _ _ _ => trivial)⟩⟩ rfl rfl hl.1 rfl (lv_room (Nat.le_of_ble_eq_true rfl)) d_Model_numbers_139 ⟨Nat.le_of_ble_eq_true rfl, Nat.le_of_ble_eq_true rfl⟩) hS (fun q _ h => hFc q h) hFc (fun r62 u62 t62 H1 locs ht hvm hw hB hz1 hk1 hS => ?_)
      obtain ⟨hP1, hK1, hD1⟩ := hB
      rw [ht] at hP1
      have hP := hP1
      have hD := hD1.weaken (fun _ q _ h => hFc q.1 h)
      have hw : z62_1 = r62 := hw.symm
      subst hw
      generalize H1 = H at hP hS ⊢
      have hP : va_P (dC, dI) classes (wD cB cI o_Model r z62_2 z61_2) H := hP
      have hD : va_D A (wD cB cI o_Model r z62_2 z61_2) := hD
      obtain rfl := Option.some.inj h
      have hP9 := hP
      have hD9 := hD
      have hK9 := hK
      exact W.iret (v := z62_1) hx hb hr (fun t ht hW => ⟨⟨z62_1, (), rfl, rfl, by rw [ht]; exact hP9, va_K.moved hW.alike hK9, hD9⟩, hS.F ht⟩) hS.2.2 d_Model_numbers_142
    · rw [if_neg c60] at h
      refine lv_aload_n hx hb d_Model_numbers_117 rfl (lv_at hl 4 rfl) ?_
      refine lv_iload hx hb d_Model_numbers_118 (lv_at hl 1 rfl) ?_
      refine lv_iconst (v := 2) hx hb d_Model_numbers_120 (by decide) ?_
      obtain ⟨⟨z63_1, z63_2, z63_3⟩, hc63, h⟩ := dz_ob h
      try dsimp only at h
      have hPc := hP
      have hKc := hK
      have hDc := hD
      have hFc := dz_freeall hD hS hA
      refine va_calli (va_runV (As := [.int y2_0, .int 2]) (rest := []) ⟨hx, hb, hml, hown, hg⟩ (c_Model_raiseGlobal l dC dI N cB cI o_Model r I F y2_0 (2 : Int32) H.size (z63_1, z63_2, z63_3) hc63) (cwV 2 hg (gd_V k875 k876 k877 k707 k874) rfl rfl rfl (by decide +kernel) ⟨Nat.le_of_ble_eq_true rfl, Nat.le_of_ble_eq_true rfl⟩) ⟨dz_blind, va_recv hKc hPc (ci := 10) (q0 := 0) rfl rfl, fun U hU hW => ⟨rfl, dz_Nw hW hN, by rw [hU], by rw [hU]; exact hPc, va_K.moved hW.alike hKc, hDc.weaken (fun _ _ _ _ => trivial)⟩⟩ rfl rfl hl.1 rfl (lv_room (Nat.le_of_ble_eq_true rfl)) d_Model_numbers_121 ⟨Nat.le_of_ble_eq_true rfl, Nat.le_of_ble_eq_true rfl⟩) hS (fun q _ h => hFc q h) hFc (fun r63 u63 t63 H1 locs ht hvm hw hB hz1 hk1 hS => ?_)
      obtain ⟨hP1, hK1, hD1⟩ := hB
      rw [ht] at hP1
      have hP := hP1
      have hD := hD1.weaken (fun _ q _ h => hFc q.1 h)
      have hw : z63_1 = r63 := hw.symm
      subst hw
      generalize H1 = H at hP hS ⊢
      have hP : va_P (dC, dI) classes (wD cB cI o_Model r z63_3 z63_2) H := hP
      have hD : va_D A (wD cB cI o_Model r z63_3 z63_2) := hD
      refine lv_goto (tgt := 142) hx hb d_Model_numbers_124 (by decide) ?_
      obtain rfl := Option.some.inj h
      have hP9 := hP
      have hD9 := hD
      have hK9 := hK
      exact W.iret (v := z63_1) hx hb hr (fun t ht hW => ⟨⟨z63_1, (), rfl, rfl, by rw [ht]; exact hP9, va_K.moved hW.alike hK9, hD9⟩, hS.F ht⟩) hS.2.2 d_Model_numbers_142

set_option maxHeartbeats 4000000 in
set_option maxRecDepth 100000 in
theorem l_Model_join_2 {p : Program} {l : Launch} {e : Env} {s : State} {m : MethodId} {args : Array Value} {below : List Frame} {meth : Method} {c : Code} {Q : State → Prop} {A : Nat → Prop} (dC : Nat → ClassId) (dI : Nat → Nat → Nat) (N : Nat) (cB : ClassId) (cI : ClassId) (o_Model : Nat) (r : Nat → Nat) (F : Nat → Nat → Int32) (z1_1 : Int32) (z3_1 : Int32) (z10_1 : Int32) (z10_3 : Nat → Int32) (v1_4 : Int32) (w1_F : Nat → Nat → Int32) {ζ : Type} {z : ζ} (hx : p.tables.exec = Jvm.exec) (hb : c.code = b_Model_join) (hml : c.maxLocals = 5) (hown : s.vm.findClass R_Model = some m.cls) (hg : ∀ w ∈ lw_g, w.before args s = true) (hN : dz_N s) (hK : va_K (dC, dI) classes [(cB, .byte), (cI, .int)] s) (hA : ∀ q : Nat, s.heap.size ≤ q → A q) {k2_106 : Int32 → Option (ζ)} (hk2_106 : ∀   (y2_0 : Int32)  (H : Heap) (locs : List Loc) (ls : Array Slot), k2_106 y2_0 = some z → va_P (dC, dI) classes (wD cB cI o_Model r z10_3 w1_F) H → va_D A (wD cB cI o_Model r z10_3 w1_F) → va_S A s.heap H locs → lv_has ls 5 [(4, .int v1_4), (3, .int z10_1), (2, .int (((F 1) z1_1.toNatClampNeg) + ((F 1) z3_1.toNatClampNeg))), (1, .int ((F 1) z1_1.toNatClampNeg)), (0, .ref o_Model)] → W p l e ({ frames := 8, cells := 0, slots := 0, locals := 171 } : Room) s m args below meth c H locs 0 0 Q (F0 m 106 ls [.int y2_0, .int v1_4, .int z10_1, .ref o_Model])) : ∀    (H : Heap) (locs : List Loc) (ls : Array Slot), lm_Model_join_2 N F z1_1 z10_3 v1_4 w1_F k2_106  = some z → va_P (dC, dI) classes (wD cB cI o_Model r z10_3 w1_F) H → va_D A (wD cB cI o_Model r z10_3 w1_F) → va_S A s.heap H locs → lv_has ls 5 [(4, .int v1_4), (3, .int z10_1), (2, .int (((F 1) z1_1.toNatClampNeg) + ((F 1) z3_1.toNatClampNeg))), (1, .int ((F 1) z1_1.toNatClampNeg)), (0, .ref o_Model)] → W p l e ({ frames := 8, cells := 0, slots := 0, locals := 171 } : Room) s m args below meth c H locs 0 0 Q (F0 m 73 ls [.int v1_4, .int z10_1, .ref o_Model]) := by
  intro H locs ls h hP hD hS hl
  unfold lm_Model_join_2 at h
  refine lv_iload hx hb d_Model_join_73 (lv_at hl 0 rfl) ?_
  refine lv_iload_n hx hb d_Model_join_75 rfl (lv_at hl 3 rfl) ?_
  refine lv_icmp_ge (tgt := 93) hx hb d_Model_join_76 (by decide) (fun c12 => ?_) (fun c12 => ?_)
  · rw [if_pos c12] at h
    refine lv_aload_n hx hb d_Model_join_93 rfl (lv_at hl 4 rfl) ?_
    refine lv_aload_n hx hb d_Model_join_94 rfl (lv_at hl 4 rfl) ?_
    refine lv_iconst (v := 1) hx hb d_Model_join_95 (by decide) ?_
    obtain ⟨z13_1, hc13, h⟩ := dz_ob h
    try dsimp only at h
    have hPc := hP
    have hKc := hK
    refine vp_callSi (va_Run.run (va_runV (As := [.int 1]) (rest := [.ref o_Model, .int v1_4, .int z10_1, .ref o_Model]) ⟨hx, hb, hml, hown, hg⟩ (c_Model_scalar l dC dI N cB cI o_Model r z10_3 w1_F (1 : Int32) z13_1 hc13) (cwV 1 hg (gd_V k804 k805 k806 k707 k803) rfl rfl rfl (by decide +kernel) ⟨Nat.le_of_ble_eq_true rfl, Nat.le_of_ble_eq_true rfl⟩) ⟨dz_blindR, va_recv hKc hPc (ci := 10) (q0 := 0) rfl rfl, fun U hU hW => ⟨rfl, dz_Nw hW hN, by rw [hU]; exact hPc, va_K.moved hW.alike hKc⟩⟩ rfl rfl hl.1 rfl (lv_room (Nat.le_of_ble_eq_true rfl)) d_Model_join_96 ⟨Nat.le_of_ble_eq_true rfl, Nat.le_of_ble_eq_true rfl⟩)) (fun r13 hw => ?_)
    have hw : z13_1 = r13 := hw.symm
    subst hw
    refine lv_iload hx hb d_Model_join_99 (lv_at hl 0 rfl) ?_
    refine lv_iload_n hx hb d_Model_join_101 rfl (lv_at hl 3 rfl) ?_
    refine lv_isub hx hb d_Model_join_102 ?_
    obtain ⟨z14_1, hc14, h⟩ := dz_ob h
    try dsimp only at h
    have hPc := hP
    have hKc := hK
    refine vp_callSi (va_Run.run (va_runV (As := [.int z13_1, .int (v1_4 - ((F 1) z1_1.toNatClampNeg))]) (rest := [.int v1_4, .int z10_1, .ref o_Model]) ⟨hx, hb, hml, hown, hg⟩ (c_Model_byteAt l dC dI N cB cI o_Model r z10_3 w1_F z13_1 (v1_4 - ((F 1) z1_1.toNatClampNeg)) z14_1 hc14) (cwV 2 hg (gd_V k842 k843 k844 k707 k841) rfl rfl rfl (by decide +kernel) ⟨Nat.le_of_ble_eq_true rfl, Nat.le_of_ble_eq_true rfl⟩) ⟨dz_blindR, va_recv hKc hPc (ci := 10) (q0 := 0) rfl rfl, fun U hU hW => ⟨rfl, dz_Nw hW hN, by rw [hU]; exact hPc, va_K.moved hW.alike hKc⟩⟩ rfl rfl hl.1 rfl (lv_room (Nat.le_of_ble_eq_true rfl)) d_Model_join_103 ⟨Nat.le_of_ble_eq_true rfl, Nat.le_of_ble_eq_true rfl⟩)) (fun r14 hw => ?_)
    have hw : z14_1 = r14 := hw.symm
    subst hw
    exact hk2_106 z14_1 _ _ _ h hP hD hS (lv_sub hl [0, 1, 2, 3, 4] rfl)
  · rw [if_neg c12] at h
    refine lv_aload_n hx hb d_Model_join_79 rfl (lv_at hl 4 rfl) ?_
    refine lv_aload_n hx hb d_Model_join_80 rfl (lv_at hl 4 rfl) ?_
    refine lv_iconst (v := 2) hx hb d_Model_join_81 (by decide) ?_
    obtain ⟨z15_1, hc15, h⟩ := dz_ob h
    try dsimp only at h
    have hPc := hP
    have hKc := hK
    refine vp_callSi (va_Run.run (va_runV (As := [.int 2]) (rest := [.ref o_Model, .int v1_4, .int z10_1, .ref o_Model]) ⟨hx, hb, hml, hown, hg⟩ (c_Model_scalar l dC dI N cB cI o_Model r z10_3 w1_F (2 : Int32) z15_1 hc15) (cwV 1 hg (gd_V k804 k805 k806 k707 k803) rfl rfl rfl (by decide +kernel) ⟨Nat.le_of_ble_eq_true rfl, Nat.le_of_ble_eq_true rfl⟩) ⟨dz_blindR, va_recv hKc hPc (ci := 10) (q0 := 0) rfl rfl, fun U hU hW => ⟨rfl, dz_Nw hW hN, by rw [hU]; exact hPc, va_K.moved hW.alike hKc⟩⟩ rfl rfl hl.1 rfl (lv_room (Nat.le_of_ble_eq_true rfl)) d_Model_join_82 ⟨Nat.le_of_ble_eq_true rfl, Nat.le_of_ble_eq_true rfl⟩)) (fun r15 hw => ?_)
    have hw : z15_1 = r15 := hw.symm
    subst hw
    refine lv_iload hx hb d_Model_join_85 (lv_at hl 0 rfl) ?_
    obtain ⟨z16_1, hc16, h⟩ := dz_ob h
    try dsimp only at h
    have hPc := hP
    have hKc := hK
    refine vp_callSi (va_Run.run (va_runV (As := [.int z15_1, .int v1_4]) (rest := [.int v1_4, .int z10_1, .ref o_Model]) ⟨hx, hb, hml, hown, hg⟩ (c_Model_byteAt l dC dI N cB cI o_Model r z10_3 w1_F z15_1 v1_4 z16_1 hc16) (cwV 2 hg (gd_V k842 k843 k844 k707 k841) rfl rfl rfl (by decide +kernel) ⟨Nat.le_of_ble_eq_true rfl, Nat.le_of_ble_eq_true rfl⟩) ⟨dz_blindR, va_recv hKc hPc (ci := 10) (q0 := 0) rfl rfl, fun U hU hW => ⟨rfl, dz_Nw hW hN, by rw [hU]; exact hPc, va_K.moved hW.alike hKc⟩⟩ rfl rfl hl.1 rfl (lv_room (Nat.le_of_ble_eq_true rfl)) d_Model_join_87 ⟨Nat.le_of_ble_eq_true rfl, Nat.le_of_ble_eq_true rfl⟩)) (fun r16 hw => ?_)
    have hw : z16_1 = r16 := hw.symm
    subst hw
    refine lv_goto (tgt := 106) hx hb d_Model_join_90 (by decide) ?_
    exact hk2_106 z16_1 _ _ _ h hP hD hS (lv_sub hl [0, 1, 2, 3, 4] rfl)
set_option maxHeartbeats 4000000 in
set_option maxRecDepth 100000 in
theorem l_Model_join_1 {p : Program} {l : Launch} {e : Env} {s : State} {m : MethodId} {args : Array Value} {below : List Frame} {meth : Method} {c : Code} {Q : State → Prop} {A : Nat → Prop} (dC : Nat → ClassId) (dI : Nat → Nat → Nat) (N : Nat) (cB : ClassId) (cI : ClassId) (o_Model : Nat) (r : Nat → Nat) (F : Nat → Nat → Int32) (z1_1 : Int32) (z3_1 : Int32) (z10_1 : Int32) (z10_3 : Nat → Int32) {ζ : Type} {z : ζ} (hx : p.tables.exec = Jvm.exec) (hb : c.code = b_Model_join) (hml : c.maxLocals = 5) (hown : s.vm.findClass R_Model = some m.cls) (hg : ∀ w ∈ lw_g, w.before args s = true) (hN : dz_N s) (hK : va_K (dC, dI) classes [(cB, .byte), (cI, .int)] s) (hA : ∀ q : Nat, s.heap.size ≤ q → A q) {k1_115 : Int32 → (Nat → Nat → Int32) → Option (ζ)} (hk1_115 : ∀ (v1_4 : Int32) (w1_F : (Nat → Nat → Int32))    (H : Heap) (locs : List Loc) (ls : Array Slot), k1_115 v1_4 w1_F = some z → va_P (dC, dI) classes (wD cB cI o_Model r z10_3 w1_F) H → va_D A (wD cB cI o_Model r z10_3 w1_F) → va_S A s.heap H locs → lv_has ls 5 [(4, .int v1_4), (3, .int z10_1), (2, .int (((F 1) z1_1.toNatClampNeg) + ((F 1) z3_1.toNatClampNeg))), (1, .int ((F 1) z1_1.toNatClampNeg)), (0, .ref o_Model)] → W p l e ({ frames := 8, cells := 0, slots := 0, locals := 171 } : Room) s m args below meth c H locs 0 0 Q (F0 m 115 ls [])) : ∀ (n1 : Nat) (v1_4 : Int32) (w1_F : (Nat → Nat → Int32))   (H : Heap) (locs : List Loc) (ls : Array Slot), lm_Model_join_1 N F z1_1 z3_1 z10_1 z10_3 k1_115 n1 v1_4 w1_F = some z → va_P (dC, dI) classes (wD cB cI o_Model r z10_3 w1_F) H → va_D A (wD cB cI o_Model r z10_3 w1_F) → va_S A s.heap H locs → lv_has ls 5 [(4, .int v1_4), (3, .int z10_1), (2, .int (((F 1) z1_1.toNatClampNeg) + ((F 1) z3_1.toNatClampNeg))), (1, .int ((F 1) z1_1.toNatClampNeg)), (0, .ref o_Model)] → W p l e ({ frames := 8, cells := 0, slots := 0, locals := 171 } : Room) s m args below meth c H locs 0 0 Q (F0 m 63 ls []) := by
  intro n1
  induction n1 with
  | zero =>
    intro v1_4 w1_F H locs ls h hP hD hS hl
    rw [lm_Model_join_1] at h
    cases h
  | succ n1 ih1 =>
    intro v1_4 w1_F H locs ls h hP hD hS hl
    rw [lm_Model_join_1] at h
    refine lv_iload hx hb d_Model_join_63 (lv_at hl 0 rfl) ?_
    refine lv_iload_n hx hb d_Model_join_65 rfl (lv_at hl 2 rfl) ?_
    refine lv_icmp_ge (tgt := 115) hx hb d_Model_join_66 (by decide) (fun c11 => ?_) (fun c11 => ?_)
    · rw [if_pos c11] at h
      exact hk1_115 v1_4 w1_F _ _ _ h hP hD hS (lv_sub hl [0, 1, 2, 3, 4] rfl)
    · rw [if_neg c11] at h
      refine lv_aload_n hx hb d_Model_join_69 rfl (lv_at hl 4 rfl) ?_
      refine lv_iload_n hx hb d_Model_join_70 rfl (lv_at hl 1 rfl) ?_
      refine lv_iload hx hb d_Model_join_71 (lv_at hl 0 rfl) ?_
      refine l_Model_join_2 dC dI N cB cI o_Model r F z1_1 z3_1 z10_1 z10_3 v1_4 w1_F hx hb hml hown hg hN hK hA (fun y2_0 H locs ls h hP hD hS hl => ?_)  _ _ _ h hP hD hS (lv_sub hl [0, 1, 2, 3, 4] rfl)
      obtain ⟨z17_1, hc17, h⟩ := dz_ob h
      try dsimp only at h
      have hPc := hP
      have hKc := hK
      have hDc := hD
      have hFc := dz_freeall hD hS hA
      refine va_callv (va_runV (As := [.int z10_1, .int v1_4, .int y2_0]) (rest := []) ⟨hx, hb, hml, hown, hg⟩ (c_Model_setByte l dC dI N cB cI o_Model r z10_3 w1_F z10_1 v1_4 y2_0 H.size z17_1 hc17) (cwV 3 hg (gd_V k796 k797 k798 k707 k795) rfl rfl rfl (by decide +kernel) ⟨Nat.le_of_ble_eq_true rfl, Nat.le_of_ble_eq_true rfl⟩) ⟨dz_blind, va_recv hKc hPc (ci := 10) (q0 := 0) rfl rfl, fun U hU hW => ⟨rfl, dz_Nw hW hN, by rw [hU], by rw [hU]; exact hPc, va_K.moved hW.alike hKc, hDc.weaken (fun _ _ _ _ => trivial)⟩⟩ rfl rfl hl.1 rfl (lv_room (Nat.le_of_ble_eq_true rfl)) d_Model_join_106 ⟨Nat.le_of_ble_eq_true rfl, Nat.le_of_ble_eq_true rfl⟩) hS (fun q _ h => hFc q h) hFc (fun u17 t17 H1 locs ht hvm hw hB hz1 hk1 hS => ?_)
      obtain ⟨hP1, hK1, hD1⟩ := hB
      rw [ht] at hP1
      have hP := hP1
      have hD := hD1.weaken (fun _ q _ h => hFc q.1 h)
      generalize H1 = H at hP hS ⊢
      have hP : va_P (dC, dI) classes (wD cB cI o_Model r z10_3 z17_1) H := hP
      have hD : va_D A (wD cB cI o_Model r z10_3 z17_1) := hD
      refine lv_iinc (v := v1_4 + 1) (lv' := [(4, .int (v1_4 + 1)), (3, .int z10_1), (2, .int (((F 1) z1_1.toNatClampNeg) + ((F 1) z3_1.toNatClampNeg))), (1, .int ((F 1) z1_1.toNatClampNeg)), (0, .ref o_Model)]) hx hb d_Model_join_109 hl (k := 0) rfl rfl (by decide) rfl (fun ls hl => ?_)
      refine lv_goto (tgt := 63) hx hb d_Model_join_112 (by decide) ?_
      exact ih1 (v1_4 + 1) z17_1 _ _ _ h hP hD hS (lv_sub hl [0, 1, 2, 3, 4] rfl)
set_option maxHeartbeats 4000000 in
set_option maxRecDepth 100000 in
theorem c_Model_join (l : Launch) (dC : Nat → ClassId) (dI : Nat → Nat → Nat) (N : Nat) (cB : ClassId) (cI : ClassId) (o_Model : Nat) (r : Nat → Nat) (I : Nat → Int32) (F : Nat → Nat → Int32) (sz : Nat) (z : Int32 × (Nat → Nat → Int32) × (Nat → Int32)) (h : m_Model_join N I F = some z) : Met l y_Model_join (.code y_Model_join b_Model_join 5 (some .int) :: lw_g) ({ frames := 8, cells := 0, slots := 0, locals := 171 }) (va_Pc [.ref o_Model] (fun U => dz_N U ∧ U.heap.size = sz ∧ va_P (dC, dI) classes (wD cB cI o_Model r I F) U.heap ∧ va_K (dC, dI) classes [(cB, .byte), (cI, .int)] U ∧ va_D (fun _ => True) (wD cB cI o_Model r I F))) (va_Qi (fun (r : Int32) (_ : Unit) => r = z.1) (fun (u : Unit) t => va_P (dC, dI) classes (wD cB cI o_Model r z.2.2 z.2.1) t.heap ∧ va_K (dC, dI) classes [(cB, .byte), (cI, .int)] t ∧ va_D (va_A (wD cB cI o_Model r I F) sz) (wD cB cI o_Model r z.2.2 z.2.1)) (va_A (wD cB cI o_Model r I F) sz)) 0 0 (va_A (wD cB cI o_Model r I F) sz) := by
  refine Met.ofW (cc := b_Model_join) (maxL := 5) (ret := (some .int)) (by decide +kernel) rfl ?_
  intro p e s m args below meth c s₁ B hml hv
  obtain ⟨rfl, hN, hsz, hP, hK, hD0⟩ := hv
  have hx := B.exec
  have hb := B.bytes
  have hr := B.returns
  have hg : ∀ w ∈ lw_g, w.before _ s = true := fun w hw => atoms_spec (ws := .code y_Model_join b_Model_join 5 (some .int) :: lw_g) B.pre w (List.mem_cons_of_mem _ hw)
  have hown : s.vm.findClass R_Model = some m.cls := findClass_of_methodNamed B.named
  have hlocks := B.notSynchronized
  clear B
  subst hsz
  have hD := hD0.self (sz := s.heap.size)
  generalize hAe : va_A (wD cB cI o_Model r I F) s.heap.size = A at hD ⊢
  have hA : ∀ q : Nat, s.heap.size ≤ q → A q := fun q h => by rw [← hAe]; exact Or.inr h
  have hS : va_S A s.heap s.heap [] := va_S.rf
  have hP : va_P (dC, dI) classes (wD cB cI o_Model r I F) s.heap := hP
  have hl := lv_entry ([.ref o_Model]) (n := 5) (Nat.le_of_ble_eq_true rfl)
  rw [lg_entry_eq]
  generalize (lg_sl ([.ref o_Model]) ++ List.replicate (5 - (lg_sl ([.ref o_Model])).length) Slot.unset).toArray = ls at hl ⊢
  have hl : lv_has ls 5 [(0, .ref o_Model)] := hl
  unfold m_Model_join at h
  refine lv_aload_n hx hb d_Model_join_0 rfl (lv_at hl 0 rfl) ?_
  refine va_get (D := (dC, dI)) (ci := 10) (v := .ref (r 1)) (C := R_Model) (T := F_Model) (N := 54) hx hb hg i_Model hown hK hP 0 rfl rfl 1 (by decide) (hg _ k742) (fun _ h9 => h9) rfl d_Model_join_1 ?_
  refine lv_aload_n hx hb d_Model_join_4 rfl (lv_at hl 0 rfl) ?_
  refine lv_iconst (v := 2) hx hb d_Model_join_5 (by decide) ?_
  obtain ⟨z1_1, hc1, h⟩ := dz_ob h
  try dsimp only at h
  have hPc := hP
  have hKc := hK
  refine vp_callSi (va_Run.run (va_runV (As := [.int 2]) (rest := [.ref (r 1)]) ⟨hx, hb, hml, hown, hg⟩ (c_Model_scalar l dC dI N cB cI o_Model r I F (2 : Int32) z1_1 hc1) (cwV 1 hg (gd_V k804 k805 k806 k707 k803) rfl rfl rfl (by decide +kernel) ⟨Nat.le_of_ble_eq_true rfl, Nat.le_of_ble_eq_true rfl⟩) ⟨dz_blindR, va_recv hKc hPc (ci := 10) (q0 := 0) rfl rfl, fun U hU hW => ⟨rfl, dz_Nw hW hN, by rw [hU]; exact hPc, va_K.moved hW.alike hKc⟩⟩ rfl rfl hl.1 rfl (lv_room (Nat.le_of_ble_eq_true rfl)) d_Model_join_6 ⟨Nat.le_of_ble_eq_true rfl, Nat.le_of_ble_eq_true rfl⟩)) (fun r1 hw => ?_)
  have hw : z1_1 = r1 := hw.symm
  subst hw
  obtain ⟨i2, h⟩ := dz_oi h
  refine va_iald (D := (dC, dI)) (f := F 1) hx hb hK hP 2 1 rfl rfl i2 d_Model_join_9 ?_
  refine lv_istore_n (lv' := [(1, .int ((F 1) z1_1.toNatClampNeg)), (0, .ref o_Model)]) hx hb d_Model_join_10 rfl hl (by decide) rfl (fun ls hl => ?_)
  refine lv_iload_n hx hb d_Model_join_11 rfl (lv_at hl 0 rfl) ?_
  refine lv_aload_n hx hb d_Model_join_12 rfl (lv_at hl 1 rfl) ?_
  refine va_get (D := (dC, dI)) (ci := 10) (v := .ref (r 1)) (C := R_Model) (T := F_Model) (N := 54) hx hb hg i_Model hown hK hP 0 rfl rfl 1 (by decide) (hg _ k742) (fun _ h9 => h9) rfl d_Model_join_13 ?_
  refine lv_aload_n hx hb d_Model_join_16 rfl (lv_at hl 1 rfl) ?_
  refine lv_iconst (v := 1) hx hb d_Model_join_17 (by decide) ?_
  obtain ⟨z3_1, hc3, h⟩ := dz_ob h
  try dsimp only at h
  have hPc := hP
  have hKc := hK
  refine vp_callSi (va_Run.run (va_runV (As := [.int 1]) (rest := [.ref (r 1), .int ((F 1) z1_1.toNatClampNeg)]) ⟨hx, hb, hml, hown, hg⟩ (c_Model_scalar l dC dI N cB cI o_Model r I F (1 : Int32) z3_1 hc3) (cwV 1 hg (gd_V k804 k805 k806 k707 k803) rfl rfl rfl (by decide +kernel) ⟨Nat.le_of_ble_eq_true rfl, Nat.le_of_ble_eq_true rfl⟩) ⟨dz_blindR, va_recv hKc hPc (ci := 10) (q0 := 0) rfl rfl, fun U hU hW => ⟨rfl, dz_Nw hW hN, by rw [hU]; exact hPc, va_K.moved hW.alike hKc⟩⟩ rfl rfl hl.1 rfl (lv_room (Nat.le_of_ble_eq_true rfl)) d_Model_join_18 ⟨Nat.le_of_ble_eq_true rfl, Nat.le_of_ble_eq_true rfl⟩)) (fun r3 hw => ?_)
  have hw : z3_1 = r3 := hw.symm
  subst hw
  obtain ⟨i4, h⟩ := dz_oi h
  refine va_iald (D := (dC, dI)) (f := F 1) hx hb hK hP 2 1 rfl rfl i4 d_Model_join_21 ?_
  refine lv_iadd hx hb d_Model_join_22 ?_
  refine lv_istore_n (lv' := [(2, .int (((F 1) z1_1.toNatClampNeg) + ((F 1) z3_1.toNatClampNeg))), (1, .int ((F 1) z1_1.toNatClampNeg)), (0, .ref o_Model)]) hx hb d_Model_join_23 rfl hl (by decide) rfl (fun ls hl => ?_)
  refine lv_iload_n hx hb d_Model_join_24 rfl (lv_at hl 0 rfl) ?_
  refine lv_ldcw (v := 65535) hx hb hown (hg _ k832) d_Model_join_25 ?_
  refine lv_icmp_le (tgt := 38) hx hb d_Model_join_28 (by decide) (fun c5 => ?_) (fun c5 => ?_)
  · rw [if_pos c5] at h
    refine lv_aload_n hx hb d_Model_join_38 rfl (lv_at hl 2 rfl) ?_
    refine lv_iconst (v := 1) hx hb d_Model_join_39 (by decide) ?_
    refine lv_iload_n hx hb d_Model_join_40 rfl (lv_at hl 0 rfl) ?_
    refine lv_iconst (v := 3) hx hb d_Model_join_41 (by decide) ?_
    refine lv_iadd hx hb d_Model_join_42 ?_
    refine lv_iconst (v := 4) hx hb d_Model_join_43 (by decide) ?_
    refine lv_idiv hx hb d_Model_join_44 (by decide) ?_
    refine lv_iadd hx hb d_Model_join_45 ?_
    obtain ⟨x7, ex7, h⟩ := dz_lt h
    refine dz_topi ex7 ?_
    obtain ⟨⟨z8_1, z8_2, z8_3⟩, hc8, h⟩ := dz_ob h
    try dsimp only at h
    have hPc := hP
    have hKc := hK
    have hDc := hD
    have hFc := dz_freeall hD hS hA
    refine va_calli (va_runV (As := [.int x7]) (rest := []) ⟨hx, hb, hml, hown, hg⟩ (c_Model_makes l dC dI N cB cI o_Model r I F x7 s.heap.size (z8_1, z8_2, z8_3) hc8) (cwV 1 hg (gd_V k880 k881 k882 k707 k879) rfl rfl rfl (by decide +kernel) ⟨Nat.le_of_ble_eq_true rfl, Nat.le_of_ble_eq_true rfl⟩) ⟨dz_blind, va_recv hKc hPc (ci := 10) (q0 := 0) rfl rfl, fun U hU hW => ⟨rfl, dz_Nw hW hN, by rw [hU], by rw [hU]; exact hPc, va_K.moved hW.alike hKc, hDc.weaken (fun _ _ _ _ => trivial)⟩⟩ rfl rfl hl.1 rfl (lv_room (Nat.le_of_ble_eq_true rfl)) d_Model_join_46 ⟨Nat.le_of_ble_eq_true rfl, Nat.le_of_ble_eq_true rfl⟩) hS (fun q _ h => hFc q h) hFc (fun r8 u8 t8 H1 locs ht hvm hw hB hz1 hk1 hS => ?_)
    obtain ⟨hP1, hK1, hD1⟩ := hB
    rw [ht] at hP1
    have hP := hP1
    have hD := hD1.weaken (fun _ q _ h => hFc q.1 h)
    obtain ⟨hw, hbz8⟩ := hw
    have hw : z8_1 = r8 := hw.symm
    subst hw
    generalize H1 = H at hP hS ⊢
    have hP : va_P (dC, dI) classes (wD cB cI o_Model r z8_3 z8_2) H := hP
    have hD : va_D A (wD cB cI o_Model r z8_3 z8_2) := hD
    refine lv_if_ne (tgt := 54) hx hb d_Model_join_49 (by decide) (fun c9 => ?_) (fun c9 => ?_)
    · rw [if_neg c9] at h
      refine lv_aload_n hx hb d_Model_join_54 rfl (lv_at hl 2 rfl) ?_
      refine lv_iload_n hx hb d_Model_join_55 rfl (lv_at hl 0 rfl) ?_
      obtain ⟨⟨z10_1, z10_2, z10_3⟩, hc10, h⟩ := dz_ob h
      try dsimp only at h
      have hPc := hP
      have hKc := hK
      have hDc := hD
      have hFc := dz_freeall hD hS hA
      refine va_calli (va_runV (As := [.int (((F 1) z1_1.toNatClampNeg) + ((F 1) z3_1.toNatClampNeg))]) (rest := []) ⟨hx, hb, hml, hown, hg⟩ (c_Model_string l dC dI N cB cI o_Model r z8_3 z8_2 (((F 1) z1_1.toNatClampNeg) + ((F 1) z3_1.toNatClampNeg)) H.size (z10_1, z10_2, z10_3) hc10) (cwV 1 hg (gd_V k792 k793 k794 k707 k791) rfl rfl rfl (by decide +kernel) ⟨Nat.le_of_ble_eq_true rfl, Nat.le_of_ble_eq_true rfl⟩) ⟨dz_blind, va_recv hKc hPc (ci := 10) (q0 := 0) rfl rfl, fun U hU hW => ⟨rfl, dz_Nw hW hN, by rw [hU], by rw [hU]; exact hPc, va_K.moved hW.alike hKc, hDc.weaken (fun _ _ _ _ => trivial)⟩⟩ rfl rfl hl.1 rfl (lv_room (Nat.le_of_ble_eq_true rfl)) d_Model_join_56 ⟨Nat.le_of_ble_eq_true rfl, Nat.le_of_ble_eq_true rfl⟩) hS (fun q _ h => hFc q h) hFc (fun r10 u10 t10 H1 locs ht hvm hw hB hz1 hk1 hS => ?_)
      obtain ⟨hP1, hK1, hD1⟩ := hB
      rw [ht] at hP1
      have hP := hP1
      have hD := hD1.weaken (fun _ q _ h => hFc q.1 h)
      have hw : z10_1 = r10 := hw.symm
      subst hw
      generalize H1 = H at hP hS ⊢
      have hP : va_P (dC, dI) classes (wD cB cI o_Model r z10_3 z10_2) H := hP
      have hD : va_D A (wD cB cI o_Model r z10_3 z10_2) := hD
      refine lv_istore_n (lv' := [(3, .int z10_1), (2, .int (((F 1) z1_1.toNatClampNeg) + ((F 1) z3_1.toNatClampNeg))), (1, .int ((F 1) z1_1.toNatClampNeg)), (0, .ref o_Model)]) hx hb d_Model_join_59 rfl hl (by decide) rfl (fun ls hl => ?_)
      refine lv_iconst (v := 0) hx hb d_Model_join_60 (by decide) ?_
      refine lv_istore (lv' := [(4, .int 0), (3, .int z10_1), (2, .int (((F 1) z1_1.toNatClampNeg) + ((F 1) z3_1.toNatClampNeg))), (1, .int ((F 1) z1_1.toNatClampNeg)), (0, .ref o_Model)]) hx hb d_Model_join_61 hl (by decide) rfl (fun ls hl => ?_)
      refine l_Model_join_1 dC dI N cB cI o_Model r F z1_1 z3_1 z10_1 z10_3 hx hb hml hown hg hN hK hA (fun v1_4 w1_F H locs ls h hP hD hS hl => ?_) N (0 : Int32) z10_2 _ _ _ h hP hD hS (lv_sub hl [0, 1, 2, 3, 4] rfl)
      refine lv_aload_n hx hb d_Model_join_115 rfl (lv_at hl 4 rfl) ?_
      refine lv_iconst (v := 2) hx hb d_Model_join_116 (by decide) ?_
      refine lv_aload_n hx hb d_Model_join_117 rfl (lv_at hl 4 rfl) ?_
      refine lv_iconst (v := 2) hx hb d_Model_join_118 (by decide) ?_
      refine lv_iconst (v := 2) hx hb d_Model_join_119 (by decide) ?_
      refine lv_iload_n hx hb d_Model_join_120 rfl (lv_at hl 1 rfl) ?_
      obtain ⟨⟨z18_1, z18_2, z18_3⟩, hc18, h⟩ := dz_ob h
      try dsimp only at h
      have hPc := hP
      have hKc := hK
      have hDc := hD
      have hFc := dz_freeall hD hS hA
      refine va_calli (va_runV (As := [.int 2, .int 2, .int z10_1]) (rest := [.int 2, .ref o_Model]) ⟨hx, hb, hml, hown, hg⟩ (c_Model_give l dC dI N cB cI o_Model r z10_3 w1_F (2 : Int32) (2 : Int32) z10_1 H.size (z18_1, z18_2, z18_3) hc18) (cwV 3 hg (gd_V k734 k735 k736 k707 k733) rfl rfl rfl (by decide +kernel) ⟨Nat.le_of_ble_eq_true rfl, Nat.le_of_ble_eq_true rfl⟩) ⟨dz_blind, va_recv hKc hPc (ci := 10) (q0 := 0) rfl rfl, fun U hU hW => ⟨rfl, dz_Nw hW hN, by rw [hU], by rw [hU]; exact hPc, va_K.moved hW.alike hKc, hDc.weaken (fun _ _ _ _ => trivial)⟩⟩ rfl rfl hl.1 rfl (lv_room (Nat.le_of_ble_eq_true rfl)) d_Model_join_121 ⟨Nat.le_of_ble_eq_true rfl, Nat.le_of_ble_eq_true rfl⟩) hS (fun q _ h => hFc q h) hFc (fun r18 u18 t18 H1 locs ht hvm hw hB hz1 hk1 hS => ?_)
      obtain ⟨hP1, hK1, hD1⟩ := hB
      rw [ht] at hP1
      have hP := hP1
      have hD := hD1.weaken (fun _ q _ h => hFc q.1 h)
      have hw : z18_1 = r18 := hw.symm
      subst hw
      generalize H1 = H at hP hS ⊢
      have hP : va_P (dC, dI) classes (wD cB cI o_Model r z18_3 z18_2) H := hP
      have hD : va_D A (wD cB cI o_Model r z18_3 z18_2) := hD
      obtain ⟨⟨z19_1, z19_2⟩, hc19, h⟩ := dz_ob h
      try dsimp only at h
      have hPc := hP
      have hKc := hK
      have hDc := hD
      have hFc := dz_freeall hD hS hA
      refine va_calli (va_runV (As := [.int 2, .int z18_1]) (rest := []) ⟨hx, hb, hml, hown, hg⟩ (c_Model_next l dC dI N cB cI o_Model r z18_3 z18_2 (2 : Int32) z18_1 H.size (z19_1, z19_2) hc19) (cwV 2 hg (gd_V k871 k872 k873 k707 k870) rfl rfl rfl (by decide +kernel) ⟨Nat.le_of_ble_eq_true rfl, Nat.le_of_ble_eq_true rfl⟩) ⟨dz_blind, va_recv hKc hPc (ci := 10) (q0 := 0) rfl rfl, fun U hU hW => ⟨rfl, dz_Nw hW hN, by rw [hU], by rw [hU]; exact hPc, va_K.moved hW.alike hKc, hDc.weaken (fun _ _ _ _ => trivial)⟩⟩ rfl rfl hl.1 rfl (lv_room (Nat.le_of_ble_eq_true rfl)) d_Model_join_124 ⟨Nat.le_of_ble_eq_true rfl, Nat.le_of_ble_eq_true rfl⟩) hS (fun q _ h => hFc q h) hFc (fun r19 u19 t19 H1 locs ht hvm hw hB hz1 hk1 hS => ?_)
      obtain ⟨hP1, hK1, hD1⟩ := hB
      rw [ht] at hP1
      have hP := hP1
      have hD := hD1.weaken (fun _ q _ h => hFc q.1 h)
      have hw : z19_1 = r19 := hw.symm
      subst hw
      generalize H1 = H at hP hS ⊢
      have hP : va_P (dC, dI) classes (wD cB cI o_Model r z19_2 z18_2) H := hP
      have hD : va_D A (wD cB cI o_Model r z19_2 z18_2) := hD
      obtain rfl := Option.some.inj h
      have hP9 := hP
      have hD9 := hD
      have hK9 := hK
      exact W.iret (v := z19_1) hx hb hr (fun t ht hW => ⟨⟨z19_1, (), rfl, rfl, by rw [ht]; exact hP9, va_K.moved hW.alike hK9, hD9⟩, hS.F ht⟩) hS.2.2 d_Model_join_127
    · rw [if_pos c9] at h
      refine lv_iconst (v := 3) hx hb d_Model_join_52 (by decide) ?_
      obtain rfl := Option.some.inj h
      have hP9 := hP
      have hD9 := hD
      have hK9 := hK
      exact W.iret (v := 3) hx hb hr (fun t ht hW => ⟨⟨3, (), rfl, rfl, by rw [ht]; exact hP9, va_K.moved hW.alike hK9, hD9⟩, hS.F ht⟩) hS.2.2 d_Model_join_53
  · rw [if_neg c5] at h
    refine lv_aload_n hx hb d_Model_join_31 rfl (lv_at hl 2 rfl) ?_
    refine lv_iconst (v := 2) hx hb d_Model_join_32 (by decide) ?_
    refine lv_iconst (v := 5) hx hb d_Model_join_33 (by decide) ?_
    obtain ⟨⟨z20_1, z20_2, z20_3⟩, hc20, h⟩ := dz_ob h
    try dsimp only at h
    have hPc := hP
    have hKc := hK
    have hDc := hD
    have hFc := dz_freeall hD hS hA
    refine va_calli (va_runV (As := [.int 2, .int 5]) (rest := []) ⟨hx, hb, hml, hown, hg⟩ (c_Model_raiseGlobal l dC dI N cB cI o_Model r I F (2 : Int32) (5 : Int32) s.heap.size (z20_1, z20_2, z20_3) hc20) (cwV 2 hg (gd_V k875 k876 k877 k707 k874) rfl rfl rfl (by decide +kernel) ⟨Nat.le_of_ble_eq_true rfl, Nat.le_of_ble_eq_true rfl⟩) ⟨dz_blind, va_recv hKc hPc (ci := 10) (q0 := 0) rfl rfl, fun U hU hW => ⟨rfl, dz_Nw hW hN, by rw [hU], by rw [hU]; exact hPc, va_K.moved hW.alike hKc, hDc.weaken (fun _ _ _ _ => trivial)⟩⟩ rfl rfl hl.1 rfl (lv_room (Nat.le_of_ble_eq_true rfl)) d_Model_join_34 ⟨Nat.le_of_ble_eq_true rfl, Nat.le_of_ble_eq_true rfl⟩) hS (fun q _ h => hFc q h) hFc (fun r20 u20 t20 H1 locs ht hvm hw hB hz1 hk1 hS => ?_)
    obtain ⟨hP1, hK1, hD1⟩ := hB
    rw [ht] at hP1
    have hP := hP1
    have hD := hD1.weaken (fun _ q _ h => hFc q.1 h)
    have hw : z20_1 = r20 := hw.symm
    subst hw
    generalize H1 = H at hP hS ⊢
    have hP : va_P (dC, dI) classes (wD cB cI o_Model r z20_3 z20_2) H := hP
    have hD : va_D A (wD cB cI o_Model r z20_3 z20_2) := hD
    obtain rfl := Option.some.inj h
    have hP9 := hP
    have hD9 := hD
    have hK9 := hK
    exact W.iret (v := z20_1) hx hb hr (fun t ht hW => ⟨⟨z20_1, (), rfl, rfl, by rw [ht]; exact hP9, va_K.moved hW.alike hK9, hD9⟩, hS.F ht⟩) hS.2.2 d_Model_join_37

set_option maxHeartbeats 4000000 in
set_option maxRecDepth 100000 in
theorem l_Model_slice_1 {p : Program} {l : Launch} {e : Env} {s : State} {m : MethodId} {args : Array Value} {below : List Frame} {meth : Method} {c : Code} {Q : State → Prop} {A : Nat → Prop} (dC : Nat → ClassId) (dI : Nat → Nat → Nat) (N : Nat) (cB : ClassId) (cI : ClassId) (o_Model : Nat) (r : Nat → Nat) (z1_1 : Int32) (z2_1 : Int32) (z13_1 : Int32) (z13_3 : Nat → Int32) {ζ : Type} {z : ζ} (hx : p.tables.exec = Jvm.exec) (hb : c.code = b_Model_slice) (hml : c.maxLocals = 5) (hown : s.vm.findClass R_Model = some m.cls) (hg : ∀ w ∈ lw_g, w.before args s = true) (hN : dz_N s) (hK : va_K (dC, dI) classes [(cB, .byte), (cI, .int)] s) (hA : ∀ q : Nat, s.heap.size ≤ q → A q) {k1_104 : Int32 → (Nat → Nat → Int32) → Option (ζ)} (hk1_104 : ∀ (v1_4 : Int32) (w1_F : (Nat → Nat → Int32))    (H : Heap) (locs : List Loc) (ls : Array Slot), k1_104 v1_4 w1_F = some z → va_P (dC, dI) classes (wD cB cI o_Model r z13_3 w1_F) H → va_D A (wD cB cI o_Model r z13_3 w1_F) → va_S A s.heap H locs → lv_has ls 5 [(4, .int v1_4), (3, .int z13_1), (2, .int z2_1), (1, .int z1_1), (0, .ref o_Model)] → W p l e ({ frames := 8, cells := 0, slots := 0, locals := 171 } : Room) s m args below meth c H locs 0 0 Q (F0 m 104 ls [])) : ∀ (n1 : Nat) (v1_4 : Int32) (w1_F : (Nat → Nat → Int32))   (H : Heap) (locs : List Loc) (ls : Array Slot), lm_Model_slice_1 N z1_1 z2_1 z13_1 z13_3 k1_104 n1 v1_4 w1_F = some z → va_P (dC, dI) classes (wD cB cI o_Model r z13_3 w1_F) H → va_D A (wD cB cI o_Model r z13_3 w1_F) → va_S A s.heap H locs → lv_has ls 5 [(4, .int v1_4), (3, .int z13_1), (2, .int z2_1), (1, .int z1_1), (0, .ref o_Model)] → W p l e ({ frames := 8, cells := 0, slots := 0, locals := 171 } : Room) s m args below meth c H locs 0 0 Q (F0 m 72 ls []) := by
  intro n1
  induction n1 with
  | zero =>
    intro v1_4 w1_F H locs ls h hP hD hS hl
    rw [lm_Model_slice_1] at h
    cases h
  | succ n1 ih1 =>
    intro v1_4 w1_F H locs ls h hP hD hS hl
    rw [lm_Model_slice_1] at h
    refine lv_iload hx hb d_Model_slice_72 (lv_at hl 0 rfl) ?_
    refine lv_iload_n hx hb d_Model_slice_74 rfl (lv_at hl 2 rfl) ?_
    refine lv_icmp_ge (tgt := 104) hx hb d_Model_slice_75 (by decide) (fun c14 => ?_) (fun c14 => ?_)
    · rw [if_pos c14] at h
      exact hk1_104 v1_4 w1_F _ _ _ h hP hD hS (lv_sub hl [0, 1, 2, 3, 4] rfl)
    · rw [if_neg c14] at h
      refine lv_aload_n hx hb d_Model_slice_78 rfl (lv_at hl 4 rfl) ?_
      refine lv_iload_n hx hb d_Model_slice_79 rfl (lv_at hl 1 rfl) ?_
      refine lv_iload hx hb d_Model_slice_80 (lv_at hl 0 rfl) ?_
      refine lv_aload_n hx hb d_Model_slice_82 rfl (lv_at hl 4 rfl) ?_
      refine lv_aload_n hx hb d_Model_slice_83 rfl (lv_at hl 4 rfl) ?_
      refine lv_iconst (v := 3) hx hb d_Model_slice_84 (by decide) ?_
      obtain ⟨z15_1, hc15, h⟩ := dz_ob h
      try dsimp only at h
      have hPc := hP
      have hKc := hK
      refine vp_callSi (va_Run.run (va_runV (As := [.int 3]) (rest := [.ref o_Model, .int v1_4, .int z13_1, .ref o_Model]) ⟨hx, hb, hml, hown, hg⟩ (c_Model_scalar l dC dI N cB cI o_Model r z13_3 w1_F (3 : Int32) z15_1 hc15) (cwV 1 hg (gd_V k804 k805 k806 k707 k803) rfl rfl rfl (by decide +kernel) ⟨Nat.le_of_ble_eq_true rfl, Nat.le_of_ble_eq_true rfl⟩) ⟨dz_blindR, va_recv hKc hPc (ci := 10) (q0 := 0) rfl rfl, fun U hU hW => ⟨rfl, dz_Nw hW hN, by rw [hU]; exact hPc, va_K.moved hW.alike hKc⟩⟩ rfl rfl hl.1 rfl (lv_room (Nat.le_of_ble_eq_true rfl)) d_Model_slice_85 ⟨Nat.le_of_ble_eq_true rfl, Nat.le_of_ble_eq_true rfl⟩)) (fun r15 hw => ?_)
      have hw : z15_1 = r15 := hw.symm
      subst hw
      refine lv_iload_n hx hb d_Model_slice_88 rfl (lv_at hl 3 rfl) ?_
      refine lv_iload hx hb d_Model_slice_89 (lv_at hl 0 rfl) ?_
      refine lv_iadd hx hb d_Model_slice_91 ?_
      obtain ⟨z16_1, hc16, h⟩ := dz_ob h
      try dsimp only at h
      have hPc := hP
      have hKc := hK
      refine vp_callSi (va_Run.run (va_runV (As := [.int z15_1, .int (z1_1 + v1_4)]) (rest := [.int v1_4, .int z13_1, .ref o_Model]) ⟨hx, hb, hml, hown, hg⟩ (c_Model_byteAt l dC dI N cB cI o_Model r z13_3 w1_F z15_1 (z1_1 + v1_4) z16_1 hc16) (cwV 2 hg (gd_V k842 k843 k844 k707 k841) rfl rfl rfl (by decide +kernel) ⟨Nat.le_of_ble_eq_true rfl, Nat.le_of_ble_eq_true rfl⟩) ⟨dz_blindR, va_recv hKc hPc (ci := 10) (q0 := 0) rfl rfl, fun U hU hW => ⟨rfl, dz_Nw hW hN, by rw [hU]; exact hPc, va_K.moved hW.alike hKc⟩⟩ rfl rfl hl.1 rfl (lv_room (Nat.le_of_ble_eq_true rfl)) d_Model_slice_92 ⟨Nat.le_of_ble_eq_true rfl, Nat.le_of_ble_eq_true rfl⟩)) (fun r16 hw => ?_)
      have hw : z16_1 = r16 := hw.symm
      subst hw
      obtain ⟨z17_1, hc17, h⟩ := dz_ob h
      try dsimp only at h
      have hPc := hP
      have hKc := hK
      have hDc := hD
      have hFc := dz_freeall hD hS hA
      refine va_callv (va_runV (As := [.int z13_1, .int v1_4, .int z16_1]) (rest := []) ⟨hx, hb, hml, hown, hg⟩ (c_Model_setByte l dC dI N cB cI o_Model r z13_3 w1_F z13_1 v1_4 z16_1 H.size z17_1 hc17) (cwV 3 hg (gd_V k796 k797 k798 k707 k795) rfl rfl rfl (by decide +kernel) ⟨Nat.le_of_ble_eq_true rfl, Nat.le_of_ble_eq_true rfl⟩) ⟨dz_blind, va_recv hKc hPc (ci := 10) (q0 := 0) rfl rfl, fun U hU hW => ⟨rfl, dz_Nw hW hN, by rw [hU], by rw [hU]; exact hPc, va_K.moved hW.alike hKc, hDc.weaken (fun _ _ _ _ => trivial)⟩⟩ rfl rfl hl.1 rfl (lv_room (Nat.le_of_ble_eq_true rfl)) d_Model_slice_95 ⟨Nat.le_of_ble_eq_true rfl, Nat.le_of_ble_eq_true rfl⟩) hS (fun q _ h => hFc q h) hFc (fun u17 t17 H1 locs ht hvm hw hB hz1 hk1 hS => ?_)
      obtain ⟨hP1, hK1, hD1⟩ := hB
      rw [ht] at hP1
      have hP := hP1
      have hD := hD1.weaken (fun _ q _ h => hFc q.1 h)
      generalize H1 = H at hP hS ⊢
      have hP : va_P (dC, dI) classes (wD cB cI o_Model r z13_3 z17_1) H := hP
      have hD : va_D A (wD cB cI o_Model r z13_3 z17_1) := hD
      refine lv_iinc (v := v1_4 + 1) (lv' := [(4, .int (v1_4 + 1)), (3, .int z13_1), (2, .int z2_1), (1, .int z1_1), (0, .ref o_Model)]) hx hb d_Model_slice_98 hl (k := 0) rfl rfl (by decide) rfl (fun ls hl => ?_)
      refine lv_goto (tgt := 72) hx hb d_Model_slice_101 (by decide) ?_
      exact ih1 (v1_4 + 1) z17_1 _ _ _ h hP hD hS (lv_sub hl [0, 1, 2, 3, 4] rfl)
set_option maxHeartbeats 4000000 in
set_option maxRecDepth 100000 in
theorem c_Model_slice (l : Launch) (dC : Nat → ClassId) (dI : Nat → Nat → Nat) (N : Nat) (cB : ClassId) (cI : ClassId) (o_Model : Nat) (r : Nat → Nat) (I : Nat → Int32) (F : Nat → Nat → Int32) (sz : Nat) (z : Int32 × (Nat → Nat → Int32) × (Nat → Int32)) (h : m_Model_slice N I F = some z) : Met l y_Model_slice (.code y_Model_slice b_Model_slice 5 (some .int) :: lw_g) ({ frames := 8, cells := 0, slots := 0, locals := 171 }) (va_Pc [.ref o_Model] (fun U => dz_N U ∧ U.heap.size = sz ∧ va_P (dC, dI) classes (wD cB cI o_Model r I F) U.heap ∧ va_K (dC, dI) classes [(cB, .byte), (cI, .int)] U ∧ va_D (fun _ => True) (wD cB cI o_Model r I F))) (va_Qi (fun (r : Int32) (_ : Unit) => r = z.1) (fun (u : Unit) t => va_P (dC, dI) classes (wD cB cI o_Model r z.2.2 z.2.1) t.heap ∧ va_K (dC, dI) classes [(cB, .byte), (cI, .int)] t ∧ va_D (va_A (wD cB cI o_Model r I F) sz) (wD cB cI o_Model r z.2.2 z.2.1)) (va_A (wD cB cI o_Model r I F) sz)) 0 0 (va_A (wD cB cI o_Model r I F) sz) := by
  refine Met.ofW (cc := b_Model_slice) (maxL := 5) (ret := (some .int)) (by decide +kernel) rfl ?_
  intro p e s m args below meth c s₁ B hml hv
  obtain ⟨rfl, hN, hsz, hP, hK, hD0⟩ := hv
  have hx := B.exec
  have hb := B.bytes
  have hr := B.returns
  have hg : ∀ w ∈ lw_g, w.before _ s = true := fun w hw => atoms_spec (ws := .code y_Model_slice b_Model_slice 5 (some .int) :: lw_g) B.pre w (List.mem_cons_of_mem _ hw)
  have hown : s.vm.findClass R_Model = some m.cls := findClass_of_methodNamed B.named
  have hlocks := B.notSynchronized
  clear B
  subst hsz
  have hD := hD0.self (sz := s.heap.size)
  generalize hAe : va_A (wD cB cI o_Model r I F) s.heap.size = A at hD ⊢
  have hA : ∀ q : Nat, s.heap.size ≤ q → A q := fun q h => by rw [← hAe]; exact Or.inr h
  have hS : va_S A s.heap s.heap [] := va_S.rf
  have hP : va_P (dC, dI) classes (wD cB cI o_Model r I F) s.heap := hP
  have hl := lv_entry ([.ref o_Model]) (n := 5) (Nat.le_of_ble_eq_true rfl)
  rw [lg_entry_eq]
  generalize (lg_sl ([.ref o_Model]) ++ List.replicate (5 - (lg_sl ([.ref o_Model])).length) Slot.unset).toArray = ls at hl ⊢
  have hl : lv_has ls 5 [(0, .ref o_Model)] := hl
  unfold m_Model_slice at h
  refine lv_aload_n hx hb d_Model_slice_0 rfl (lv_at hl 0 rfl) ?_
  refine lv_iconst (v := 2) hx hb d_Model_slice_1 (by decide) ?_
  obtain ⟨z1_1, hc1, h⟩ := dz_ob h
  try dsimp only at h
  have hPc := hP
  have hKc := hK
  refine vp_callSi (va_Run.run (va_runV (As := [.int 2]) (rest := []) ⟨hx, hb, hml, hown, hg⟩ (c_Model_scalar l dC dI N cB cI o_Model r I F (2 : Int32) z1_1 hc1) (cwV 1 hg (gd_V k804 k805 k806 k707 k803) rfl rfl rfl (by decide +kernel) ⟨Nat.le_of_ble_eq_true rfl, Nat.le_of_ble_eq_true rfl⟩) ⟨dz_blindR, va_recv hKc hPc (ci := 10) (q0 := 0) rfl rfl, fun U hU hW => ⟨rfl, dz_Nw hW hN, by rw [hU]; exact hPc, va_K.moved hW.alike hKc⟩⟩ rfl rfl hl.1 rfl (lv_room (Nat.le_of_ble_eq_true rfl)) d_Model_slice_2 ⟨Nat.le_of_ble_eq_true rfl, Nat.le_of_ble_eq_true rfl⟩)) (fun r1 hw => ?_)
  have hw : z1_1 = r1 := hw.symm
  subst hw
  refine lv_istore_n (lv' := [(1, .int z1_1), (0, .ref o_Model)]) hx hb d_Model_slice_5 rfl hl (by decide) rfl (fun ls hl => ?_)
  refine lv_aload_n hx hb d_Model_slice_6 rfl (lv_at hl 1 rfl) ?_
  refine lv_iconst (v := 1) hx hb d_Model_slice_7 (by decide) ?_
  obtain ⟨z2_1, hc2, h⟩ := dz_ob h
  try dsimp only at h
  have hPc := hP
  have hKc := hK
  refine vp_callSi (va_Run.run (va_runV (As := [.int 1]) (rest := []) ⟨hx, hb, hml, hown, hg⟩ (c_Model_scalar l dC dI N cB cI o_Model r I F (1 : Int32) z2_1 hc2) (cwV 1 hg (gd_V k804 k805 k806 k707 k803) rfl rfl rfl (by decide +kernel) ⟨Nat.le_of_ble_eq_true rfl, Nat.le_of_ble_eq_true rfl⟩) ⟨dz_blindR, va_recv hKc hPc (ci := 10) (q0 := 0) rfl rfl, fun U hU hW => ⟨rfl, dz_Nw hW hN, by rw [hU]; exact hPc, va_K.moved hW.alike hKc⟩⟩ rfl rfl hl.1 rfl (lv_room (Nat.le_of_ble_eq_true rfl)) d_Model_slice_8 ⟨Nat.le_of_ble_eq_true rfl, Nat.le_of_ble_eq_true rfl⟩)) (fun r2 hw => ?_)
  have hw : z2_1 = r2 := hw.symm
  subst hw
  refine lv_istore_n (lv' := [(2, .int z2_1), (1, .int z1_1), (0, .ref o_Model)]) hx hb d_Model_slice_11 rfl hl (by decide) rfl (fun ls hl => ?_)
  refine lv_iload_n hx hb d_Model_slice_12 rfl (lv_at hl 1 rfl) ?_
  refine lv_if_lt (tgt := 40) hx hb d_Model_slice_13 (by decide) (fun c3 => ?_) (fun c3 => ?_)
  · rw [if_pos c3] at h
    refine lv_aload_n hx hb d_Model_slice_40 rfl (lv_at hl 2 rfl) ?_
    refine lv_iconst (v := 3) hx hb d_Model_slice_41 (by decide) ?_
    refine lv_iconst (v := 4) hx hb d_Model_slice_42 (by decide) ?_
    obtain ⟨⟨z4_1, z4_2, z4_3⟩, hc4, h⟩ := dz_ob h
    try dsimp only at h
    have hPc := hP
    have hKc := hK
    have hDc := hD
    have hFc := dz_freeall hD hS hA
    refine va_calli (va_runV (As := [.int 3, .int 4]) (rest := []) ⟨hx, hb, hml, hown, hg⟩ (c_Model_raiseGlobal l dC dI N cB cI o_Model r I F (3 : Int32) (4 : Int32) s.heap.size (z4_1, z4_2, z4_3) hc4) (cwV 2 hg (gd_V k875 k876 k877 k707 k874) rfl rfl rfl (by decide +kernel) ⟨Nat.le_of_ble_eq_true rfl, Nat.le_of_ble_eq_true rfl⟩) ⟨dz_blind, va_recv hKc hPc (ci := 10) (q0 := 0) rfl rfl, fun U hU hW => ⟨rfl, dz_Nw hW hN, by rw [hU], by rw [hU]; exact hPc, va_K.moved hW.alike hKc, hDc.weaken (fun _ _ _ _ => trivial)⟩⟩ rfl rfl hl.1 rfl (lv_room (Nat.le_of_ble_eq_true rfl)) d_Model_slice_43 ⟨Nat.le_of_ble_eq_true rfl, Nat.le_of_ble_eq_true rfl⟩) hS (fun q _ h => hFc q h) hFc (fun r4 u4 t4 H1 locs ht hvm hw hB hz1 hk1 hS => ?_)
    obtain ⟨hP1, hK1, hD1⟩ := hB
    rw [ht] at hP1
    have hP := hP1
    have hD := hD1.weaken (fun _ q _ h => hFc q.1 h)
    have hw : z4_1 = r4 := hw.symm
    subst hw
    generalize H1 = H at hP hS ⊢
    have hP : va_P (dC, dI) classes (wD cB cI o_Model r z4_3 z4_2) H := hP
    have hD : va_D A (wD cB cI o_Model r z4_3 z4_2) := hD
    obtain rfl := Option.some.inj h
    have hP9 := hP
    have hD9 := hD
    have hK9 := hK
    exact W.iret (v := z4_1) hx hb hr (fun t ht hW => ⟨⟨z4_1, (), rfl, rfl, by rw [ht]; exact hP9, va_K.moved hW.alike hK9, hD9⟩, hS.F ht⟩) hS.2.2 d_Model_slice_46
  · rw [if_neg c3] at h
    refine lv_iload_n hx hb d_Model_slice_16 rfl (lv_at hl 0 rfl) ?_
    refine lv_if_lt (tgt := 40) hx hb d_Model_slice_17 (by decide) (fun c5 => ?_) (fun c5 => ?_)
    · rw [if_pos c5] at h
      refine lv_aload_n hx hb d_Model_slice_40 rfl (lv_at hl 2 rfl) ?_
      refine lv_iconst (v := 3) hx hb d_Model_slice_41 (by decide) ?_
      refine lv_iconst (v := 4) hx hb d_Model_slice_42 (by decide) ?_
      obtain ⟨⟨z6_1, z6_2, z6_3⟩, hc6, h⟩ := dz_ob h
      try dsimp only at h
      have hPc := hP
      have hKc := hK
      have hDc := hD
      have hFc := dz_freeall hD hS hA
      refine va_calli (va_runV (As := [.int 3, .int 4]) (rest := []) ⟨hx, hb, hml, hown, hg⟩ (c_Model_raiseGlobal l dC dI N cB cI o_Model r I F (3 : Int32) (4 : Int32) s.heap.size (z6_1, z6_2, z6_3) hc6) (cwV 2 hg (gd_V k875 k876 k877 k707 k874) rfl rfl rfl (by decide +kernel) ⟨Nat.le_of_ble_eq_true rfl, Nat.le_of_ble_eq_true rfl⟩) ⟨dz_blind, va_recv hKc hPc (ci := 10) (q0 := 0) rfl rfl, fun U hU hW => ⟨rfl, dz_Nw hW hN, by rw [hU], by rw [hU]; exact hPc, va_K.moved hW.alike hKc, hDc.weaken (fun _ _ _ _ => trivial)⟩⟩ rfl rfl hl.1 rfl (lv_room (Nat.le_of_ble_eq_true rfl)) d_Model_slice_43 ⟨Nat.le_of_ble_eq_true rfl, Nat.le_of_ble_eq_true rfl⟩) hS (fun q _ h => hFc q h) hFc (fun r6 u6 t6 H1 locs ht hvm hw hB hz1 hk1 hS => ?_)
      obtain ⟨hP1, hK1, hD1⟩ := hB
      rw [ht] at hP1
      have hP := hP1
      have hD := hD1.weaken (fun _ q _ h => hFc q.1 h)
      have hw : z6_1 = r6 := hw.symm
      subst hw
      generalize H1 = H at hP hS ⊢
      have hP : va_P (dC, dI) classes (wD cB cI o_Model r z6_3 z6_2) H := hP
      have hD : va_D A (wD cB cI o_Model r z6_3 z6_2) := hD
      obtain rfl := Option.some.inj h
      have hP9 := hP
      have hD9 := hD
      have hK9 := hK
      exact W.iret (v := z6_1) hx hb hr (fun t ht hW => ⟨⟨z6_1, (), rfl, rfl, by rw [ht]; exact hP9, va_K.moved hW.alike hK9, hD9⟩, hS.F ht⟩) hS.2.2 d_Model_slice_46
    · rw [if_neg c5] at h
      refine lv_iload_n hx hb d_Model_slice_20 rfl (lv_at hl 1 rfl) ?_
      refine lv_i2l (v := z1_1.toInt64) hx hb d_Model_slice_21 rfl ?_
      refine lv_iload_n hx hb d_Model_slice_22 rfl (lv_at hl 0 rfl) ?_
      refine lv_i2l (v := z2_1.toInt64) hx hb d_Model_slice_23 rfl ?_
      refine lv_ladd hx hb d_Model_slice_24 ?_
      refine lv_aload_n hx hb d_Model_slice_25 rfl (lv_at hl 2 rfl) ?_
      refine va_get (D := (dC, dI)) (ci := 10) (v := .ref (r 1)) (C := R_Model) (T := F_Model) (N := 54) hx hb hg i_Model hown hK hP 0 rfl rfl 1 (by decide) (hg _ k742) (fun _ h9 => h9) rfl d_Model_slice_26 ?_
      refine lv_aload_n hx hb d_Model_slice_29 rfl (lv_at hl 2 rfl) ?_
      refine lv_iconst (v := 3) hx hb d_Model_slice_30 (by decide) ?_
      obtain ⟨z7_1, hc7, h⟩ := dz_ob h
      try dsimp only at h
      have hPc := hP
      have hKc := hK
      refine vp_callSi (va_Run.run (va_runV (As := [.int 3]) (rest := [.ref (r 1), .long (z1_1.toInt64 + z2_1.toInt64)]) ⟨hx, hb, hml, hown, hg⟩ (c_Model_scalar l dC dI N cB cI o_Model r I F (3 : Int32) z7_1 hc7) (cwV 1 hg (gd_V k804 k805 k806 k707 k803) rfl rfl rfl (by decide +kernel) ⟨Nat.le_of_ble_eq_true rfl, Nat.le_of_ble_eq_true rfl⟩) ⟨dz_blindR, va_recv hKc hPc (ci := 10) (q0 := 0) rfl rfl, fun U hU hW => ⟨rfl, dz_Nw hW hN, by rw [hU]; exact hPc, va_K.moved hW.alike hKc⟩⟩ rfl rfl hl.1 rfl (lv_room (Nat.le_of_ble_eq_true rfl)) d_Model_slice_31 ⟨Nat.le_of_ble_eq_true rfl, Nat.le_of_ble_eq_true rfl⟩)) (fun r7 hw => ?_)
      have hw : z7_1 = r7 := hw.symm
      subst hw
      obtain ⟨i8, h⟩ := dz_oi h
      refine va_iald (D := (dC, dI)) (f := F 1) hx hb hK hP 2 1 rfl rfl i8 d_Model_slice_34 ?_
      refine lv_i2l (v := ((F 1) z7_1.toNatClampNeg).toInt64) hx hb d_Model_slice_35 rfl ?_
      refine W.lcmp hx hb d_Model_slice_36 ?_
      refine lv_if_le (tgt := 47) hx hb d_Model_slice_37 (by decide) (fun c9 => ?_) (fun c9 => ?_)
      · rw [if_pos c9] at h
        refine lv_aload_n hx hb d_Model_slice_47 rfl (lv_at hl 2 rfl) ?_
        refine lv_iconst (v := 1) hx hb d_Model_slice_48 (by decide) ?_
        refine lv_iload_n hx hb d_Model_slice_49 rfl (lv_at hl 0 rfl) ?_
        refine lv_iconst (v := 3) hx hb d_Model_slice_50 (by decide) ?_
        refine lv_iadd hx hb d_Model_slice_51 ?_
        refine lv_iconst (v := 4) hx hb d_Model_slice_52 (by decide) ?_
        refine lv_idiv hx hb d_Model_slice_53 (by decide) ?_
        refine lv_iadd hx hb d_Model_slice_54 ?_
        obtain ⟨⟨z11_1, z11_2, z11_3⟩, hc11, h⟩ := dz_ob h
        try dsimp only at h
        have hPc := hP
        have hKc := hK
        have hDc := hD
        have hFc := dz_freeall hD hS hA
        refine va_calli (va_runV (As := [.int (1 + ((z2_1 + 3) / 4))]) (rest := []) ⟨hx, hb, hml, hown, hg⟩ (c_Model_makes l dC dI N cB cI o_Model r I F (1 + ((z2_1 + 3) / 4)) s.heap.size (z11_1, z11_2, z11_3) hc11) (cwV 1 hg (gd_V k880 k881 k882 k707 k879) rfl rfl rfl (by decide +kernel) ⟨Nat.le_of_ble_eq_true rfl, Nat.le_of_ble_eq_true rfl⟩) ⟨dz_blind, va_recv hKc hPc (ci := 10) (q0 := 0) rfl rfl, fun U hU hW => ⟨rfl, dz_Nw hW hN, by rw [hU], by rw [hU]; exact hPc, va_K.moved hW.alike hKc, hDc.weaken (fun _ _ _ _ => trivial)⟩⟩ rfl rfl hl.1 rfl (lv_room (Nat.le_of_ble_eq_true rfl)) d_Model_slice_55 ⟨Nat.le_of_ble_eq_true rfl, Nat.le_of_ble_eq_true rfl⟩) hS (fun q _ h => hFc q h) hFc (fun r11 u11 t11 H1 locs ht hvm hw hB hz1 hk1 hS => ?_)
        obtain ⟨hP1, hK1, hD1⟩ := hB
        rw [ht] at hP1
        have hP := hP1
        have hD := hD1.weaken (fun _ q _ h => hFc q.1 h)
        obtain ⟨hw, hbz11⟩ := hw
        have hw : z11_1 = r11 := hw.symm
        subst hw
        generalize H1 = H at hP hS ⊢
        have hP : va_P (dC, dI) classes (wD cB cI o_Model r z11_3 z11_2) H := hP
        have hD : va_D A (wD cB cI o_Model r z11_3 z11_2) := hD
        refine lv_if_ne (tgt := 63) hx hb d_Model_slice_58 (by decide) (fun c12 => ?_) (fun c12 => ?_)
        · rw [if_neg c12] at h
          refine lv_aload_n hx hb d_Model_slice_63 rfl (lv_at hl 2 rfl) ?_
          refine lv_iload_n hx hb d_Model_slice_64 rfl (lv_at hl 0 rfl) ?_
          obtain ⟨⟨z13_1, z13_2, z13_3⟩, hc13, h⟩ := dz_ob h
          try dsimp only at h
          have hPc := hP
          have hKc := hK
          have hDc := hD
          have hFc := dz_freeall hD hS hA
          refine va_calli (va_runV (As := [.int z2_1]) (rest := []) ⟨hx, hb, hml, hown, hg⟩ (c_Model_string l dC dI N cB cI o_Model r z11_3 z11_2 z2_1 H.size (z13_1, z13_2, z13_3) hc13) (cwV 1 hg (gd_V k792 k793 k794 k707 k791) rfl rfl rfl (by decide +kernel) ⟨Nat.le_of_ble_eq_true rfl, Nat.le_of_ble_eq_true rfl⟩) ⟨dz_blind, va_recv hKc hPc (ci := 10) (q0 := 0) rfl rfl, fun U hU hW => ⟨rfl, dz_Nw hW hN, by rw [hU], by rw [hU]; exact hPc, va_K.moved hW.alike hKc, hDc.weaken (fun _ _ _ _ => trivial)⟩⟩ rfl rfl hl.1 rfl (lv_room (Nat.le_of_ble_eq_true rfl)) d_Model_slice_65 ⟨Nat.le_of_ble_eq_true rfl, Nat.le_of_ble_eq_true rfl⟩) hS (fun q _ h => hFc q h) hFc (fun r13 u13 t13 H1 locs ht hvm hw hB hz1 hk1 hS => ?_)
          obtain ⟨hP1, hK1, hD1⟩ := hB
          rw [ht] at hP1
          have hP := hP1
          have hD := hD1.weaken (fun _ q _ h => hFc q.1 h)
          have hw : z13_1 = r13 := hw.symm
          subst hw
          generalize H1 = H at hP hS ⊢
          have hP : va_P (dC, dI) classes (wD cB cI o_Model r z13_3 z13_2) H := hP
          have hD : va_D A (wD cB cI o_Model r z13_3 z13_2) := hD
          refine lv_istore_n (lv' := [(3, .int z13_1), (2, .int z2_1), (1, .int z1_1), (0, .ref o_Model)]) hx hb d_Model_slice_68 rfl hl (by decide) rfl (fun ls hl => ?_)
          refine lv_iconst (v := 0) hx hb d_Model_slice_69 (by decide) ?_
          refine lv_istore (lv' := [(4, .int 0), (3, .int z13_1), (2, .int z2_1), (1, .int z1_1), (0, .ref o_Model)]) hx hb d_Model_slice_70 hl (by decide) rfl (fun ls hl => ?_)
          refine l_Model_slice_1 dC dI N cB cI o_Model r z1_1 z2_1 z13_1 z13_3 hx hb hml hown hg hN hK hA (fun v1_4 w1_F H locs ls h hP hD hS hl => ?_) N (0 : Int32) z13_2 _ _ _ h hP hD hS (lv_sub hl [0, 1, 2, 3, 4] rfl)
          refine lv_aload_n hx hb d_Model_slice_104 rfl (lv_at hl 4 rfl) ?_
          refine lv_iconst (v := 2) hx hb d_Model_slice_105 (by decide) ?_
          refine lv_aload_n hx hb d_Model_slice_106 rfl (lv_at hl 4 rfl) ?_
          refine lv_iconst (v := 3) hx hb d_Model_slice_107 (by decide) ?_
          refine lv_iconst (v := 2) hx hb d_Model_slice_108 (by decide) ?_
          refine lv_iload_n hx hb d_Model_slice_109 rfl (lv_at hl 1 rfl) ?_
          obtain ⟨⟨z18_1, z18_2, z18_3⟩, hc18, h⟩ := dz_ob h
          try dsimp only at h
          have hPc := hP
          have hKc := hK
          have hDc := hD
          have hFc := dz_freeall hD hS hA
          refine va_calli (va_runV (As := [.int 3, .int 2, .int z13_1]) (rest := [.int 2, .ref o_Model]) ⟨hx, hb, hml, hown, hg⟩ (c_Model_give l dC dI N cB cI o_Model r z13_3 w1_F (3 : Int32) (2 : Int32) z13_1 H.size (z18_1, z18_2, z18_3) hc18) (cwV 3 hg (gd_V k734 k735 k736 k707 k733) rfl rfl rfl (by decide +kernel) ⟨Nat.le_of_ble_eq_true rfl, Nat.le_of_ble_eq_true rfl⟩) ⟨dz_blind, va_recv hKc hPc (ci := 10) (q0 := 0) rfl rfl, fun U hU hW => ⟨rfl, dz_Nw hW hN, by rw [hU], by rw [hU]; exact hPc, va_K.moved hW.alike hKc, hDc.weaken (fun _ _ _ _ => trivial)⟩⟩ rfl rfl hl.1 rfl (lv_room (Nat.le_of_ble_eq_true rfl)) d_Model_slice_110 ⟨Nat.le_of_ble_eq_true rfl, Nat.le_of_ble_eq_true rfl⟩) hS (fun q _ h => hFc q h) hFc (fun r18 u18 t18 H1 locs ht hvm hw hB hz1 hk1 hS => ?_)
          obtain ⟨hP1, hK1, hD1⟩ := hB
          rw [ht] at hP1
          have hP := hP1
          have hD := hD1.weaken (fun _ q _ h => hFc q.1 h)
          have hw : z18_1 = r18 := hw.symm
          subst hw
          generalize H1 = H at hP hS ⊢
          have hP : va_P (dC, dI) classes (wD cB cI o_Model r z18_3 z18_2) H := hP
          have hD : va_D A (wD cB cI o_Model r z18_3 z18_2) := hD
          obtain ⟨⟨z19_1, z19_2⟩, hc19, h⟩ := dz_ob h
          try dsimp only at h
          have hPc := hP
          have hKc := hK
          have hDc := hD
          have hFc := dz_freeall hD hS hA
          refine va_calli (va_runV (As := [.int 2, .int z18_1]) (rest := []) ⟨hx, hb, hml, hown, hg⟩ (c_Model_next l dC dI N cB cI o_Model r z18_3 z18_2 (2 : Int32) z18_1 H.size (z19_1, z19_2) hc19) (cwV 2 hg (gd_V k871 k872 k873 k707 k870) rfl rfl rfl (by decide +kernel) ⟨Nat.le_of_ble_eq_true rfl, Nat.le_of_ble_eq_true rfl⟩) ⟨dz_blind, va_recv hKc hPc (ci := 10) (q0 := 0) rfl rfl, fun U hU hW => ⟨rfl, dz_Nw hW hN, by rw [hU], by rw [hU]; exact hPc, va_K.moved hW.alike hKc, hDc.weaken (fun _ _ _ _ => trivial)⟩⟩ rfl rfl hl.1 rfl (lv_room (Nat.le_of_ble_eq_true rfl)) d_Model_slice_113 ⟨Nat.le_of_ble_eq_true rfl, Nat.le_of_ble_eq_true rfl⟩) hS (fun q _ h => hFc q h) hFc (fun r19 u19 t19 H1 locs ht hvm hw hB hz1 hk1 hS => ?_)
          obtain ⟨hP1, hK1, hD1⟩ := hB
          rw [ht] at hP1
          have hP := hP1
          have hD := hD1.weaken (fun _ q _ h => hFc q.1 h)
          have hw : z19_1 = r19 := hw.symm
          subst hw
          generalize H1 = H at hP hS ⊢
          have hP : va_P (dC, dI) classes (wD cB cI o_Model r z19_2 z18_2) H := hP
          have hD : va_D A (wD cB cI o_Model r z19_2 z18_2) := hD
          obtain rfl := Option.some.inj h
          have hP9 := hP
          have hD9 := hD
          have hK9 := hK
          exact W.iret (v := z19_1) hx hb hr (fun t ht hW => ⟨⟨z19_1, (), rfl, rfl, by rw [ht]; exact hP9, va_K.moved hW.alike hK9, hD9⟩, hS.F ht⟩) hS.2.2 d_Model_slice_116
        · rw [if_pos c12] at h
          refine lv_iconst (v := 3) hx hb d_Model_slice_61 (by decide) ?_
          obtain rfl := Option.some.inj h
          have hP9 := hP
          have hD9 := hD
          have hK9 := hK
          exact W.iret (v := 3) hx hb hr (fun t ht hW => ⟨⟨3, (), rfl, rfl, by rw [ht]; exact hP9, va_K.moved hW.alike hK9, hD9⟩, hS.F ht⟩) hS.2.2 d_Model_slice_62
      · rw [if_neg c9] at h
        refine lv_aload_n hx hb d_Model_slice_40 rfl (lv_at hl 2 rfl) ?_
        refine lv_iconst (v := 3) hx hb d_Model_slice_41 (by decide) ?_
        refine lv_iconst (v := 4) hx hb d_Model_slice_42 (by decide) ?_
        obtain ⟨⟨z20_1, z20_2, z20_3⟩, hc20, h⟩ := dz_ob h
        try dsimp only at h
        have hPc := hP
        have hKc := hK
        have hDc := hD
        have hFc := dz_freeall hD hS hA
        refine va_calli (va_runV (As := [.int 3, .int 4]) (rest := []) ⟨hx, hb, hml, hown, hg⟩ (c_Model_raiseGlobal l dC dI N cB cI o_Model r I F (3 : Int32) (4 : Int32) s.heap.size (z20_1, z20_2, z20_3) hc20) (cwV 2 hg (gd_V k875 k876 k877 k707 k874) rfl rfl rfl (by decide +kernel) ⟨Nat.le_of_ble_eq_true rfl, Nat.le_of_ble_eq_true rfl⟩) ⟨dz_blind, va_recv hKc hPc (ci := 10) (q0 := 0) rfl rfl, fun U hU hW => ⟨rfl, dz_Nw hW hN, by rw [hU], by rw [hU]; exact hPc, va_K.moved hW.alike hKc, hDc.weaken (fun _ _ _ _ => trivial)⟩⟩ rfl rfl hl.1 rfl (lv_room (Nat.le_of_ble_eq_true rfl)) d_Model_slice_43 ⟨Nat.le_of_ble_eq_true rfl, Nat.le_of_ble_eq_true rfl⟩) hS (fun q _ h => hFc q h) hFc (fun r20 u20 t20 H1 locs ht hvm hw hB hz1 hk1 hS => ?_)
        obtain ⟨hP1, hK1, hD1⟩ := hB
        rw [ht] at hP1
        have hP := hP1
        have hD := hD1.weaken (fun _ q _ h => hFc q.1 h)
        have hw : z20_1 = r20 := hw.symm
        subst hw
        generalize H1 = H at hP hS ⊢
        have hP : va_P (dC, dI) classes (wD cB cI o_Model r z20_3 z20_2) H := hP
        have hD : va_D A (wD cB cI o_Model r z20_3 z20_2) := hD
        obtain rfl := Option.some.inj h
        have hP9 := hP
        have hD9 := hD
        have hK9 := hK
        exact W.iret (v := z20_1) hx hb hr (fun t ht hW => ⟨⟨z20_1, (), rfl, rfl, by rw [ht]; exact hP9, va_K.moved hW.alike hK9, hD9⟩, hS.F ht⟩) hS.2.2 d_Model_slice_46

set_option maxHeartbeats 4000000 in
set_option maxRecDepth 100000 in
theorem l_Model_print_2 {p : Program} {l : Launch} {e : Env} {s : State} {m : MethodId} {args : Array Value} {below : List Frame} {meth : Method} {c : Code} {Q : State → Prop} {A : Nat → Prop} (dC : Nat → ClassId) (dI : Nat → Nat → Nat) (N : Nat) (cB : ClassId) (cI : ClassId) (o_Model : Nat) (r : Nat → Nat) (z1_1 : Int32) (v1_2 : Int32) {ζ : Type} {z : ζ} (hx : p.tables.exec = Jvm.exec) (hb : c.code = b_Model_print) (hml : c.maxLocals = 3) (hown : s.vm.findClass R_Model = some m.cls) (hg : ∀ w ∈ lw_g, w.before args s = true) (hN : dz_N s) (hK : va_K (dC, dI) classes [(cB, .byte), (cI, .int)] s) (hA : ∀ q : Nat, s.heap.size ≤ q → A q) {k2_53 : (Nat → Nat → Int32) → (Nat → Int32) → Option (ζ)} (hk2_53 : ∀ (w2_F : (Nat → Nat → Int32)) (w2_I : (Nat → Int32))    (H : Heap) (locs : List Loc) (ls : Array Slot), k2_53 w2_F w2_I = some z → va_P (dC, dI) classes (wD cB cI o_Model r w2_I w2_F) H → va_D A (wD cB cI o_Model r w2_I w2_F) → va_S A s.heap H locs → lv_has ls 3 [(2, .int v1_2), (1, .int z1_1), (0, .ref o_Model)] → W p l e ({ frames := 1, cells := 0, slots := 0, locals := 23 } : Room) s m args below meth c H locs 0 0 Q (F0 m 53 ls [])) : ∀ (w2_F : (Nat → Nat → Int32)) (w2_I : (Nat → Int32))   (H : Heap) (locs : List Loc) (ls : Array Slot), lm_Model_print_2 N z1_1 v1_2 k2_53 w2_F w2_I = some z → va_P (dC, dI) classes (wD cB cI o_Model r w2_I w2_F) H → va_D A (wD cB cI o_Model r w2_I w2_F) → va_S A s.heap H locs → lv_has ls 3 [(2, .int v1_2), (1, .int z1_1), (0, .ref o_Model)] → W p l e ({ frames := 1, cells := 0, slots := 0, locals := 23 } : Room) s m args below meth c H locs 0 0 Q (F0 m 18 ls []) := by
  intro w2_F w2_I H locs ls h hP hD hS hl
  unfold lm_Model_print_2 at h
  refine lv_aload_n hx hb d_Model_print_18 rfl (lv_at hl 2 rfl) ?_
  refine va_get (D := (dC, dI)) (ci := 10) (v := .int (w2_I 42)) (C := R_Model) (T := F_Model) (N := 54) hx hb hg i_Model hown hK hP 0 rfl rfl 42 (by decide) (hg _ k727) (fun _ h9 => h9) rfl d_Model_print_19 ?_
  refine lv_ldc (v := 65536) hx hb hown (hg _ k713) d_Model_print_22 ?_
  refine lv_icmp_ge (tgt := 53) hx hb d_Model_print_24 (by decide) (fun c4 => ?_) (fun c4 => ?_)
  · rw [if_pos c4] at h
    exact hk2_53 w2_F w2_I _ _ _ h hP hD hS (lv_sub hl [0, 1, 2] rfl)
  · rw [if_neg c4] at h
    refine lv_aload_n hx hb d_Model_print_27 rfl (lv_at hl 2 rfl) ?_
    refine va_get (D := (dC, dI)) (ci := 10) (v := .ref (r 41)) (C := R_Model) (T := F_Model) (N := 54) hx hb hg i_Model hown hK hP 0 rfl rfl 41 (by decide) (hg _ k901) (fun _ h9 => h9) rfl d_Model_print_28 ?_
    refine lv_aload_n hx hb d_Model_print_31 rfl (lv_at hl 2 rfl) ?_
    refine va_get (D := (dC, dI)) (ci := 10) (v := .int (w2_I 42)) (C := R_Model) (T := F_Model) (N := 54) hx hb hg i_Model hown hK hP 0 rfl rfl 42 (by decide) (hg _ k727) (fun _ h9 => h9) rfl d_Model_print_32 ?_
    refine lv_aload_n hx hb d_Model_print_35 rfl (lv_at hl 2 rfl) ?_
    refine lv_iload_n hx hb d_Model_print_36 rfl (lv_at hl 1 rfl) ?_
    refine lv_iload_n hx hb d_Model_print_37 rfl (lv_at hl 0 rfl) ?_
    obtain ⟨z5_1, hc5, h⟩ := dz_ob h
    try dsimp only at h
    have hPc := hP
    have hKc := hK
    refine vp_callSi (va_Run.run (va_runV (As := [.int z1_1, .int v1_2]) (rest := [.int (w2_I 42), .ref (r 41)]) ⟨hx, hb, hml, hown, hg⟩ (c_Model_byteAt l dC dI N cB cI o_Model r w2_I w2_F z1_1 v1_2 z5_1 hc5) (cwV 2 hg (gd_V k842 k843 k844 k707 k841) rfl rfl rfl (by decide +kernel) ⟨Nat.le_of_ble_eq_true rfl, Nat.le_of_ble_eq_true rfl⟩) ⟨dz_blindR, va_recv hKc hPc (ci := 10) (q0 := 0) rfl rfl, fun U hU hW => ⟨rfl, dz_Nw hW hN, by rw [hU]; exact hPc, va_K.moved hW.alike hKc⟩⟩ rfl rfl hl.1 rfl (lv_room (Nat.le_of_ble_eq_true rfl)) d_Model_print_38 ⟨Nat.le_of_ble_eq_true rfl, Nat.le_of_ble_eq_true rfl⟩)) (fun r5 hw => ?_)
    have hw : z5_1 = r5 := hw.symm
    subst hw
    refine lv_i2b (v := z5_1.toInt8.toInt32) hx hb d_Model_print_41 rfl ?_
    obtain ⟨i6, h⟩ := dz_oi h
    refine va_bast (D := (dC, dI)) (f := w2_F 41) hx hb hK hP hD hS 23 0 rfl rfl i6 d_Model_print_42 (fun H locs hP hD hS => ?_)
    obtain ⟨G7, eG7, h⟩ := dz_lt h
    have hP : va_P (dC, dI) classes (wD cB cI o_Model r w2_I G7) H := by rw [eG7]; exact hP
    have hD : va_D A (wD cB cI o_Model r w2_I G7) := by rw [eG7]; exact hD
    refine lv_aload_n hx hb d_Model_print_43 rfl (lv_at hl 2 rfl) ?_
    refine lv_dup hx hb d_Model_print_44 rfl ?_
    refine va_get (D := (dC, dI)) (ci := 10) (v := .int (w2_I 42)) (C := R_Model) (T := F_Model) (N := 54) hx hb hg i_Model hown hK hP 0 rfl rfl 42 (by decide) (hg _ k727) (fun _ h9 => h9) rfl d_Model_print_45 ?_
    refine lv_iconst (v := 1) hx hb d_Model_print_48 (by decide) ?_
    refine lv_iadd hx hb d_Model_print_49 ?_
    refine va_put (D := (dC, dI)) (ci := 10) (v := .int ((w2_I 42) + 1)) (ty := .int) (C := R_Model) (T := F_Model) (N := 54) hx hb hg i_Model t_Model t_Model_ok n_Model hown hK hP hD hS 0 rfl rfl 42 (by decide) (hg _ k727) (fun _ h9 => h9) rfl (by decide +kernel) rfl rfl (Nat.le_of_ble_eq_true rfl) d_Model_print_50 (fun H locs hP hD hS => ?_)
    obtain ⟨J8, eJ8, h⟩ := dz_lt h
    have hP : va_P (dC, dI) classes (wD cB cI o_Model r J8 G7) H := by rw [eJ8]; exact hP
    have hD : va_D A (wD cB cI o_Model r J8 G7) := by rw [eJ8]; exact hD
    exact hk2_53 G7 J8 _ _ _ h hP hD hS (lv_sub hl [0, 1, 2] rfl)
set_option maxHeartbeats 4000000 in
set_option maxRecDepth 100000 in
theorem l_Model_print_1 {p : Program} {l : Launch} {e : Env} {s : State} {m : MethodId} {args : Array Value} {below : List Frame} {meth : Method} {c : Code} {Q : State → Prop} {A : Nat → Prop} (dC : Nat → ClassId) (dI : Nat → Nat → Nat) (N : Nat) (cB : ClassId) (cI : ClassId) (o_Model : Nat) (r : Nat → Nat) (z1_1 : Int32) {ζ : Type} {z : ζ} (hx : p.tables.exec = Jvm.exec) (hb : c.code = b_Model_print) (hml : c.maxLocals = 3) (hown : s.vm.findClass R_Model = some m.cls) (hg : ∀ w ∈ lw_g, w.before args s = true) (hN : dz_N s) (hK : va_K (dC, dI) classes [(cB, .byte), (cI, .int)] s) (hA : ∀ q : Nat, s.heap.size ≤ q → A q) {k1_59 : Int32 → (Nat → Nat → Int32) → (Nat → Int32) → Option (ζ)} (hk1_59 : ∀ (v1_2 : Int32) (w1_F : (Nat → Nat → Int32)) (w1_I : (Nat → Int32))    (H : Heap) (locs : List Loc) (ls : Array Slot), k1_59 v1_2 w1_F w1_I = some z → va_P (dC, dI) classes (wD cB cI o_Model r w1_I w1_F) H → va_D A (wD cB cI o_Model r w1_I w1_F) → va_S A s.heap H locs → lv_has ls 3 [(2, .int v1_2), (1, .int z1_1), (0, .ref o_Model)] → W p l e ({ frames := 1, cells := 0, slots := 0, locals := 23 } : Room) s m args below meth c H locs 0 0 Q (F0 m 59 ls [])) : ∀ (n1 : Nat) (v1_2 : Int32) (w1_F : (Nat → Nat → Int32)) (w1_I : (Nat → Int32))   (H : Heap) (locs : List Loc) (ls : Array Slot), lm_Model_print_1 N z1_1 k1_59 n1 v1_2 w1_F w1_I = some z → va_P (dC, dI) classes (wD cB cI o_Model r w1_I w1_F) H → va_D A (wD cB cI o_Model r w1_I w1_F) → va_S A s.heap H locs → lv_has ls 3 [(2, .int v1_2), (1, .int z1_1), (0, .ref o_Model)] → W p l e ({ frames := 1, cells := 0, slots := 0, locals := 23 } : Room) s m args below meth c H locs 0 0 Q (F0 m 8 ls []) := by
  intro n1
  induction n1 with
  | zero =>
    intro v1_2 w1_F w1_I H locs ls h hP hD hS hl
    rw [lm_Model_print_1] at h
    cases h
  | succ n1 ih1 =>
    intro v1_2 w1_F w1_I H locs ls h hP hD hS hl
    rw [lm_Model_print_1] at h
    refine lv_iload_n hx hb d_Model_print_8 rfl (lv_at hl 0 rfl) ?_
    refine lv_aload_n hx hb d_Model_print_9 rfl (lv_at hl 2 rfl) ?_
    refine va_get (D := (dC, dI)) (ci := 10) (v := .ref (r 1)) (C := R_Model) (T := F_Model) (N := 54) hx hb hg i_Model hown hK hP 0 rfl rfl 1 (by decide) (hg _ k742) (fun _ h9 => h9) rfl d_Model_print_10 ?_
    refine lv_iload_n hx hb d_Model_print_13 rfl (lv_at hl 1 rfl) ?_
    obtain ⟨i2, h⟩ := dz_oi h
    refine va_iald (D := (dC, dI)) (f := w1_F 1) hx hb hK hP 2 1 rfl rfl i2 d_Model_print_14 ?_
    refine lv_icmp_ge (tgt := 59) hx hb d_Model_print_15 (by decide) (fun c3 => ?_) (fun c3 => ?_)
    · rw [if_pos c3] at h
      exact hk1_59 v1_2 w1_F w1_I _ _ _ h hP hD hS (lv_sub hl [0, 1, 2] rfl)
    · rw [if_neg c3] at h
      refine l_Model_print_2 dC dI N cB cI o_Model r z1_1 v1_2 hx hb hml hown hg hN hK hA (fun w2_F w2_I H locs ls h hP hD hS hl => ?_) w1_F w1_I _ _ _ h hP hD hS (lv_sub hl [0, 1, 2] rfl)
      refine lv_iinc (v := v1_2 + 1) (lv' := [(2, .int (v1_2 + 1)), (1, .int z1_1), (0, .ref o_Model)]) hx hb d_Model_print_53 hl (k := 0) rfl rfl (by decide) rfl (fun ls hl => ?_)
      refine lv_goto (tgt := 8) hx hb d_Model_print_56 (by decide) ?_
      exact ih1 (v1_2 + 1) w2_F w2_I _ _ _ h hP hD hS (lv_sub hl [0, 1, 2] rfl)
set_option maxHeartbeats 4000000 in
set_option maxRecDepth 100000 in
theorem c_Model_print (l : Launch) (dC : Nat → ClassId) (dI : Nat → Nat → Nat) (N : Nat) (cB : ClassId) (cI : ClassId) (o_Model : Nat) (r : Nat → Nat) (I : Nat → Int32) (F : Nat → Nat → Int32) (sz : Nat) (z : Int32 × (Nat → Nat → Int32) × (Nat → Int32)) (h : m_Model_print N I F = some z) : Met l y_Model_print (.code y_Model_print b_Model_print 3 (some .int) :: lw_g) ({ frames := 1, cells := 0, slots := 0, locals := 23 }) (va_Pc [.ref o_Model] (fun U => dz_N U ∧ U.heap.size = sz ∧ va_P (dC, dI) classes (wD cB cI o_Model r I F) U.heap ∧ va_K (dC, dI) classes [(cB, .byte), (cI, .int)] U ∧ va_D (fun _ => True) (wD cB cI o_Model r I F))) (va_Qi (fun (r : Int32) (_ : Unit) => r = z.1) (fun (u : Unit) t => va_P (dC, dI) classes (wD cB cI o_Model r z.2.2 z.2.1) t.heap ∧ va_K (dC, dI) classes [(cB, .byte), (cI, .int)] t ∧ va_D (va_A (wD cB cI o_Model r I F) sz) (wD cB cI o_Model r z.2.2 z.2.1)) (va_A (wD cB cI o_Model r I F) sz)) 0 0 (va_A (wD cB cI o_Model r I F) sz) := by
  refine Met.ofW (cc := b_Model_print) (maxL := 3) (ret := (some .int)) (by decide +kernel) rfl ?_
  intro p e s m args below meth c s₁ B hml hv
  obtain ⟨rfl, hN, hsz, hP, hK, hD0⟩ := hv
  have hx := B.exec
  have hb := B.bytes
  have hr := B.returns
  have hg : ∀ w ∈ lw_g, w.before _ s = true := fun w hw => atoms_spec (ws := .code y_Model_print b_Model_print 3 (some .int) :: lw_g) B.pre w (List.mem_cons_of_mem _ hw)
  have hown : s.vm.findClass R_Model = some m.cls := findClass_of_methodNamed B.named
  have hlocks := B.notSynchronized
  clear B
  subst hsz
  have hD := hD0.self (sz := s.heap.size)
  generalize hAe : va_A (wD cB cI o_Model r I F) s.heap.size = A at hD ⊢
  have hA : ∀ q : Nat, s.heap.size ≤ q → A q := fun q h => by rw [← hAe]; exact Or.inr h
  have hS : va_S A s.heap s.heap [] := va_S.rf
  have hP : va_P (dC, dI) classes (wD cB cI o_Model r I F) s.heap := hP
  have hl := lv_entry ([.ref o_Model]) (n := 3) (Nat.le_of_ble_eq_true rfl)
  rw [lg_entry_eq]
  generalize (lg_sl ([.ref o_Model]) ++ List.replicate (3 - (lg_sl ([.ref o_Model])).length) Slot.unset).toArray = ls at hl ⊢
  have hl : lv_has ls 3 [(0, .ref o_Model)] := hl
  unfold m_Model_print at h
  refine lv_aload_n hx hb d_Model_print_0 rfl (lv_at hl 0 rfl) ?_
  refine lv_iconst (v := 1) hx hb d_Model_print_1 (by decide) ?_
  obtain ⟨z1_1, hc1, h⟩ := dz_ob h
  try dsimp only at h
  have hPc := hP
  have hKc := hK
  refine vp_callSi (va_Run.run (va_runV (As := [.int 1]) (rest := []) ⟨hx, hb, hml, hown, hg⟩ (c_Model_scalar l dC dI N cB cI o_Model r I F (1 : Int32) z1_1 hc1) (cwV 1 hg (gd_V k804 k805 k806 k707 k803) rfl rfl rfl (by decide +kernel) ⟨Nat.le_of_ble_eq_true rfl, Nat.le_of_ble_eq_true rfl⟩) ⟨dz_blindR, va_recv hKc hPc (ci := 10) (q0 := 0) rfl rfl, fun U hU hW => ⟨rfl, dz_Nw hW hN, by rw [hU]; exact hPc, va_K.moved hW.alike hKc⟩⟩ rfl rfl hl.1 rfl (lv_room (Nat.le_of_ble_eq_true rfl)) d_Model_print_2 ⟨Nat.le_of_ble_eq_true rfl, Nat.le_of_ble_eq_true rfl⟩)) (fun r1 hw => ?_)
  have hw : z1_1 = r1 := hw.symm
  subst hw
  refine lv_istore_n (lv' := [(1, .int z1_1), (0, .ref o_Model)]) hx hb d_Model_print_5 rfl hl (by decide) rfl (fun ls hl => ?_)
  refine lv_iconst (v := 0) hx hb d_Model_print_6 (by decide) ?_
  refine lv_istore_n (lv' := [(2, .int 0), (1, .int z1_1), (0, .ref o_Model)]) hx hb d_Model_print_7 rfl hl (by decide) rfl (fun ls hl => ?_)
  refine l_Model_print_1 dC dI N cB cI o_Model r z1_1 hx hb hml hown hg hN hK hA (fun v1_2 w1_F w1_I H locs ls h hP hD hS hl => ?_) N (0 : Int32) F I _ _ _ h hP hD hS (lv_sub hl [0, 1, 2] rfl)
  refine lv_aload_n hx hb d_Model_print_59 rfl (lv_at hl 2 rfl) ?_
  refine lv_iconst (v := 1) hx hb d_Model_print_60 (by decide) ?_
  refine lv_iconst (v := 0) hx hb d_Model_print_61 (by decide) ?_
  refine lv_iconst (v := 0) hx hb d_Model_print_62 (by decide) ?_
  obtain ⟨⟨z9_1, z9_2, z9_3⟩, hc9, h⟩ := dz_ob h
  try dsimp only at h
  have hPc := hP
  have hKc := hK
  have hDc := hD
  have hFc := dz_freeall hD hS hA
  refine va_calli (va_runV (As := [.int 1, .int 0, .int 0]) (rest := []) ⟨hx, hb, hml, hown, hg⟩ (c_Model_give l dC dI N cB cI o_Model r w1_I w1_F (1 : Int32) (0 : Int32) (0 : Int32) H.size (z9_1, z9_2, z9_3) hc9) (cwV 3 hg (gd_V k734 k735 k736 k707 k733) rfl rfl rfl (by decide +kernel) ⟨Nat.le_of_ble_eq_true rfl, Nat.le_of_ble_eq_true rfl⟩) ⟨dz_blind, va_recv hKc hPc (ci := 10) (q0 := 0) rfl rfl, fun U hU hW => ⟨rfl, dz_Nw hW hN, by rw [hU], by rw [hU]; exact hPc, va_K.moved hW.alike hKc, hDc.weaken (fun _ _ _ _ => trivial)⟩⟩ rfl rfl hl.1 rfl (lv_room (Nat.le_of_ble_eq_true rfl)) d_Model_print_63 ⟨Nat.le_of_ble_eq_true rfl, Nat.le_of_ble_eq_true rfl⟩) hS (fun q _ h => hFc q h) hFc (fun r9 u9 t9 H1 locs ht hvm hw hB hz1 hk1 hS => ?_)
  obtain ⟨hP1, hK1, hD1⟩ := hB
  rw [ht] at hP1
  have hP := hP1
  have hD := hD1.weaken (fun _ q _ h => hFc q.1 h)
  have hw : z9_1 = r9 := hw.symm
  subst hw
  generalize H1 = H at hP hS ⊢
  have hP : va_P (dC, dI) classes (wD cB cI o_Model r z9_3 z9_2) H := hP
  have hD : va_D A (wD cB cI o_Model r z9_3 z9_2) := hD
  obtain rfl := Option.some.inj h
  have hP9 := hP
  have hD9 := hD
  have hK9 := hK
  exact W.iret (v := z9_1) hx hb hr (fun t ht hW => ⟨⟨z9_1, (), rfl, rfl, by rw [ht]; exact hP9, va_K.moved hW.alike hK9, hD9⟩, hS.F ht⟩) hS.2.2 d_Model_print_66

set_option maxHeartbeats 4000000 in
set_option maxRecDepth 100000 in
theorem c_Model_isList (l : Launch) (dC : Nat → ClassId) (dI : Nat → Nat → Nat) (N : Nat) (cB : ClassId) (cI : ClassId) (o_Model : Nat) (r : Nat → Nat) (I : Nat → Int32) (F : Nat → Nat → Int32) (p0 : Int32) (p1 : Int32) (z : Int32) (h : m_Model_isList N I F p0 p1 = some z) : Met l y_Model_isList (.code y_Model_isList b_Model_isList 3 (some .boolean) :: lw_g) ({ frames := 2, cells := 0, slots := 0, locals := 43 }) (va_Pc [.ref o_Model, .int p0, .int p1] (fun U => dz_N U ∧ va_P (dC, dI) classes (wD cB cI o_Model r I F) U.heap ∧ va_K (dC, dI) classes [(cB, .byte), (cI, .int)] U)) (vp_Si (fun r => r = z ∧ narrow .boolean (.int z) = .int z ∧ fits .boolean (.int z) = true)) 0 0 (fun _ => False) := by
  refine Met.ofW (cc := b_Model_isList) (maxL := 3) (ret := (some .boolean)) (by decide +kernel) rfl ?_
  intro p e s m args below meth c s₁ B hml hv
  obtain ⟨rfl, hN, hP, hK⟩ := hv
  have hx := B.exec
  have hb := B.bytes
  have hr := B.returns
  have hg : ∀ w ∈ lw_g, w.before _ s = true := fun w hw => atoms_spec (ws := .code y_Model_isList b_Model_isList 3 (some .boolean) :: lw_g) B.pre w (List.mem_cons_of_mem _ hw)
  have hown : s.vm.findClass R_Model = some m.cls := findClass_of_methodNamed B.named
  have hlocks := B.notSynchronized
  clear B
  have hP : va_P (dC, dI) classes (wD cB cI o_Model r I F) s.heap := hP
  have hl := lv_entry ([.ref o_Model, .int p0, .int p1]) (n := 3) (Nat.le_of_ble_eq_true rfl)
  rw [lg_entry_eq]
  generalize (lg_sl ([.ref o_Model, .int p0, .int p1]) ++ List.replicate (3 - (lg_sl ([.ref o_Model, .int p0, .int p1])).length) Slot.unset).toArray = ls at hl ⊢
  have hl : lv_has ls 3 [(0, .ref o_Model), (1, .int p0), (2, .int p1)] := hl
  unfold m_Model_isList at h
  refine lv_iload_n hx hb d_Model_isList_0 rfl (lv_at hl 1 rfl) ?_
  refine lv_iconst (v := 2) hx hb d_Model_isList_1 (by decide) ?_
  refine lv_icmp_ne (tgt := 72) hx hb d_Model_isList_2 (by decide) (fun c1 => ?_) (fun c1 => ?_)
  · rw [if_neg c1] at h
    refine lv_iconst (v := 0) hx hb d_Model_isList_72 (by decide) ?_
    obtain rfl := Option.some.inj h
    exact W.zret (v := 0) (ty := .boolean) hx hb hr (show narrow .boolean (.int 0) = .int 0 from rfl) (fun t ht hW => ⟨_, rfl, ⟨rfl, (show narrow .boolean (.int 0) = .int 0 from rfl), (show fits .boolean (.int 0) = true from rfl)⟩, ht⟩) (fun _ h => by cases h) d_Model_isList_73
  · rw [if_pos c1] at h
    refine lv_aload_n hx hb d_Model_isList_5 rfl (lv_at hl 0 rfl) ?_
    refine lv_iload_n hx hb d_Model_isList_6 rfl (lv_at hl 2 rfl) ?_
    obtain ⟨z2_1, hc2, h⟩ := dz_ob h
    try dsimp only at h
    have hPc := hP
    have hKc := hK
    refine vp_callSi (va_Run.run (va_runV (As := [.int p1]) (rest := []) ⟨hx, hb, hml, hown, hg⟩ (c_Model_kindAt l dC dI N cB cI o_Model r I F p1 z2_1 hc2) (cwV 1 hg (gd_V k739 k740 k741 k707 k738) rfl rfl rfl (by decide +kernel) ⟨Nat.le_of_ble_eq_true rfl, Nat.le_of_ble_eq_true rfl⟩) ⟨dz_blindR, va_recv hKc hPc (ci := 10) (q0 := 0) rfl rfl, fun U hU hW => ⟨rfl, dz_Nw hW hN, by rw [hU]; exact hPc, va_K.moved hW.alike hKc⟩⟩ rfl rfl hl.1 rfl (lv_room (Nat.le_of_ble_eq_true rfl)) d_Model_isList_7 ⟨Nat.le_of_ble_eq_true rfl, Nat.le_of_ble_eq_true rfl⟩)) (fun r2 hw => ?_)
    have hw : z2_1 = r2 := hw.symm
    subst hw
    refine lv_iconst (v := 3) hx hb d_Model_isList_10 (by decide) ?_
    refine lv_icmp_ne (tgt := 72) hx hb d_Model_isList_11 (by decide) (fun c3 => ?_) (fun c3 => ?_)
    · rw [if_neg c3] at h
      refine lv_iconst (v := 0) hx hb d_Model_isList_72 (by decide) ?_
      obtain rfl := Option.some.inj h
      exact W.zret (v := 0) (ty := .boolean) hx hb hr (show narrow .boolean (.int 0) = .int 0 from rfl) (fun t ht hW => ⟨_, rfl, ⟨rfl, (show narrow .boolean (.int 0) = .int 0 from rfl), (show fits .boolean (.int 0) = true from rfl)⟩, ht⟩) (fun _ h => by cases h) d_Model_isList_73
    · rw [if_pos c3] at h
      refine lv_aload_n hx hb d_Model_isList_14 rfl (lv_at hl 0 rfl) ?_
      refine va_get (D := (dC, dI)) (ci := 10) (v := .ref (r 1)) (C := R_Model) (T := F_Model) (N := 54) hx hb hg i_Model hown hK hP 0 rfl rfl 1 (by decide) (hg _ k742) (fun _ h9 => h9) rfl d_Model_isList_15 ?_
      refine lv_iload_n hx hb d_Model_isList_18 rfl (lv_at hl 2 rfl) ?_
      obtain ⟨i4, h⟩ := dz_oi h
      refine va_iald (D := (dC, dI)) (f := F 1) hx hb hK hP 2 1 rfl rfl i4 d_Model_isList_19 ?_
      refine lv_iconst (v := 1) hx hb d_Model_isList_20 (by decide) ?_
      refine lv_icmp_ne (tgt := 72) hx hb d_Model_isList_21 (by decide) (fun c5 => ?_) (fun c5 => ?_)
      · rw [if_neg c5] at h
        refine lv_iconst (v := 0) hx hb d_Model_isList_72 (by decide) ?_
        obtain rfl := Option.some.inj h
        exact W.zret (v := 0) (ty := .boolean) hx hb hr (show narrow .boolean (.int 0) = .int 0 from rfl) (fun t ht hW => ⟨_, rfl, ⟨rfl, (show narrow .boolean (.int 0) = .int 0 from rfl), (show fits .boolean (.int 0) = true from rfl)⟩, ht⟩) (fun _ h => by cases h) d_Model_isList_73
      · rw [if_pos c5] at h
        refine lv_aload_n hx hb d_Model_isList_24 rfl (lv_at hl 0 rfl) ?_
        refine va_get (D := (dC, dI)) (ci := 10) (v := .ref (r 0)) (C := R_Model) (T := F_Model) (N := 54) hx hb hg i_Model hown hK hP 0 rfl rfl 0 (by decide) (hg _ k737) (fun _ h9 => h9) rfl d_Model_isList_25 ?_
        refine lv_iload_n hx hb d_Model_isList_28 rfl (lv_at hl 2 rfl) ?_
        refine lv_iconst (v := 1) hx hb d_Model_isList_29 (by decide) ?_
        refine lv_iadd hx hb d_Model_isList_30 ?_
        obtain ⟨i6, h⟩ := dz_oi h
        refine va_iald (D := (dC, dI)) (f := F 0) hx hb hK hP 1 1 rfl rfl i6 d_Model_isList_31 ?_
        refine lv_iconst (v := 2) hx hb d_Model_isList_32 (by decide) ?_
        refine lv_icmp_ne (tgt := 72) hx hb d_Model_isList_33 (by decide) (fun c7 => ?_) (fun c7 => ?_)
        · rw [if_neg c7] at h
          refine lv_iconst (v := 0) hx hb d_Model_isList_72 (by decide) ?_
          obtain rfl := Option.some.inj h
          exact W.zret (v := 0) (ty := .boolean) hx hb hr (show narrow .boolean (.int 0) = .int 0 from rfl) (fun t ht hW => ⟨_, rfl, ⟨rfl, (show narrow .boolean (.int 0) = .int 0 from rfl), (show fits .boolean (.int 0) = true from rfl)⟩, ht⟩) (fun _ h => by cases h) d_Model_isList_73
        · rw [if_pos c7] at h
          refine lv_aload_n hx hb d_Model_isList_36 rfl (lv_at hl 0 rfl) ?_
          refine lv_aload_n hx hb d_Model_isList_37 rfl (lv_at hl 0 rfl) ?_
          refine va_get (D := (dC, dI)) (ci := 10) (v := .ref (r 1)) (C := R_Model) (T := F_Model) (N := 54) hx hb hg i_Model hown hK hP 0 rfl rfl 1 (by decide) (hg _ k742) (fun _ h9 => h9) rfl d_Model_isList_38 ?_
          refine lv_iload_n hx hb d_Model_isList_41 rfl (lv_at hl 2 rfl) ?_
          refine lv_iconst (v := 1) hx hb d_Model_isList_42 (by decide) ?_
          refine lv_iadd hx hb d_Model_isList_43 ?_
          obtain ⟨i8, h⟩ := dz_oi h
          refine va_iald (D := (dC, dI)) (f := F 1) hx hb hK hP 2 1 rfl rfl i8 d_Model_isList_44 ?_
          obtain ⟨z9_1, hc9, h⟩ := dz_ob h
          try dsimp only at h
          have hPc := hP
          have hKc := hK
          refine vp_callSi (va_Run.run (va_runV (As := [.int ((F 1) (p1 + 1).toNatClampNeg)]) (rest := []) ⟨hx, hb, hml, hown, hg⟩ (c_Model_kindAt l dC dI N cB cI o_Model r I F ((F 1) (p1 + 1).toNatClampNeg) z9_1 hc9) (cwV 1 hg (gd_V k739 k740 k741 k707 k738) rfl rfl rfl (by decide +kernel) ⟨Nat.le_of_ble_eq_true rfl, Nat.le_of_ble_eq_true rfl⟩) ⟨dz_blindR, va_recv hKc hPc (ci := 10) (q0 := 0) rfl rfl, fun U hU hW => ⟨rfl, dz_Nw hW hN, by rw [hU]; exact hPc, va_K.moved hW.alike hKc⟩⟩ rfl rfl hl.1 rfl (lv_room (Nat.le_of_ble_eq_true rfl)) d_Model_isList_45 ⟨Nat.le_of_ble_eq_true rfl, Nat.le_of_ble_eq_true rfl⟩)) (fun r9 hw => ?_)
          have hw : z9_1 = r9 := hw.symm
          subst hw
          refine lv_iconst (v := 2) hx hb d_Model_isList_48 (by decide) ?_
          refine lv_icmp_ne (tgt := 72) hx hb d_Model_isList_49 (by decide) (fun c10 => ?_) (fun c10 => ?_)
          · rw [if_neg c10] at h
            refine lv_iconst (v := 0) hx hb d_Model_isList_72 (by decide) ?_
            obtain rfl := Option.some.inj h
            exact W.zret (v := 0) (ty := .boolean) hx hb hr (show narrow .boolean (.int 0) = .int 0 from rfl) (fun t ht hW => ⟨_, rfl, ⟨rfl, (show narrow .boolean (.int 0) = .int 0 from rfl), (show fits .boolean (.int 0) = true from rfl)⟩, ht⟩) (fun _ h => by cases h) d_Model_isList_73
          · rw [if_pos c10] at h
            refine lv_aload_n hx hb d_Model_isList_52 rfl (lv_at hl 0 rfl) ?_
            refine lv_aload_n hx hb d_Model_isList_53 rfl (lv_at hl 0 rfl) ?_
            refine va_get (D := (dC, dI)) (ci := 10) (v := .ref (r 1)) (C := R_Model) (T := F_Model) (N := 54) hx hb hg i_Model hown hK hP 0 rfl rfl 1 (by decide) (hg _ k742) (fun _ h9 => h9) rfl d_Model_isList_54 ?_
            refine lv_iload_n hx hb d_Model_isList_57 rfl (lv_at hl 2 rfl) ?_
            refine lv_iconst (v := 1) hx hb d_Model_isList_58 (by decide) ?_
            refine lv_iadd hx hb d_Model_isList_59 ?_
            obtain ⟨i11, h⟩ := dz_oi h
            refine va_iald (D := (dC, dI)) (f := F 1) hx hb hK hP 2 1 rfl rfl i11 d_Model_isList_60 ?_
            obtain ⟨z12_1, hc12, h⟩ := dz_ob h
            try dsimp only at h
            have hPc := hP
            have hKc := hK
            refine vp_callSi (va_Run.run (va_runV (As := [.int ((F 1) (p1 + 1).toNatClampNeg)]) (rest := []) ⟨hx, hb, hml, hown, hg⟩ (c_Model_partsAt l dC dI N cB cI o_Model r I F ((F 1) (p1 + 1).toNatClampNeg) z12_1 hc12) (cwV 1 hg (gd_V k744 k745 k746 k707 k743) rfl rfl rfl (by decide +kernel) ⟨Nat.le_of_ble_eq_true rfl, Nat.le_of_ble_eq_true rfl⟩) ⟨dz_blindR, va_recv hKc hPc (ci := 10) (q0 := 0) rfl rfl, fun U hU hW => ⟨rfl, dz_Nw hW hN, by rw [hU]; exact hPc, va_K.moved hW.alike hKc⟩⟩ rfl rfl hl.1 rfl (lv_room (Nat.le_of_ble_eq_true rfl)) d_Model_isList_61 ⟨Nat.le_of_ble_eq_true rfl, Nat.le_of_ble_eq_true rfl⟩)) (fun r12 hw => ?_)
            have hw : z12_1 = r12 := hw.symm
            subst hw
            refine lv_iconst (v := 2) hx hb d_Model_isList_64 (by decide) ?_
            refine lv_icmp_ne (tgt := 72) hx hb d_Model_isList_65 (by decide) (fun c13 => ?_) (fun c13 => ?_)
            · rw [if_neg c13] at h
              refine lv_iconst (v := 0) hx hb d_Model_isList_72 (by decide) ?_
              obtain rfl := Option.some.inj h
              exact W.zret (v := 0) (ty := .boolean) hx hb hr (show narrow .boolean (.int 0) = .int 0 from rfl) (fun t ht hW => ⟨_, rfl, ⟨rfl, (show narrow .boolean (.int 0) = .int 0 from rfl), (show fits .boolean (.int 0) = true from rfl)⟩, ht⟩) (fun _ h => by cases h) d_Model_isList_73
            · rw [if_pos c13] at h
              refine lv_iconst (v := 1) hx hb d_Model_isList_68 (by decide) ?_
              refine lv_goto (tgt := 73) hx hb d_Model_isList_69 (by decide) ?_
              obtain rfl := Option.some.inj h
              exact W.zret (v := 1) (ty := .boolean) hx hb hr (show narrow .boolean (.int 1) = .int 1 from rfl) (fun t ht hW => ⟨_, rfl, ⟨rfl, (show narrow .boolean (.int 1) = .int 1 from rfl), (show fits .boolean (.int 1) = true from rfl)⟩, ht⟩) (fun _ h => by cases h) d_Model_isList_73
