theorem d_Program_append_0 : decode b_Program_append 0 = .ok (.aload_n 0, 1) := by decide +kernel
theorem d_Program_append_1 : decode b_Program_append 1 = .ok (.getfield 22, 3) := by decide +kernel
theorem d_Program_append_4 : decode b_Program_append 4 = .ok (.ldc 26, 2) := by decide +kernel
theorem d_Program_append_6 : decode b_Program_append 6 = .ok (.if_icmp .lt 6, 3) := by decide +kernel
theorem d_Program_append_9 : decode b_Program_append 9 = .ok (.bipush (-2), 2) := by decide +kernel
theorem d_Program_append_11 : decode b_Program_append 11 = .ok (.ireturn, 1) := by decide +kernel
theorem d_Program_append_12 : decode b_Program_append 12 = .ok (.aload_n 0, 1) := by decide +kernel
theorem d_Program_append_13 : decode b_Program_append 13 = .ok (.getfield 22, 3) := by decide +kernel
theorem d_Program_append_16 : decode b_Program_append 16 = .ok (.aload_n 0, 1) := by decide +kernel
theorem d_Program_append_17 : decode b_Program_append 17 = .ok (.getfield 9, 3) := by decide +kernel
theorem d_Program_append_20 : decode b_Program_append 20 = .ok (.arraylength, 1) := by decide +kernel
theorem d_Program_append_21 : decode b_Program_append 21 = .ok (.if_icmp .lt 30, 3) := by decide +kernel
theorem d_Program_append_24 : decode b_Program_append 24 = .ok (.aload_n 0, 1) := by decide +kernel
theorem d_Program_append_25 : decode b_Program_append 25 = .ok (.aload_n 0, 1) := by decide +kernel
theorem d_Program_append_26 : decode b_Program_append 26 = .ok (.getfield 9, 3) := by decide +kernel
theorem d_Program_append_29 : decode b_Program_append 29 = .ok (.aload_n 0, 1) := by decide +kernel
theorem d_Program_append_30 : decode b_Program_append 30 = .ok (.getfield 9, 3) := by decide +kernel
theorem d_Program_append_33 : decode b_Program_append 33 = .ok (.arraylength, 1) := by decide +kernel
theorem d_Program_append_34 : decode b_Program_append 34 = .ok (.aload_n 0, 1) := by decide +kernel
theorem d_Program_append_35 : decode b_Program_append 35 = .ok (.getfield 22, 3) := by decide +kernel
theorem d_Program_append_38 : decode b_Program_append 38 = .ok (.iconst 1, 1) := by decide +kernel
theorem d_Program_append_39 : decode b_Program_append 39 = .ok (.iadd, 1) := by decide +kernel
theorem d_Program_append_40 : decode b_Program_append 40 = .ok (.ldc 26, 2) := by decide +kernel
theorem d_Program_append_42 : decode b_Program_append 42 = .ok (.invokestatic 27, 3) := by decide +kernel
theorem d_Program_append_45 : decode b_Program_append 45 = .ok (.invokestatic 31, 3) := by decide +kernel
theorem d_Program_append_48 : decode b_Program_append 48 = .ok (.putfield 9, 3) := by decide +kernel
theorem d_Program_append_51 : decode b_Program_append 51 = .ok (.aload_n 0, 1) := by decide +kernel
theorem d_Program_append_52 : decode b_Program_append 52 = .ok (.getfield 9, 3) := by decide +kernel
theorem d_Program_append_55 : decode b_Program_append 55 = .ok (.aload_n 0, 1) := by decide +kernel
theorem d_Program_append_56 : decode b_Program_append 56 = .ok (.dup, 1) := by decide +kernel
theorem d_Program_append_57 : decode b_Program_append 57 = .ok (.getfield 22, 3) := by decide +kernel
theorem d_Program_append_60 : decode b_Program_append 60 = .ok (.dup_x1, 1) := by decide +kernel
theorem d_Program_append_61 : decode b_Program_append 61 = .ok (.iconst 1, 1) := by decide +kernel
theorem d_Program_append_62 : decode b_Program_append 62 = .ok (.iadd, 1) := by decide +kernel
theorem d_Program_append_63 : decode b_Program_append 63 = .ok (.putfield 22, 3) := by decide +kernel
theorem d_Program_append_66 : decode b_Program_append 66 = .ok (.iload_n 1, 1) := by decide +kernel
theorem d_Program_append_67 : decode b_Program_append 67 = .ok (.iastore, 1) := by decide +kernel
theorem d_Program_append_68 : decode b_Program_append 68 = .ok (.aload_n 0, 1) := by decide +kernel
theorem d_Program_append_69 : decode b_Program_append 69 = .ok (.getfield 22, 3) := by decide +kernel
theorem d_Program_append_72 : decode b_Program_append 72 = .ok (.ireturn, 1) := by decide +kernel
theorem d_Program_shorten_0 : decode b_Program_shorten 0 = .ok (.iload_n 1, 1) := by decide +kernel
theorem d_Program_shorten_1 : decode b_Program_shorten 1 = .ok (.ifCond .lt 11, 3) := by decide +kernel
theorem d_Program_shorten_4 : decode b_Program_shorten 4 = .ok (.iload_n 1, 1) := by decide +kernel
theorem d_Program_shorten_5 : decode b_Program_shorten 5 = .ok (.aload_n 0, 1) := by decide +kernel
theorem d_Program_shorten_6 : decode b_Program_shorten 6 = .ok (.getfield 22, 3) := by decide +kernel
theorem d_Program_shorten_9 : decode b_Program_shorten 9 = .ok (.if_icmp .le 5, 3) := by decide +kernel
theorem d_Program_shorten_12 : decode b_Program_shorten 12 = .ok (.iconst (-1), 1) := by decide +kernel
theorem d_Program_shorten_13 : decode b_Program_shorten 13 = .ok (.ireturn, 1) := by decide +kernel
theorem d_Program_shorten_14 : decode b_Program_shorten 14 = .ok (.aload_n 0, 1) := by decide +kernel
theorem d_Program_shorten_15 : decode b_Program_shorten 15 = .ok (.iload_n 1, 1) := by decide +kernel
theorem d_Program_shorten_16 : decode b_Program_shorten 16 = .ok (.putfield 22, 3) := by decide +kernel
theorem d_Program_shorten_19 : decode b_Program_shorten 19 = .ok (.aload_n 0, 1) := by decide +kernel
theorem d_Program_shorten_20 : decode b_Program_shorten 20 = .ok (.getfield 22, 3) := by decide +kernel
theorem d_Program_shorten_23 : decode b_Program_shorten 23 = .ok (.ireturn, 1) := by decide +kernel
theorem d_Program_bytesBeforeZero_0 : decode b_Program_bytesBeforeZero 0 = .ok (.iconst 0, 1) := by decide +kernel
theorem d_Program_bytesBeforeZero_1 : decode b_Program_bytesBeforeZero 1 = .ok (.istore_n 3, 1) := by decide +kernel
theorem d_Program_bytesBeforeZero_2 : decode b_Program_bytesBeforeZero 2 = .ok (.iload_n 3, 1) := by decide +kernel
theorem d_Program_bytesBeforeZero_3 : decode b_Program_bytesBeforeZero 3 = .ok (.bipush 8, 2) := by decide +kernel
theorem d_Program_bytesBeforeZero_5 : decode b_Program_bytesBeforeZero 5 = .ok (.if_icmp .ge 26, 3) := by decide +kernel
theorem d_Program_bytesBeforeZero_8 : decode b_Program_bytesBeforeZero 8 = .ok (.lload_n 1, 1) := by decide +kernel
theorem d_Program_bytesBeforeZero_9 : decode b_Program_bytesBeforeZero 9 = .ok (.bipush 8, 2) := by decide +kernel
theorem d_Program_bytesBeforeZero_11 : decode b_Program_bytesBeforeZero 11 = .ok (.iload_n 3, 1) := by decide +kernel
theorem d_Program_bytesBeforeZero_12 : decode b_Program_bytesBeforeZero 12 = .ok (.imul, 1) := by decide +kernel
theorem d_Program_bytesBeforeZero_13 : decode b_Program_bytesBeforeZero 13 = .ok (.lushr, 1) := by decide +kernel
theorem d_Program_bytesBeforeZero_14 : decode b_Program_bytesBeforeZero 14 = .ok (.ldc2_w 51, 3) := by decide +kernel
theorem d_Program_bytesBeforeZero_17 : decode b_Program_bytesBeforeZero 17 = .ok (.land, 1) := by decide +kernel
theorem d_Program_bytesBeforeZero_18 : decode b_Program_bytesBeforeZero 18 = .ok (.lconst 0, 1) := by decide +kernel
theorem d_Program_bytesBeforeZero_19 : decode b_Program_bytesBeforeZero 19 = .ok (.lcmp, 1) := by decide +kernel
theorem d_Program_bytesBeforeZero_20 : decode b_Program_bytesBeforeZero 20 = .ok (.ifCond .ne 5, 3) := by decide +kernel
theorem d_Program_bytesBeforeZero_23 : decode b_Program_bytesBeforeZero 23 = .ok (.iload_n 3, 1) := by decide +kernel
theorem d_Program_bytesBeforeZero_24 : decode b_Program_bytesBeforeZero 24 = .ok (.ireturn, 1) := by decide +kernel
theorem d_Program_bytesBeforeZero_25 : decode b_Program_bytesBeforeZero 25 = .ok (.iinc 3 1, 3) := by decide +kernel
theorem d_Program_bytesBeforeZero_28 : decode b_Program_bytesBeforeZero 28 = .ok (.goto (-26), 3) := by decide +kernel
theorem d_Program_bytesBeforeZero_31 : decode b_Program_bytesBeforeZero 31 = .ok (.bipush 8, 2) := by decide +kernel
theorem d_Program_bytesBeforeZero_33 : decode b_Program_bytesBeforeZero 33 = .ok (.ireturn, 1) := by decide +kernel
theorem d_Program_addBytes_0 : decode b_Program_addBytes 0 = .ok (.aload_n 0, 1) := by decide +kernel
theorem d_Program_addBytes_1 : decode b_Program_addBytes 1 = .ok (.lload_n 1, 1) := by decide +kernel
theorem d_Program_addBytes_2 : decode b_Program_addBytes 2 = .ok (.invokevirtual 37, 3) := by decide +kernel
theorem d_Program_addBytes_5 : decode b_Program_addBytes 5 = .ok (.istore_n 3, 1) := by decide +kernel
theorem d_Program_addBytes_6 : decode b_Program_addBytes 6 = .ok (.aload_n 0, 1) := by decide +kernel
theorem d_Program_addBytes_7 : decode b_Program_addBytes 7 = .ok (.getfield 41, 3) := by decide +kernel
theorem d_Program_addBytes_10 : decode b_Program_addBytes 10 = .ok (.iload_n 3, 1) := by decide +kernel
theorem d_Program_addBytes_11 : decode b_Program_addBytes 11 = .ok (.iadd, 1) := by decide +kernel
theorem d_Program_addBytes_12 : decode b_Program_addBytes 12 = .ok (.sipush 4096, 3) := by decide +kernel
theorem d_Program_addBytes_15 : decode b_Program_addBytes 15 = .ok (.if_icmp .le 6, 3) := by decide +kernel
theorem d_Program_addBytes_18 : decode b_Program_addBytes 18 = .ok (.bipush (-2), 2) := by decide +kernel
theorem d_Program_addBytes_20 : decode b_Program_addBytes 20 = .ok (.ireturn, 1) := by decide +kernel
theorem d_Program_addBytes_21 : decode b_Program_addBytes 21 = .ok (.aload_n 0, 1) := by decide +kernel
theorem d_Program_addBytes_22 : decode b_Program_addBytes 22 = .ok (.getfield 44, 3) := by decide +kernel
theorem d_Program_addBytes_25 : decode b_Program_addBytes 25 = .ok (.aload_n 0, 1) := by decide +kernel
theorem d_Program_addBytes_26 : decode b_Program_addBytes 26 = .ok (.getfield 41, 3) := by decide +kernel
theorem d_Program_addBytes_29 : decode b_Program_addBytes 29 = .ok (.iadd, 1) := by decide +kernel
theorem d_Program_addBytes_30 : decode b_Program_addBytes 30 = .ok (.iload_n 3, 1) := by decide +kernel
theorem d_Program_addBytes_31 : decode b_Program_addBytes 31 = .ok (.iadd, 1) := by decide +kernel
theorem d_Program_addBytes_32 : decode b_Program_addBytes 32 = .ok (.istore 4, 2) := by decide +kernel
theorem d_Program_addBytes_34 : decode b_Program_addBytes 34 = .ok (.iload 4, 2) := by decide +kernel
theorem d_Program_addBytes_36 : decode b_Program_addBytes 36 = .ok (.aload_n 0, 1) := by decide +kernel
theorem d_Program_addBytes_37 : decode b_Program_addBytes 37 = .ok (.getfield 15, 3) := by decide +kernel
theorem d_Program_addBytes_40 : decode b_Program_addBytes 40 = .ok (.arraylength, 1) := by decide +kernel
theorem d_Program_addBytes_41 : decode b_Program_addBytes 41 = .ok (.if_icmp .le 26, 3) := by decide +kernel
theorem d_Program_addBytes_44 : decode b_Program_addBytes 44 = .ok (.aload_n 0, 1) := by decide +kernel
theorem d_Program_addBytes_45 : decode b_Program_addBytes 45 = .ok (.aload_n 0, 1) := by decide +kernel
theorem d_Program_addBytes_46 : decode b_Program_addBytes 46 = .ok (.getfield 15, 3) := by decide +kernel
theorem d_Program_addBytes_49 : decode b_Program_addBytes 49 = .ok (.aload_n 0, 1) := by decide +kernel
theorem d_Program_addBytes_50 : decode b_Program_addBytes 50 = .ok (.getfield 15, 3) := by decide +kernel
theorem d_Program_addBytes_53 : decode b_Program_addBytes 53 = .ok (.arraylength, 1) := by decide +kernel
theorem d_Program_addBytes_54 : decode b_Program_addBytes 54 = .ok (.iload 4, 2) := by decide +kernel
theorem d_Program_addBytes_56 : decode b_Program_addBytes 56 = .ok (.ldc 47, 2) := by decide +kernel
theorem d_Program_addBytes_58 : decode b_Program_addBytes 58 = .ok (.invokestatic 27, 3) := by decide +kernel
theorem d_Program_addBytes_61 : decode b_Program_addBytes 61 = .ok (.invokestatic 48, 3) := by decide +kernel
theorem d_Program_addBytes_64 : decode b_Program_addBytes 64 = .ok (.putfield 15, 3) := by decide +kernel
theorem d_Program_addBytes_67 : decode b_Program_addBytes 67 = .ok (.iconst 0, 1) := by decide +kernel
theorem d_Program_addBytes_68 : decode b_Program_addBytes 68 = .ok (.istore 5, 2) := by decide +kernel
theorem d_Program_addBytes_70 : decode b_Program_addBytes 70 = .ok (.iload 5, 2) := by decide +kernel
theorem d_Program_addBytes_72 : decode b_Program_addBytes 72 = .ok (.iload_n 3, 1) := by decide +kernel
theorem d_Program_addBytes_73 : decode b_Program_addBytes 73 = .ok (.if_icmp .ge 35, 3) := by decide +kernel
theorem d_Program_addBytes_76 : decode b_Program_addBytes 76 = .ok (.aload_n 0, 1) := by decide +kernel
theorem d_Program_addBytes_77 : decode b_Program_addBytes 77 = .ok (.getfield 15, 3) := by decide +kernel
theorem d_Program_addBytes_80 : decode b_Program_addBytes 80 = .ok (.aload_n 0, 1) := by decide +kernel
theorem d_Program_addBytes_81 : decode b_Program_addBytes 81 = .ok (.getfield 44, 3) := by decide +kernel
theorem d_Program_addBytes_84 : decode b_Program_addBytes 84 = .ok (.aload_n 0, 1) := by decide +kernel
theorem d_Program_addBytes_85 : decode b_Program_addBytes 85 = .ok (.getfield 41, 3) := by decide +kernel
theorem d_Program_addBytes_88 : decode b_Program_addBytes 88 = .ok (.iadd, 1) := by decide +kernel
theorem d_Program_addBytes_89 : decode b_Program_addBytes 89 = .ok (.iload 5, 2) := by decide +kernel
theorem d_Program_addBytes_91 : decode b_Program_addBytes 91 = .ok (.iadd, 1) := by decide +kernel
theorem d_Program_addBytes_92 : decode b_Program_addBytes 92 = .ok (.lload_n 1, 1) := by decide +kernel
theorem d_Program_addBytes_93 : decode b_Program_addBytes 93 = .ok (.bipush 8, 2) := by decide +kernel
theorem d_Program_addBytes_95 : decode b_Program_addBytes 95 = .ok (.iload 5, 2) := by decide +kernel
theorem d_Program_addBytes_97 : decode b_Program_addBytes 97 = .ok (.imul, 1) := by decide +kernel
theorem d_Program_addBytes_98 : decode b_Program_addBytes 98 = .ok (.lushr, 1) := by decide +kernel
theorem d_Program_addBytes_99 : decode b_Program_addBytes 99 = .ok (.l2i, 1) := by decide +kernel
theorem d_Program_addBytes_100 : decode b_Program_addBytes 100 = .ok (.i2b, 1) := by decide +kernel
theorem d_Program_addBytes_101 : decode b_Program_addBytes 101 = .ok (.bastore, 1) := by decide +kernel
theorem d_Program_addBytes_102 : decode b_Program_addBytes 102 = .ok (.iinc 5 1, 3) := by decide +kernel
theorem d_Program_addBytes_105 : decode b_Program_addBytes 105 = .ok (.goto (-35), 3) := by decide +kernel
theorem d_Program_addBytes_108 : decode b_Program_addBytes 108 = .ok (.aload_n 0, 1) := by decide +kernel
theorem d_Program_addBytes_109 : decode b_Program_addBytes 109 = .ok (.dup, 1) := by decide +kernel
theorem d_Program_addBytes_110 : decode b_Program_addBytes 110 = .ok (.getfield 41, 3) := by decide +kernel
theorem d_Program_addBytes_113 : decode b_Program_addBytes 113 = .ok (.iload_n 3, 1) := by decide +kernel
theorem d_Program_addBytes_114 : decode b_Program_addBytes 114 = .ok (.iadd, 1) := by decide +kernel
theorem d_Program_addBytes_115 : decode b_Program_addBytes 115 = .ok (.putfield 41, 3) := by decide +kernel
theorem d_Program_addBytes_118 : decode b_Program_addBytes 118 = .ok (.aload_n 0, 1) := by decide +kernel
theorem d_Program_addBytes_119 : decode b_Program_addBytes 119 = .ok (.getfield 41, 3) := by decide +kernel
theorem d_Program_addBytes_122 : decode b_Program_addBytes 122 = .ok (.ireturn, 1) := by decide +kernel
theorem d_Program_endConstant_0 : decode b_Program_endConstant 0 = .ok (.aload_n 0, 1) := by decide +kernel
theorem d_Program_endConstant_1 : decode b_Program_endConstant 1 = .ok (.getfield 53, 3) := by decide +kernel
theorem d_Program_endConstant_4 : decode b_Program_endConstant 4 = .ok (.sipush 1024, 3) := by decide +kernel
theorem d_Program_endConstant_7 : decode b_Program_endConstant 7 = .ok (.if_icmp .ge 17, 3) := by decide +kernel
theorem d_Program_endConstant_10 : decode b_Program_endConstant 10 = .ok (.aload_n 0, 1) := by decide +kernel
theorem d_Program_endConstant_11 : decode b_Program_endConstant 11 = .ok (.getfield 44, 3) := by decide +kernel
theorem d_Program_endConstant_14 : decode b_Program_endConstant 14 = .ok (.aload_n 0, 1) := by decide +kernel
theorem d_Program_endConstant_15 : decode b_Program_endConstant 15 = .ok (.getfield 41, 3) := by decide +kernel
theorem d_Program_endConstant_18 : decode b_Program_endConstant 18 = .ok (.iadd, 1) := by decide +kernel
theorem d_Program_endConstant_19 : decode b_Program_endConstant 19 = .ok (.ldc 56, 2) := by decide +kernel
theorem d_Program_endConstant_21 : decode b_Program_endConstant 21 = .ok (.if_icmp .le 6, 3) := by decide +kernel
theorem d_Program_endConstant_24 : decode b_Program_endConstant 24 = .ok (.bipush (-2), 2) := by decide +kernel
theorem d_Program_endConstant_26 : decode b_Program_endConstant 26 = .ok (.ireturn, 1) := by decide +kernel
theorem d_Program_endConstant_27 : decode b_Program_endConstant 27 = .ok (.aload_n 0, 1) := by decide +kernel
theorem d_Program_endConstant_28 : decode b_Program_endConstant 28 = .ok (.getfield 53, 3) := by decide +kernel
theorem d_Program_endConstant_31 : decode b_Program_endConstant 31 = .ok (.aload_n 0, 1) := by decide +kernel
theorem d_Program_endConstant_32 : decode b_Program_endConstant 32 = .ok (.getfield 19, 3) := by decide +kernel
theorem d_Program_endConstant_35 : decode b_Program_endConstant 35 = .ok (.arraylength, 1) := by decide +kernel
theorem d_Program_endConstant_36 : decode b_Program_endConstant 36 = .ok (.if_icmp .lt 31, 3) := by decide +kernel
theorem d_Program_endConstant_39 : decode b_Program_endConstant 39 = .ok (.aload_n 0, 1) := by decide +kernel
theorem d_Program_endConstant_40 : decode b_Program_endConstant 40 = .ok (.aload_n 0, 1) := by decide +kernel
theorem d_Program_endConstant_41 : decode b_Program_endConstant 41 = .ok (.getfield 19, 3) := by decide +kernel
theorem d_Program_endConstant_44 : decode b_Program_endConstant 44 = .ok (.aload_n 0, 1) := by decide +kernel
theorem d_Program_endConstant_45 : decode b_Program_endConstant 45 = .ok (.getfield 19, 3) := by decide +kernel
theorem d_Program_endConstant_48 : decode b_Program_endConstant 48 = .ok (.arraylength, 1) := by decide +kernel
theorem d_Program_endConstant_49 : decode b_Program_endConstant 49 = .ok (.aload_n 0, 1) := by decide +kernel
theorem d_Program_endConstant_50 : decode b_Program_endConstant 50 = .ok (.getfield 53, 3) := by decide +kernel
theorem d_Program_endConstant_53 : decode b_Program_endConstant 53 = .ok (.iconst 1, 1) := by decide +kernel
theorem d_Program_endConstant_54 : decode b_Program_endConstant 54 = .ok (.iadd, 1) := by decide +kernel
theorem d_Program_endConstant_55 : decode b_Program_endConstant 55 = .ok (.sipush 1024, 3) := by decide +kernel
theorem d_Program_endConstant_58 : decode b_Program_endConstant 58 = .ok (.invokestatic 27, 3) := by decide +kernel
theorem d_Program_endConstant_61 : decode b_Program_endConstant 61 = .ok (.invokestatic 31, 3) := by decide +kernel
theorem d_Program_endConstant_64 : decode b_Program_endConstant 64 = .ok (.putfield 19, 3) := by decide +kernel
theorem d_Program_endConstant_67 : decode b_Program_endConstant 67 = .ok (.aload_n 0, 1) := by decide +kernel
theorem d_Program_endConstant_68 : decode b_Program_endConstant 68 = .ok (.dup, 1) := by decide +kernel
theorem d_Program_endConstant_69 : decode b_Program_endConstant 69 = .ok (.getfield 44, 3) := by decide +kernel
theorem d_Program_endConstant_72 : decode b_Program_endConstant 72 = .ok (.aload_n 0, 1) := by decide +kernel
theorem d_Program_endConstant_73 : decode b_Program_endConstant 73 = .ok (.getfield 41, 3) := by decide +kernel
theorem d_Program_endConstant_76 : decode b_Program_endConstant 76 = .ok (.iadd, 1) := by decide +kernel
theorem d_Program_endConstant_77 : decode b_Program_endConstant 77 = .ok (.putfield 44, 3) := by decide +kernel
theorem d_Program_endConstant_80 : decode b_Program_endConstant 80 = .ok (.aload_n 0, 1) := by decide +kernel
theorem d_Program_endConstant_81 : decode b_Program_endConstant 81 = .ok (.iconst 0, 1) := by decide +kernel
theorem d_Program_endConstant_82 : decode b_Program_endConstant 82 = .ok (.putfield 41, 3) := by decide +kernel
theorem d_Program_endConstant_85 : decode b_Program_endConstant 85 = .ok (.aload_n 0, 1) := by decide +kernel
theorem d_Program_endConstant_86 : decode b_Program_endConstant 86 = .ok (.getfield 19, 3) := by decide +kernel
theorem d_Program_endConstant_89 : decode b_Program_endConstant 89 = .ok (.aload_n 0, 1) := by decide +kernel
theorem d_Program_endConstant_90 : decode b_Program_endConstant 90 = .ok (.getfield 53, 3) := by decide +kernel
theorem d_Program_endConstant_93 : decode b_Program_endConstant 93 = .ok (.aload_n 0, 1) := by decide +kernel
theorem d_Program_endConstant_94 : decode b_Program_endConstant 94 = .ok (.getfield 44, 3) := by decide +kernel
theorem d_Program_endConstant_97 : decode b_Program_endConstant 97 = .ok (.iastore, 1) := by decide +kernel
theorem d_Program_endConstant_98 : decode b_Program_endConstant 98 = .ok (.aload_n 0, 1) := by decide +kernel
theorem d_Program_endConstant_99 : decode b_Program_endConstant 99 = .ok (.dup, 1) := by decide +kernel
theorem d_Program_endConstant_100 : decode b_Program_endConstant 100 = .ok (.getfield 53, 3) := by decide +kernel
theorem d_Program_endConstant_103 : decode b_Program_endConstant 103 = .ok (.dup_x1, 1) := by decide +kernel
theorem d_Program_endConstant_104 : decode b_Program_endConstant 104 = .ok (.iconst 1, 1) := by decide +kernel
theorem d_Program_endConstant_105 : decode b_Program_endConstant 105 = .ok (.iadd, 1) := by decide +kernel
theorem d_Program_endConstant_106 : decode b_Program_endConstant 106 = .ok (.putfield 53, 3) := by decide +kernel
theorem d_Program_endConstant_109 : decode b_Program_endConstant 109 = .ok (.ireturn, 1) := by decide +kernel
theorem d_Program_beginOf_0 : decode b_Program_beginOf 0 = .ok (.iload_n 1, 1) := by decide +kernel
theorem d_Program_beginOf_1 : decode b_Program_beginOf 1 = .ok (.ifCond .ne 7, 3) := by decide +kernel
theorem d_Program_beginOf_4 : decode b_Program_beginOf 4 = .ok (.iconst 0, 1) := by decide +kernel
theorem d_Program_beginOf_5 : decode b_Program_beginOf 5 = .ok (.goto 11, 3) := by decide +kernel
theorem d_Program_beginOf_8 : decode b_Program_beginOf 8 = .ok (.aload_n 0, 1) := by decide +kernel
theorem d_Program_beginOf_9 : decode b_Program_beginOf 9 = .ok (.getfield 19, 3) := by decide +kernel
theorem d_Program_beginOf_12 : decode b_Program_beginOf 12 = .ok (.iload_n 1, 1) := by decide +kernel
theorem d_Program_beginOf_13 : decode b_Program_beginOf 13 = .ok (.iconst 1, 1) := by decide +kernel
theorem d_Program_beginOf_14 : decode b_Program_beginOf 14 = .ok (.isub, 1) := by decide +kernel
theorem d_Program_beginOf_15 : decode b_Program_beginOf 15 = .ok (.iaload, 1) := by decide +kernel
theorem d_Program_beginOf_16 : decode b_Program_beginOf 16 = .ok (.ireturn, 1) := by decide +kernel
theorem d_Output_accept_0 : decode b_Output_accept 0 = .ok (.iload_n 1, 1) := by decide +kernel
theorem d_Output_accept_1 : decode b_Output_accept 1 = .ok (.ldc 13, 2) := by decide +kernel
theorem d_Output_accept_3 : decode b_Output_accept 3 = .ok (.aload_n 0, 1) := by decide +kernel
theorem d_Output_accept_4 : decode b_Output_accept 4 = .ok (.getfield 14, 3) := by decide +kernel
theorem d_Output_accept_7 : decode b_Output_accept 7 = .ok (.isub, 1) := by decide +kernel
theorem d_Output_accept_8 : decode b_Output_accept 8 = .ok (.invokestatic 18, 3) := by decide +kernel
theorem d_Output_accept_11 : decode b_Output_accept 11 = .ok (.istore_n 2, 1) := by decide +kernel
theorem d_Output_accept_12 : decode b_Output_accept 12 = .ok (.aload_n 0, 1) := by decide +kernel
theorem d_Output_accept_13 : decode b_Output_accept 13 = .ok (.getfield 14, 3) := by decide +kernel
theorem d_Output_accept_16 : decode b_Output_accept 16 = .ok (.iload_n 2, 1) := by decide +kernel
theorem d_Output_accept_17 : decode b_Output_accept 17 = .ok (.iadd, 1) := by decide +kernel
theorem d_Output_accept_18 : decode b_Output_accept 18 = .ok (.aload_n 0, 1) := by decide +kernel
theorem d_Output_accept_19 : decode b_Output_accept 19 = .ok (.getfield 7, 3) := by decide +kernel
theorem d_Output_accept_22 : decode b_Output_accept 22 = .ok (.arraylength, 1) := by decide +kernel
theorem d_Output_accept_23 : decode b_Output_accept 23 = .ok (.if_icmp .le 30, 3) := by decide +kernel
theorem d_Output_accept_26 : decode b_Output_accept 26 = .ok (.aload_n 0, 1) := by decide +kernel
theorem d_Output_accept_27 : decode b_Output_accept 27 = .ok (.aload_n 0, 1) := by decide +kernel
theorem d_Output_accept_28 : decode b_Output_accept 28 = .ok (.getfield 7, 3) := by decide +kernel
theorem d_Output_accept_31 : decode b_Output_accept 31 = .ok (.aload_n 0, 1) := by decide +kernel
theorem d_Output_accept_32 : decode b_Output_accept 32 = .ok (.getfield 7, 3) := by decide +kernel
theorem d_Output_accept_35 : decode b_Output_accept 35 = .ok (.arraylength, 1) := by decide +kernel
theorem d_Output_accept_36 : decode b_Output_accept 36 = .ok (.aload_n 0, 1) := by decide +kernel
theorem d_Output_accept_37 : decode b_Output_accept 37 = .ok (.getfield 14, 3) := by decide +kernel
theorem d_Output_accept_40 : decode b_Output_accept 40 = .ok (.iload_n 2, 1) := by decide +kernel
theorem d_Output_accept_41 : decode b_Output_accept 41 = .ok (.iadd, 1) := by decide +kernel
theorem d_Output_accept_42 : decode b_Output_accept 42 = .ok (.ldc 13, 2) := by decide +kernel
theorem d_Output_accept_44 : decode b_Output_accept 44 = .ok (.invokestatic 24, 3) := by decide +kernel
theorem d_Output_accept_47 : decode b_Output_accept 47 = .ok (.invokestatic 30, 3) := by decide +kernel
theorem d_Output_accept_50 : decode b_Output_accept 50 = .ok (.putfield 7, 3) := by decide +kernel
theorem d_Output_accept_53 : decode b_Output_accept 53 = .ok (.iload_n 2, 1) := by decide +kernel
theorem d_Output_accept_54 : decode b_Output_accept 54 = .ok (.ireturn, 1) := by decide +kernel
theorem d_Output_add_0 : decode b_Output_add 0 = .ok (.aload_n 0, 1) := by decide +kernel
theorem d_Output_add_1 : decode b_Output_add 1 = .ok (.getfield 14, 3) := by decide +kernel
theorem d_Output_add_4 : decode b_Output_add 4 = .ok (.aload_n 0, 1) := by decide +kernel
theorem d_Output_add_5 : decode b_Output_add 5 = .ok (.getfield 7, 3) := by decide +kernel
theorem d_Output_add_8 : decode b_Output_add 8 = .ok (.arraylength, 1) := by decide +kernel
theorem d_Output_add_9 : decode b_Output_add 9 = .ok (.if_icmp .ge 21, 3) := by decide +kernel
theorem d_Output_add_12 : decode b_Output_add 12 = .ok (.aload_n 0, 1) := by decide +kernel
theorem d_Output_add_13 : decode b_Output_add 13 = .ok (.getfield 7, 3) := by decide +kernel
theorem d_Output_add_16 : decode b_Output_add 16 = .ok (.aload_n 0, 1) := by decide +kernel
theorem d_Output_add_17 : decode b_Output_add 17 = .ok (.dup, 1) := by decide +kernel
theorem d_Output_add_18 : decode b_Output_add 18 = .ok (.getfield 14, 3) := by decide +kernel
theorem d_Output_add_21 : decode b_Output_add 21 = .ok (.dup_x1, 1) := by decide +kernel
theorem d_Output_add_22 : decode b_Output_add 22 = .ok (.iconst 1, 1) := by decide +kernel
theorem d_Output_add_23 : decode b_Output_add 23 = .ok (.iadd, 1) := by decide +kernel
theorem d_Output_add_24 : decode b_Output_add 24 = .ok (.putfield 14, 3) := by decide +kernel
theorem d_Output_add_27 : decode b_Output_add 27 = .ok (.iload_n 1, 1) := by decide +kernel
theorem d_Output_add_28 : decode b_Output_add 28 = .ok (.i2b, 1) := by decide +kernel
theorem d_Output_add_29 : decode b_Output_add 29 = .ok (.bastore, 1) := by decide +kernel
theorem d_Output_add_30 : decode b_Output_add 30 = .ok (.return_, 1) := by decide +kernel
theorem k23 : Cond.fieldLink R_Program 22 "CellEngine$Program" "size" "I" ∈ lw_g := kg (List.mem_append_right _ (List.mem_of_getElem? (i := 89) (by decide +kernel))) rfl
theorem k24 : Cond.constant R_Program 26 262144 ∈ lw_g := kg (List.mem_append_right _ (List.mem_of_getElem? (i := 352) (by decide +kernel))) rfl
theorem k25 : Cond.fieldLink R_Program 9 "CellEngine$Program" "words" "[I" ∈ lw_g := kg (List.mem_append_right _ (List.mem_of_getElem? (i := 87) (by decide +kernel))) rfl
theorem k26 : Cond.code y_Engine_longer b_Engine_longer 3 (some .int) ∈ lw_g := kg (List.mem_append_right _ (List.mem_of_getElem? (i := 355) (by decide +kernel))) rfl
theorem k27 : Cond.initialized R_Engine ∈ lw_g := kg (List.mem_append_right _ (List.mem_of_getElem? (i := 1) (by decide +kernel))) rfl
theorem k28 : Cond.static y_Engine_longer ∈ lw_g := kg (List.mem_append_right _ (List.mem_of_getElem? (i := 354) (by decide +kernel))) rfl
theorem k29 : Cond.code y_Arrays_copyOfI b_Arrays_copyOfI 3 (some (.array .int)) ∈ lw_g := kg (List.mem_append_right _ (List.mem_of_getElem? (i := 364) (by decide +kernel))) rfl
theorem k30 : Cond.methodLink R_Program 31 y_Arrays_copyOfI ∈ lw_g := kg (List.mem_append_right _ (List.mem_of_getElem? (i := 362) (by decide +kernel))) rfl
theorem k31 : Cond.static y_Arrays_copyOfI ∈ lw_g := kg (List.mem_append_right _ (List.mem_of_getElem? (i := 363) (by decide +kernel))) rfl
theorem k32 : Cond.constantLong R_Program 51 255 ∈ lw_g := kg (List.mem_append_right _ (List.mem_of_getElem? (i := 396) (by decide +kernel))) rfl
theorem k33 : Cond.fieldLink R_Program 41 "CellEngine$Program" "open" "I" ∈ lw_g := kg (List.mem_append_right _ (List.mem_of_getElem? (i := 100) (by decide +kernel))) rfl
theorem k34 : Cond.fieldLink R_Program 44 "CellEngine$Program" "closed" "I" ∈ lw_g := kg (List.mem_append_right _ (List.mem_of_getElem? (i := 99) (by decide +kernel))) rfl
theorem k35 : Cond.fieldLink R_Program 15 "CellEngine$Program" "bytes" "[B" ∈ lw_g := kg (List.mem_append_right _ (List.mem_of_getElem? (i := 92) (by decide +kernel))) rfl
theorem k36 : Cond.constant R_Program 47 69632 ∈ lw_g := kg (List.mem_append_right _ (List.mem_of_getElem? (i := 397) (by decide +kernel))) rfl
theorem k37 : Cond.code y_Program_bytesBeforeZero b_Program_bytesBeforeZero 4 (some .int) ∈ lw_g := kg (List.mem_append_right _ (List.mem_of_getElem? (i := 395) (by decide +kernel))) rfl
theorem k38 : Cond.methodLink R_Program 37 y_Program_bytesBeforeZero ∈ lw_g := kg (List.mem_append_right _ (List.mem_of_getElem? (i := 392) (by decide +kernel))) rfl
theorem k39 : Cond.instanceMethod y_Program_bytesBeforeZero ∈ lw_g := kg (List.mem_append_right _ (List.mem_of_getElem? (i := 394) (by decide +kernel))) rfl
theorem k40 : Cond.selects R_Program y_Program_bytesBeforeZero y_Program_bytesBeforeZero ∈ lw_g := kg (List.mem_append_left _ (List.mem_of_getElem? (i := 0) (by decide +kernel))) rfl
theorem k41 : Cond.initialized R_Program ∈ lw_g := kg (List.mem_append_right _ (List.mem_of_getElem? (i := 3) (by decide +kernel))) rfl
theorem k42 : Cond.code y_Arrays_copyOfB b_Arrays_copyOfB 3 (some (.array .byte)) ∈ lw_g := kg (List.mem_append_right _ (List.mem_of_getElem? (i := 400) (by decide +kernel))) rfl
theorem k43 : Cond.methodLink R_Program 48 y_Arrays_copyOfB ∈ lw_g := kg (List.mem_append_right _ (List.mem_of_getElem? (i := 398) (by decide +kernel))) rfl
theorem k44 : Cond.static y_Arrays_copyOfB ∈ lw_g := kg (List.mem_append_right _ (List.mem_of_getElem? (i := 399) (by decide +kernel))) rfl
theorem k45 : Cond.fieldLink R_Program 53 "CellEngine$Program" "constants" "I" ∈ lw_g := kg (List.mem_append_right _ (List.mem_of_getElem? (i := 97) (by decide +kernel))) rfl
theorem k46 : Cond.constant R_Program 56 65536 ∈ lw_g := kg (List.mem_append_right _ (List.mem_of_getElem? (i := 414) (by decide +kernel))) rfl
theorem k47 : Cond.fieldLink R_Program 19 "CellEngine$Program" "ends" "[I" ∈ lw_g := kg (List.mem_append_right _ (List.mem_of_getElem? (i := 94) (by decide +kernel))) rfl
theorem k48 : Cond.constant R_Output 13 65536 ∈ lw_g := kg (List.mem_append_right _ (List.mem_of_getElem? (i := 879) (by decide +kernel))) rfl
theorem k49 : Cond.fieldLink R_Output 14 "CellEngine$Output" "size" "I" ∈ lw_g := kg (List.mem_append_right _ (List.mem_of_getElem? (i := 125) (by decide +kernel))) rfl
theorem k50 : Cond.fieldLink R_Output 7 "CellEngine$Output" "bytes" "[B" ∈ lw_g := kg (List.mem_append_right _ (List.mem_of_getElem? (i := 123) (by decide +kernel))) rfl
theorem k51 : Cond.methodLink R_Output 18 y_Math_min ∈ lw_g := kg (List.mem_append_right _ (List.mem_of_getElem? (i := 880) (by decide +kernel))) rfl
theorem k52 : Cond.methodLink R_Output 30 y_Arrays_copyOfB ∈ lw_g := kg (List.mem_append_right _ (List.mem_of_getElem? (i := 882) (by decide +kernel))) rfl
set_option maxHeartbeats 4000000 in
set_option maxRecDepth 100000 in
theorem c_Program_append (l : Launch) (dC : Nat → ClassId) (dI : Nat → Nat → Nat) (N : Nat) (cI : ClassId) (o_Program : Nat) (r_P_words : Nat) (r_P_bytes : Nat) (r_P_ends : Nat) (P_size : Int32) (P_constants : Int32) (P_closed : Int32) (P_open : Int32) (n_P_words : Nat) (f_P_words : Nat → Int32) (p0 : Int32) (sz : Nat) (Z1 : Int32 × Int32 × Nat × (Nat → Int32)) (Zc Zs : Nat) (h : m_Program_append N P_size P_constants P_closed P_open n_P_words f_P_words p0 = some (Z1, Zc, Zs)) : Met l y_Program_append (.code y_Program_append b_Program_append 2 (some .int) :: lw_g) ({ frames := 2, cells := Zc, slots := Zs, locals := 82 }) (va_Pc [.ref o_Program, .int p0] (fun U => dz_N U ∧ U.heap.size = sz ∧ va_P (dC, dI) classes [(o_Program, .inr (0, [.ref r_P_words, .int P_size, .ref r_P_bytes, .ref r_P_ends, .int P_constants, .int P_closed, .int P_open])), (r_P_words, .inl (cI, n_P_words, .inl f_P_words))] U.heap ∧ va_K (dC, dI) classes [(cI, .int)] U ∧ va_D (fun _ => True) [(o_Program, .inr (0, [.ref r_P_words, .int P_size, .ref r_P_bytes, .ref r_P_ends, .int P_constants, .int P_closed, .int P_open])), (r_P_words, .inl (cI, n_P_words, .inl f_P_words))])) (va_Qi (fun (r : Int32) (_ : Nat) => r = Z1.1) (fun (u : Nat) t => va_P (dC, dI) classes [(o_Program, .inr (0, [.ref u, .int Z1.2.1, .ref r_P_bytes, .ref r_P_ends, .int P_constants, .int P_closed, .int P_open])), (u, .inl (cI, Z1.2.2.1, .inl Z1.2.2.2))] t.heap ∧ va_K (dC, dI) classes [(cI, .int)] t ∧ va_D (va_A [(o_Program, .inr (0, [.ref r_P_words, .int P_size, .ref r_P_bytes, .ref r_P_ends, .int P_constants, .int P_closed, .int P_open])), (r_P_words, .inl (cI, n_P_words, .inl f_P_words))] sz) [(o_Program, .inr (0, [.ref u, .int Z1.2.1, .ref r_P_bytes, .ref r_P_ends, .int P_constants, .int P_closed, .int P_open])), (u, .inl (cI, Z1.2.2.1, .inl Z1.2.2.2))]) (va_A [(o_Program, .inr (0, [.ref r_P_words, .int P_size, .ref r_P_bytes, .ref r_P_ends, .int P_constants, .int P_closed, .int P_open])), (r_P_words, .inl (cI, n_P_words, .inl f_P_words))] sz)) Zc Zs (va_A [(o_Program, .inr (0, [.ref r_P_words, .int P_size, .ref r_P_bytes, .ref r_P_ends, .int P_constants, .int P_closed, .int P_open])), (r_P_words, .inl (cI, n_P_words, .inl f_P_words))] sz) := by
  refine Met.ofW (cc := b_Program_append) (maxL := 2) (ret := (some .int)) (by decide +kernel) rfl ?_
  intro p e s m args below meth c s₁ B hml hv
  obtain ⟨rfl, hN, hsz, hP, hK, hD0⟩ := hv
  have hx := B.exec
  have hb := B.bytes
  have hr := B.returns
  have hg : ∀ w ∈ lw_g, w.before _ s = true := fun w hw => atoms_spec (ws := .code y_Program_append b_Program_append 2 (some .int) :: lw_g) B.pre w (List.mem_cons_of_mem _ hw)
  have hown : s.vm.findClass R_Program = some m.cls := findClass_of_methodNamed B.named
  have hlocks := B.notSynchronized
  clear B
  subst hsz
  have hD := hD0.self (sz := s.heap.size)
  generalize hAe : va_A [(o_Program, .inr (0, [.ref r_P_words, .int P_size, .ref r_P_bytes, .ref r_P_ends, .int P_constants, .int P_closed, .int P_open])), (r_P_words, .inl (cI, n_P_words, .inl f_P_words))] s.heap.size = A at hD ⊢
  have hA : ∀ q : Nat, s.heap.size ≤ q → A q := fun q h => by rw [← hAe]; exact Or.inr h
  have hS : va_S A s.heap s.heap [] := va_S.rf
  have hP : va_P (dC, dI) classes [(o_Program, .inr (0, [.ref r_P_words, .int P_size, .ref r_P_bytes, .ref r_P_ends, .int P_constants, .int P_closed, .int P_open])), (r_P_words, .inl (cI, n_P_words, .inl f_P_words))] s.heap := hP
  have hl := lv_entry ([.ref o_Program, .int p0]) (n := 2) (Nat.le_of_ble_eq_true rfl)
  rw [lg_entry_eq]
  generalize (lg_sl ([.ref o_Program, .int p0]) ++ List.replicate (2 - (lg_sl ([.ref o_Program, .int p0])).length) Slot.unset).toArray = ls at hl ⊢
  have hl : lv_has ls 2 [(0, .ref o_Program), (1, .int p0)] := hl
  unfold m_Program_append at h
  have hG : dz_G Z1 Zc Zs (Z1, Zc, Zs) 0 0 := ⟨rfl, (Nat.zero_add _).symm, (Nat.zero_add _).symm⟩
  generalize (Z1, Zc, Zs) = z at h hG
  refine lv_aload_n hx hb d_Program_append_0 rfl (lv_at hl 0 rfl) ?_
  refine va_get (D := (dC, dI)) (ci := 0) (v := .int P_size) (C := R_Program) (T := F_Program) (N := 7) hx hb hg i_Program hown hK hP 0 rfl rfl 1 (by decide) (hg _ k23) (fun _ h9 => h9) rfl d_Program_append_1 ?_
  refine lv_ldc (v := 262144) hx hb hown (hg _ k24) d_Program_append_4 ?_
  refine lv_icmp_lt (tgt := 12) hx hb d_Program_append_6 (by decide) (fun c1 => ?_) (fun c1 => ?_)
  · rw [if_pos c1] at h
    refine lv_aload_n hx hb d_Program_append_12 rfl (lv_at hl 0 rfl) ?_
    refine va_get (D := (dC, dI)) (ci := 0) (v := .int P_size) (C := R_Program) (T := F_Program) (N := 7) hx hb hg i_Program hown hK hP 0 rfl rfl 1 (by decide) (hg _ k23) (fun _ h9 => h9) rfl d_Program_append_13 ?_
    refine lv_aload_n hx hb d_Program_append_16 rfl (lv_at hl 0 rfl) ?_
    refine va_get (D := (dC, dI)) (ci := 0) (v := .ref r_P_words) (C := R_Program) (T := F_Program) (N := 7) hx hb hg i_Program hown hK hP 0 rfl rfl 0 (by decide) (hg _ k25) (fun _ h9 => h9) rfl d_Program_append_17 ?_
    refine va_alen (D := (dC, dI)) (v := Int32.ofNat n_P_words) hx hb hK hP 1 0 rfl rfl rfl d_Program_append_20 ?_
    refine lv_icmp_lt (tgt := 51) hx hb d_Program_append_21 (by decide) (fun c2 => ?_) (fun c2 => ?_)
    · rw [if_pos c2] at h
      refine lv_aload_n hx hb d_Program_append_51 rfl (lv_at hl 0 rfl) ?_
      refine va_get (D := (dC, dI)) (ci := 0) (v := .ref r_P_words) (C := R_Program) (T := F_Program) (N := 7) hx hb hg i_Program hown hK hP 0 rfl rfl 0 (by decide) (hg _ k25) (fun _ h9 => h9) rfl d_Program_append_52 ?_
      refine lv_aload_n hx hb d_Program_append_55 rfl (lv_at hl 0 rfl) ?_
      refine lv_dup hx hb d_Program_append_56 rfl ?_
      refine va_get (D := (dC, dI)) (ci := 0) (v := .int P_size) (C := R_Program) (T := F_Program) (N := 7) hx hb hg i_Program hown hK hP 0 rfl rfl 1 (by decide) (hg _ k23) (fun _ h9 => h9) rfl d_Program_append_57 ?_
      refine lv_dup_x1 hx hb d_Program_append_60 rfl rfl ?_
      refine lv_iconst (v := 1) hx hb d_Program_append_61 (by decide) ?_
      refine lv_iadd hx hb d_Program_append_62 ?_
      refine va_put (D := (dC, dI)) (ci := 0) (v := .int (P_size + 1)) (ty := .int) (C := R_Program) (T := F_Program) (N := 7) hx hb hg i_Program t_Program t_Program_ok n_Program hown hK hP hD hS 0 rfl rfl 1 (by decide) (hg _ k23) (fun _ h9 => h9) rfl (by decide +kernel) rfl rfl (Nat.le_of_ble_eq_true rfl) d_Program_append_63 (fun H locs hP hD hS => ?_)
      have hP : va_P (dC, dI) classes [(o_Program, .inr (0, [.ref r_P_words, .int (P_size + 1), .ref r_P_bytes, .ref r_P_ends, .int P_constants, .int P_closed, .int P_open])), (r_P_words, .inl (cI, n_P_words, .inl f_P_words))] H := hP
      have hD : va_D A [(o_Program, .inr (0, [.ref r_P_words, .int (P_size + 1), .ref r_P_bytes, .ref r_P_ends, .int P_constants, .int P_closed, .int P_open])), (r_P_words, .inl (cI, n_P_words, .inl f_P_words))] := hD
      refine lv_iload_n hx hb d_Program_append_66 rfl (lv_at hl 1 rfl) ?_
      obtain ⟨i3, h⟩ := dz_oi h
      refine va_iast (D := (dC, dI)) hx hb hK hP hD hS 1 0 rfl rfl i3 d_Program_append_67 (fun H locs hP hD hS => ?_)
      have hP : va_P (dC, dI) classes [(o_Program, .inr (0, [.ref r_P_words, .int (P_size + 1), .ref r_P_bytes, .ref r_P_ends, .int P_constants, .int P_closed, .int P_open])), (r_P_words, .inl (cI, n_P_words, .inl (upd f_P_words P_size.toNatClampNeg p0)))] H := hP
      have hD : va_D A [(o_Program, .inr (0, [.ref r_P_words, .int (P_size + 1), .ref r_P_bytes, .ref r_P_ends, .int P_constants, .int P_closed, .int P_open])), (r_P_words, .inl (cI, n_P_words, .inl (upd f_P_words P_size.toNatClampNeg p0)))] := hD
      refine lv_aload_n hx hb d_Program_append_68 rfl (lv_at hl 0 rfl) ?_
      refine va_get (D := (dC, dI)) (ci := 0) (v := .int (P_size + 1)) (C := R_Program) (T := F_Program) (N := 7) hx hb hg i_Program hown hK hP 0 rfl rfl 1 (by decide) (hg _ k23) (fun _ h9 => h9) rfl d_Program_append_69 ?_
      obtain rfl := Option.some.inj h
      have hP9 := hP.sub (ws' := [(o_Program, .inr (0, [.ref r_P_words, .int (P_size + 1), .ref r_P_bytes, .ref r_P_ends, .int P_constants, .int P_closed, .int P_open])), (r_P_words, .inl (cI, n_P_words, .inl (upd f_P_words P_size.toNatClampNeg p0)))]) [0, 1] rfl
      have hD9 := hD.sub (ws' := [(o_Program, .inr (0, [.ref r_P_words, .int (P_size + 1), .ref r_P_bytes, .ref r_P_ends, .int P_constants, .int P_closed, .int P_open])), (r_P_words, .inl (cI, n_P_words, .inl (upd f_P_words P_size.toNatClampNeg p0)))]) [0, 1] (by decide) rfl
      have hK9 := hK.sub (tys' := [(cI, .int)]) [0] rfl
      refine W.widen (dz_Gc hG) (dz_Gs hG) ?_
      obtain ⟨rfl, -, -⟩ := hG
      exact W.iret (v := P_size + 1) hx hb hr (fun t ht hW => ⟨⟨P_size + 1, r_P_words, rfl, rfl, by rw [ht]; exact hP9, va_K.moved hW.alike hK9, hD9⟩, hS.F ht⟩) hS.2.2 d_Program_append_72
    · rw [if_neg c2] at h
      refine lv_aload_n hx hb d_Program_append_24 rfl (lv_at hl 0 rfl) ?_
      refine lv_aload_n hx hb d_Program_append_25 rfl (lv_at hl 0 rfl) ?_
      refine va_get (D := (dC, dI)) (ci := 0) (v := .ref r_P_words) (C := R_Program) (T := F_Program) (N := 7) hx hb hg i_Program hown hK hP 0 rfl rfl 0 (by decide) (hg _ k25) (fun _ h9 => h9) rfl d_Program_append_26 ?_
      refine lv_aload_n hx hb d_Program_append_29 rfl (lv_at hl 0 rfl) ?_
      refine va_get (D := (dC, dI)) (ci := 0) (v := .ref r_P_words) (C := R_Program) (T := F_Program) (N := 7) hx hb hg i_Program hown hK hP 0 rfl rfl 0 (by decide) (hg _ k25) (fun _ h9 => h9) rfl d_Program_append_30 ?_
      refine va_alen (D := (dC, dI)) (v := Int32.ofNat n_P_words) hx hb hK hP 1 0 rfl rfl rfl d_Program_append_33 ?_
      refine lv_aload_n hx hb d_Program_append_34 rfl (lv_at hl 0 rfl) ?_
      refine va_get (D := (dC, dI)) (ci := 0) (v := .int P_size) (C := R_Program) (T := F_Program) (N := 7) hx hb hg i_Program hown hK hP 0 rfl rfl 1 (by decide) (hg _ k23) (fun _ h9 => h9) rfl d_Program_append_35 ?_
      refine lv_iconst (v := 1) hx hb d_Program_append_38 (by decide) ?_
      refine lv_iadd hx hb d_Program_append_39 ?_
      refine lv_ldc (v := 262144) hx hb hown (hg _ k24) d_Program_append_40 ?_
      obtain ⟨z4_1, hc4, h⟩ := dz_ob h
      try dsimp only at h
      have hPc := hP.sub (ws' := []) [] rfl
      have hKc := hK.sub (tys' := []) [] rfl
      refine vp_callSi (va_Run.run (va_runSN (As := [.int (Int32.ofNat n_P_words), .int (P_size + 1), .int 262144]) (rest := [.ref r_P_words, .ref o_Program]) ⟨hx, hb, hml, hown, hg⟩ (c_Engine_longer l dC dI N (Int32.ofNat n_P_words) (P_size + 1) (262144 : Int32) z4_1 hc4) ⟨va_cnB 3 hg (gd_N k26) rfl rfl rfl hN.2.2.2.1 (hg _ k27) (by decide +kernel) ⟨Nat.le_of_ble_eq_true rfl, Nat.le_of_ble_eq_true rfl⟩, hg _ k28, trivial⟩ ⟨dz_blindR, fun U hU hW => ⟨rfl, dz_Nw hW hN, by rw [hU]; exact hPc, va_K.moved hW.alike hKc⟩⟩ rfl rfl hl.1 rfl (lv_room (Nat.le_of_ble_eq_true rfl)) d_Program_append_42 ⟨dz_Gc hG, dz_Gs hG⟩)) (fun r4 hw => ?_)
      have hw : z4_1 = r4 := hw.symm
      subst hw
      obtain ⟨⟨⟨z5_1, z5_2⟩, zc5, zs5⟩, hc5, h⟩ := dz_ob h
      try dsimp only at h
      obtain ⟨z, h, hG⟩ := dz_tkG h hG
      have hPc := hP.sub (ws' := [(r_P_words, .inl (cI, n_P_words, .inl f_P_words))]) [1] rfl
      have hKc := hK.sub (tys' := [(cI, .int)]) [0] rfl
      have hDc := hD.sub (ws' := [(r_P_words, .inl (cI, n_P_words, .inl f_P_words))]) [1] (by decide) rfl
      have hFc := va_free (wc := [(r_P_words, .inl (cI, n_P_words, .inl f_P_words))]) hD hS hA [1] rfl
      refine va_callr (va_runS (As := [.ref r_P_words, .int z4_1]) (rest := [.ref o_Program]) ⟨hx, hb, hml, hown, hg⟩ (c_Arrays_copyOfI l dC dI N cI r_P_words n_P_words f_P_words z4_1 s.heap.size (z5_1, z5_2) zc5 zs5 hc5) (va_cwS 2 hg (gd_S k30 k31 k22 k29) rfl rfl rfl (by decide +kernel) ⟨Nat.le_of_ble_eq_true rfl, Nat.le_of_ble_eq_true rfl⟩) ⟨dz_blind, fun U hU hW => ⟨rfl, dz_Nw hW hN, by rw [hU], by rw [hU]; exact hPc, va_K.moved hW.alike hKc, hDc.weaken (fun _ _ _ _ => trivial)⟩⟩ rfl rfl hl.1 rfl (lv_room (Nat.le_of_ble_eq_true rfl)) d_Program_append_45 ⟨dz_Gc hG, dz_Gs hG⟩) hS (fun q _ h => hFc q h) hFc (fun u5 a5_r t5 H1 locs ht hvm hw hB hz1 hk1 hS => ?_)
      obtain ⟨hP1, hK1, hD1⟩ := hB
      rw [ht] at hP1
      obtain ⟨hP, hD⟩ := va_join (wr := [(o_Program, .inr (0, [.ref r_P_words, .int P_size, .ref r_P_bytes, .ref r_P_ends, .int P_constants, .int P_closed, .int P_open]))]) (w1 := [(r_P_words, .inl (cI, n_P_words, .inl f_P_words)), (a5_r, .inl (cI, z5_1, .inl z5_2))]) hP hD [1] [0] rfl rfl (by decide) (by decide) hk1 hFc hP1 hD1
      generalize H1 = H at hP hS ⊢
      have hP : va_P (dC, dI) classes [(o_Program, .inr (0, [.ref r_P_words, .int P_size, .ref r_P_bytes, .ref r_P_ends, .int P_constants, .int P_closed, .int P_open])), (r_P_words, .inl (cI, n_P_words, .inl f_P_words)), (a5_r, .inl (cI, z5_1, .inl z5_2))] H := hP
      have hD : va_D A [(o_Program, .inr (0, [.ref r_P_words, .int P_size, .ref r_P_bytes, .ref r_P_ends, .int P_constants, .int P_closed, .int P_open])), (r_P_words, .inl (cI, n_P_words, .inl f_P_words)), (a5_r, .inl (cI, z5_1, .inl z5_2))] := hD
      refine va_put (D := (dC, dI)) (ci := 0) (v := .ref a5_r) (ty := .array .int) (C := R_Program) (T := F_Program) (N := 7) hx hb hg i_Program t_Program t_Program_ok n_Program hown hK hP hD hS 0 rfl rfl 0 (by decide) (hg _ k25) (fun _ h9 => h9) rfl (by decide +kernel) rfl rfl (Nat.le_of_ble_eq_true rfl) d_Program_append_48 (fun H locs hP hD hS => ?_)
      have hP : va_P (dC, dI) classes [(o_Program, .inr (0, [.ref a5_r, .int P_size, .ref r_P_bytes, .ref r_P_ends, .int P_constants, .int P_closed, .int P_open])), (r_P_words, .inl (cI, n_P_words, .inl f_P_words)), (a5_r, .inl (cI, z5_1, .inl z5_2))] H := hP
      have hD : va_D A [(o_Program, .inr (0, [.ref a5_r, .int P_size, .ref r_P_bytes, .ref r_P_ends, .int P_constants, .int P_closed, .int P_open])), (r_P_words, .inl (cI, n_P_words, .inl f_P_words)), (a5_r, .inl (cI, z5_1, .inl z5_2))] := hD
      refine lv_aload_n hx hb d_Program_append_51 rfl (lv_at hl 0 rfl) ?_
      refine va_get (D := (dC, dI)) (ci := 0) (v := .ref a5_r) (C := R_Program) (T := F_Program) (N := 7) hx hb hg i_Program hown hK hP 0 rfl rfl 0 (by decide) (hg _ k25) (fun _ h9 => h9) rfl d_Program_append_52 ?_
      refine lv_aload_n hx hb d_Program_append_55 rfl (lv_at hl 0 rfl) ?_
      refine lv_dup hx hb d_Program_append_56 rfl ?_
      refine va_get (D := (dC, dI)) (ci := 0) (v := .int P_size) (C := R_Program) (T := F_Program) (N := 7) hx hb hg i_Program hown hK hP 0 rfl rfl 1 (by decide) (hg _ k23) (fun _ h9 => h9) rfl d_Program_append_57 ?_
      refine lv_dup_x1 hx hb d_Program_append_60 rfl rfl ?_
      refine lv_iconst (v := 1) hx hb d_Program_append_61 (by decide) ?_
      refine lv_iadd hx hb d_Program_append_62 ?_
      refine va_put (D := (dC, dI)) (ci := 0) (v := .int (P_size + 1)) (ty := .int) (C := R_Program) (T := F_Program) (N := 7) hx hb hg i_Program t_Program t_Program_ok n_Program hown hK hP hD hS 0 rfl rfl 1 (by decide) (hg _ k23) (fun _ h9 => h9) rfl (by decide +kernel) rfl rfl (Nat.le_of_ble_eq_true rfl) d_Program_append_63 (fun H locs hP hD hS => ?_)
      have hP : va_P (dC, dI) classes [(o_Program, .inr (0, [.ref a5_r, .int (P_size + 1), .ref r_P_bytes, .ref r_P_ends, .int P_constants, .int P_closed, .int P_open])), (r_P_words, .inl (cI, n_P_words, .inl f_P_words)), (a5_r, .inl (cI, z5_1, .inl z5_2))] H := hP
      have hD : va_D A [(o_Program, .inr (0, [.ref a5_r, .int (P_size + 1), .ref r_P_bytes, .ref r_P_ends, .int P_constants, .int P_closed, .int P_open])), (r_P_words, .inl (cI, n_P_words, .inl f_P_words)), (a5_r, .inl (cI, z5_1, .inl z5_2))] := hD
      refine lv_iload_n hx hb d_Program_append_66 rfl (lv_at hl 1 rfl) ?_
      obtain ⟨i6, h⟩ := dz_oi h
      refine va_iast (D := (dC, dI)) hx hb hK hP hD hS 2 0 rfl rfl i6 d_Program_append_67 (fun H locs hP hD hS => ?_)
      have hP : va_P (dC, dI) classes [(o_Program, .inr (0, [.ref a5_r, .int (P_size + 1), .ref r_P_bytes, .ref r_P_ends, .int P_constants, .int P_closed, .int P_open])), (r_P_words, .inl (cI, n_P_words, .inl f_P_words)), (a5_r, .inl (cI, z5_1, .inl (upd z5_2 P_size.toNatClampNeg p0)))] H := hP
      have hD : va_D A [(o_Program, .inr (0, [.ref a5_r, .int (P_size + 1), .ref r_P_bytes, .ref r_P_ends, .int P_constants, .int P_closed, .int P_open])), (r_P_words, .inl (cI, n_P_words, .inl f_P_words)), (a5_r, .inl (cI, z5_1, .inl (upd z5_2 P_size.toNatClampNeg p0)))] := hD
      refine lv_aload_n hx hb d_Program_append_68 rfl (lv_at hl 0 rfl) ?_
      refine va_get (D := (dC, dI)) (ci := 0) (v := .int (P_size + 1)) (C := R_Program) (T := F_Program) (N := 7) hx hb hg i_Program hown hK hP 0 rfl rfl 1 (by decide) (hg _ k23) (fun _ h9 => h9) rfl d_Program_append_69 ?_
      obtain rfl := Option.some.inj h
      have hP9 := hP.sub (ws' := [(o_Program, .inr (0, [.ref a5_r, .int (P_size + 1), .ref r_P_bytes, .ref r_P_ends, .int P_constants, .int P_closed, .int P_open])), (a5_r, .inl (cI, z5_1, .inl (upd z5_2 P_size.toNatClampNeg p0)))]) [0, 2] rfl
      have hD9 := hD.sub (ws' := [(o_Program, .inr (0, [.ref a5_r, .int (P_size + 1), .ref r_P_bytes, .ref r_P_ends, .int P_constants, .int P_closed, .int P_open])), (a5_r, .inl (cI, z5_1, .inl (upd z5_2 P_size.toNatClampNeg p0)))]) [0, 2] (by decide) rfl
      have hK9 := hK.sub (tys' := [(cI, .int)]) [0] rfl
      refine W.widen (dz_Gc hG) (dz_Gs hG) ?_
      obtain ⟨rfl, -, -⟩ := hG
      exact W.iret (v := P_size + 1) hx hb hr (fun t ht hW => ⟨⟨P_size + 1, a5_r, rfl, rfl, by rw [ht]; exact hP9, va_K.moved hW.alike hK9, hD9⟩, hS.F ht⟩) hS.2.2 d_Program_append_72
  · rw [if_neg c1] at h
    refine lv_bipush (v := (-2)) hx hb d_Program_append_9 (by decide) ?_
    obtain rfl := Option.some.inj h
    have hP9 := hP.sub (ws' := [(o_Program, .inr (0, [.ref r_P_words, .int P_size, .ref r_P_bytes, .ref r_P_ends, .int P_constants, .int P_closed, .int P_open])), (r_P_words, .inl (cI, n_P_words, .inl f_P_words))]) [0, 1] rfl
    have hD9 := hD.sub (ws' := [(o_Program, .inr (0, [.ref r_P_words, .int P_size, .ref r_P_bytes, .ref r_P_ends, .int P_constants, .int P_closed, .int P_open])), (r_P_words, .inl (cI, n_P_words, .inl f_P_words))]) [0, 1] (by decide) rfl
    have hK9 := hK.sub (tys' := [(cI, .int)]) [0] rfl
    refine W.widen (dz_Gc hG) (dz_Gs hG) ?_
    obtain ⟨rfl, -, -⟩ := hG
    exact W.iret (v := (-2)) hx hb hr (fun t ht hW => ⟨⟨(-2), r_P_words, rfl, rfl, by rw [ht]; exact hP9, va_K.moved hW.alike hK9, hD9⟩, hS.F ht⟩) hS.2.2 d_Program_append_11

set_option maxHeartbeats 4000000 in
set_option maxRecDepth 100000 in
theorem c_Program_shorten (l : Launch) (dC : Nat → ClassId) (dI : Nat → Nat → Nat) (N : Nat) (o_Program : Nat) (r_P_words : Nat) (r_P_bytes : Nat) (r_P_ends : Nat) (P_size : Int32) (P_constants : Int32) (P_closed : Int32) (P_open : Int32) (p0 : Int32) (sz : Nat) (z : Int32 × Int32) (h : m_Program_shorten N P_size P_constants P_closed P_open p0 = some z) : Met l y_Program_shorten (.code y_Program_shorten b_Program_shorten 2 (some .int) :: lw_g) ({ frames := 0, cells := 0, slots := 0, locals := 0 }) (va_Pc [.ref o_Program, .int p0] (fun U => dz_N U ∧ U.heap.size = sz ∧ va_P (dC, dI) classes [(o_Program, .inr (0, [.ref r_P_words, .int P_size, .ref r_P_bytes, .ref r_P_ends, .int P_constants, .int P_closed, .int P_open]))] U.heap ∧ va_K (dC, dI) classes [] U ∧ va_D (fun _ => True) [(o_Program, .inr (0, [.ref r_P_words, .int P_size, .ref r_P_bytes, .ref r_P_ends, .int P_constants, .int P_closed, .int P_open]))])) (va_Qi (fun (r : Int32) (_ : Unit) => r = z.1) (fun (u : Unit) t => va_P (dC, dI) classes [(o_Program, .inr (0, [.ref r_P_words, .int z.2, .ref r_P_bytes, .ref r_P_ends, .int P_constants, .int P_closed, .int P_open]))] t.heap ∧ va_K (dC, dI) classes [] t ∧ va_D (va_A [(o_Program, .inr (0, [.ref r_P_words, .int P_size, .ref r_P_bytes, .ref r_P_ends, .int P_constants, .int P_closed, .int P_open]))] sz) [(o_Program, .inr (0, [.ref r_P_words, .int z.2, .ref r_P_bytes, .ref r_P_ends, .int P_constants, .int P_closed, .int P_open]))]) (va_A [(o_Program, .inr (0, [.ref r_P_words, .int P_size, .ref r_P_bytes, .ref r_P_ends, .int P_constants, .int P_closed, .int P_open]))] sz)) 0 0 (va_A [(o_Program, .inr (0, [.ref r_P_words, .int P_size, .ref r_P_bytes, .ref r_P_ends, .int P_constants, .int P_closed, .int P_open]))] sz) := by
  refine Met.ofW (cc := b_Program_shorten) (maxL := 2) (ret := (some .int)) (by decide +kernel) rfl ?_
  intro p e s m args below meth c s₁ B hml hv
  obtain ⟨rfl, hN, hsz, hP, hK, hD0⟩ := hv
  have hx := B.exec
  have hb := B.bytes
  have hr := B.returns
  have hg : ∀ w ∈ lw_g, w.before _ s = true := fun w hw => atoms_spec (ws := .code y_Program_shorten b_Program_shorten 2 (some .int) :: lw_g) B.pre w (List.mem_cons_of_mem _ hw)
  have hown : s.vm.findClass R_Program = some m.cls := findClass_of_methodNamed B.named
  have hlocks := B.notSynchronized
  clear B
  subst hsz
  have hD := hD0.self (sz := s.heap.size)
  generalize hAe : va_A [(o_Program, .inr (0, [.ref r_P_words, .int P_size, .ref r_P_bytes, .ref r_P_ends, .int P_constants, .int P_closed, .int P_open]))] s.heap.size = A at hD ⊢
  have hA : ∀ q : Nat, s.heap.size ≤ q → A q := fun q h => by rw [← hAe]; exact Or.inr h
  have hS : va_S A s.heap s.heap [] := va_S.rf
  have hP : va_P (dC, dI) classes [(o_Program, .inr (0, [.ref r_P_words, .int P_size, .ref r_P_bytes, .ref r_P_ends, .int P_constants, .int P_closed, .int P_open]))] s.heap := hP
  have hl := lv_entry ([.ref o_Program, .int p0]) (n := 2) (Nat.le_of_ble_eq_true rfl)
  rw [lg_entry_eq]
  generalize (lg_sl ([.ref o_Program, .int p0]) ++ List.replicate (2 - (lg_sl ([.ref o_Program, .int p0])).length) Slot.unset).toArray = ls at hl ⊢
  have hl : lv_has ls 2 [(0, .ref o_Program), (1, .int p0)] := hl
  unfold m_Program_shorten at h
  refine lv_iload_n hx hb d_Program_shorten_0 rfl (lv_at hl 1 rfl) ?_
  refine lv_if_lt (tgt := 12) hx hb d_Program_shorten_1 (by decide) (fun c1 => ?_) (fun c1 => ?_)
  · rw [if_pos c1] at h
    refine lv_iconst (v := (-1)) hx hb d_Program_shorten_12 (by decide) ?_
    obtain rfl := Option.some.inj h
    have hP9 := hP.sub (ws' := [(o_Program, .inr (0, [.ref r_P_words, .int P_size, .ref r_P_bytes, .ref r_P_ends, .int P_constants, .int P_closed, .int P_open]))]) [0] rfl
    have hD9 := hD.sub (ws' := [(o_Program, .inr (0, [.ref r_P_words, .int P_size, .ref r_P_bytes, .ref r_P_ends, .int P_constants, .int P_closed, .int P_open]))]) [0] (by decide) rfl
    have hK9 := hK.sub (tys' := []) [] rfl
    exact W.iret (v := (-1)) hx hb hr (fun t ht hW => ⟨⟨(-1), (), rfl, rfl, by rw [ht]; exact hP9, va_K.moved hW.alike hK9, hD9⟩, hS.F ht⟩) hS.2.2 d_Program_shorten_13
  · rw [if_neg c1] at h
    refine lv_iload_n hx hb d_Program_shorten_4 rfl (lv_at hl 1 rfl) ?_
    refine lv_aload_n hx hb d_Program_shorten_5 rfl (lv_at hl 0 rfl) ?_
    refine va_get (D := (dC, dI)) (ci := 0) (v := .int P_size) (C := R_Program) (T := F_Program) (N := 7) hx hb hg i_Program hown hK hP 0 rfl rfl 1 (by decide) (hg _ k23) (fun _ h9 => h9) rfl d_Program_shorten_6 ?_
    refine lv_icmp_le (tgt := 14) hx hb d_Program_shorten_9 (by decide) (fun c2 => ?_) (fun c2 => ?_)
    · rw [if_pos c2] at h
      refine lv_aload_n hx hb d_Program_shorten_14 rfl (lv_at hl 0 rfl) ?_
      refine lv_iload_n hx hb d_Program_shorten_15 rfl (lv_at hl 1 rfl) ?_
      refine va_put (D := (dC, dI)) (ci := 0) (v := .int p0) (ty := .int) (C := R_Program) (T := F_Program) (N := 7) hx hb hg i_Program t_Program t_Program_ok n_Program hown hK hP hD hS 0 rfl rfl 1 (by decide) (hg _ k23) (fun _ h9 => h9) rfl (by decide +kernel) rfl rfl (Nat.le_of_ble_eq_true rfl) d_Program_shorten_16 (fun H locs hP hD hS => ?_)
      have hP : va_P (dC, dI) classes [(o_Program, .inr (0, [.ref r_P_words, .int p0, .ref r_P_bytes, .ref r_P_ends, .int P_constants, .int P_closed, .int P_open]))] H := hP
      have hD : va_D A [(o_Program, .inr (0, [.ref r_P_words, .int p0, .ref r_P_bytes, .ref r_P_ends, .int P_constants, .int P_closed, .int P_open]))] := hD
      refine lv_aload_n hx hb d_Program_shorten_19 rfl (lv_at hl 0 rfl) ?_
      refine va_get (D := (dC, dI)) (ci := 0) (v := .int p0) (C := R_Program) (T := F_Program) (N := 7) hx hb hg i_Program hown hK hP 0 rfl rfl 1 (by decide) (hg _ k23) (fun _ h9 => h9) rfl d_Program_shorten_20 ?_
      obtain rfl := Option.some.inj h
      have hP9 := hP.sub (ws' := [(o_Program, .inr (0, [.ref r_P_words, .int p0, .ref r_P_bytes, .ref r_P_ends, .int P_constants, .int P_closed, .int P_open]))]) [0] rfl
      have hD9 := hD.sub (ws' := [(o_Program, .inr (0, [.ref r_P_words, .int p0, .ref r_P_bytes, .ref r_P_ends, .int P_constants, .int P_closed, .int P_open]))]) [0] (by decide) rfl
      have hK9 := hK.sub (tys' := []) [] rfl
      exact W.iret (v := p0) hx hb hr (fun t ht hW => ⟨⟨p0, (), rfl, rfl, by rw [ht]; exact hP9, va_K.moved hW.alike hK9, hD9⟩, hS.F ht⟩) hS.2.2 d_Program_shorten_23
    · rw [if_neg c2] at h
      refine lv_iconst (v := (-1)) hx hb d_Program_shorten_12 (by decide) ?_
      obtain rfl := Option.some.inj h
      have hP9 := hP.sub (ws' := [(o_Program, .inr (0, [.ref r_P_words, .int P_size, .ref r_P_bytes, .ref r_P_ends, .int P_constants, .int P_closed, .int P_open]))]) [0] rfl
      have hD9 := hD.sub (ws' := [(o_Program, .inr (0, [.ref r_P_words, .int P_size, .ref r_P_bytes, .ref r_P_ends, .int P_constants, .int P_closed, .int P_open]))]) [0] (by decide) rfl
      have hK9 := hK.sub (tys' := []) [] rfl
      exact W.iret (v := (-1)) hx hb hr (fun t ht hW => ⟨⟨(-1), (), rfl, rfl, by rw [ht]; exact hP9, va_K.moved hW.alike hK9, hD9⟩, hS.F ht⟩) hS.2.2 d_Program_shorten_13

set_option maxHeartbeats 4000000 in
set_option maxRecDepth 100000 in
theorem l_Program_bytesBeforeZero_1 {p : Program} {l : Launch} {e : Env} {s : State} {m : MethodId} {args : Array Value} {below : List Frame} {meth : Method} {c : Code} {Q : State → Prop} (dC : Nat → ClassId) (dI : Nat → Nat → Nat) (N : Nat) (o_Program : Nat) (r_P_words : Nat) (r_P_bytes : Nat) (r_P_ends : Nat) (P_size : Int32) (P_constants : Int32) (P_closed : Int32) (P_open : Int32) (p0 : Int64) {ζ : Type} {z : ζ} (hx : p.tables.exec = Jvm.exec) (hb : c.code = b_Program_bytesBeforeZero) (hml : c.maxLocals = 4) (hown : s.vm.findClass R_Program = some m.cls) (hg : ∀ w ∈ lw_g, w.before args s = true) (hN : dz_N s) (hK : va_K (dC, dI) classes [] s) (hP : va_P (dC, dI) classes [(o_Program, .inr (0, [.ref r_P_words, .int P_size, .ref r_P_bytes, .ref r_P_ends, .int P_constants, .int P_closed, .int P_open]))] s.heap) {k1_31 : Int32 → Option (ζ)} {k1_23 : Int32 → Option (ζ)} (hk1_31 : ∀ (v1_3 : Int32)     (ls : Array Slot), k1_31 v1_3 = some z → lv_has ls 4 [(3, .int v1_3), (0, .ref o_Program), (1, .long p0)] → W p l e ({ frames := 0, cells := 0, slots := 0, locals := 0 } : Room) s m args below meth c s.heap [] 0 0 Q (F0 m 31 ls [])) (hk1_23 : ∀ (v1_3 : Int32)     (ls : Array Slot), k1_23 v1_3 = some z → lv_has ls 4 [(3, .int v1_3), (0, .ref o_Program), (1, .long p0)] → W p l e ({ frames := 0, cells := 0, slots := 0, locals := 0 } : Room) s m args below meth c s.heap [] 0 0 Q (F0 m 23 ls [])) : ∀ (n1 : Nat) (v1_3 : Int32)    (ls : Array Slot), lm_Program_bytesBeforeZero_1 N p0 k1_31 k1_23 n1 v1_3 = some z → lv_has ls 4 [(3, .int v1_3), (0, .ref o_Program), (1, .long p0)] → W p l e ({ frames := 0, cells := 0, slots := 0, locals := 0 } : Room) s m args below meth c s.heap [] 0 0 Q (F0 m 2 ls []) := by
  intro n1
  induction n1 with
  | zero =>
    intro v1_3 ls h hl
    rw [lm_Program_bytesBeforeZero_1] at h
    cases h
  | succ n1 ih1 =>
    intro v1_3 ls h hl
    rw [lm_Program_bytesBeforeZero_1] at h
    refine lv_iload_n hx hb d_Program_bytesBeforeZero_2 rfl (lv_at hl 0 rfl) ?_
    refine lv_bipush (v := 8) hx hb d_Program_bytesBeforeZero_3 (by decide) ?_
    refine lv_icmp_ge (tgt := 31) hx hb d_Program_bytesBeforeZero_5 (by decide) (fun c1 => ?_) (fun c1 => ?_)
    · rw [if_pos c1] at h
      exact hk1_31 v1_3 _ h (lv_sub hl [0, 1, 2] rfl)
    · rw [if_neg c1] at h
      refine lv_lload_n hx hb d_Program_bytesBeforeZero_8 rfl (lv_at hl 2 rfl) ?_
      refine lv_bipush (v := 8) hx hb d_Program_bytesBeforeZero_9 (by decide) ?_
      refine lv_iload_n hx hb d_Program_bytesBeforeZero_11 rfl (lv_at hl 0 rfl) ?_
      refine lv_imul hx hb d_Program_bytesBeforeZero_12 ?_
      refine lv_lushr (v := (p0.toUInt64 >>> ((8 * v1_3).toInt64.toUInt64 &&& Int64.toUInt64 63)).toInt64) hx hb d_Program_bytesBeforeZero_13 rfl ?_
      obtain ⟨x2, ex2, h⟩ := dz_lt h
      refine dz_topl ex2 ?_
      refine lv_ldc2 (v := 255) hx hb hown (hg _ k32) d_Program_bytesBeforeZero_14 ?_
      refine lv_land hx hb d_Program_bytesBeforeZero_17 ?_
      refine lv_lconst (v := 0) hx hb d_Program_bytesBeforeZero_18 (by decide) ?_
      refine W.lcmp hx hb d_Program_bytesBeforeZero_19 ?_
      refine lv_if_ne (tgt := 25) hx hb d_Program_bytesBeforeZero_20 (by decide) (fun c3 => ?_) (fun c3 => ?_)
      · rw [if_neg c3] at h
        refine lv_iinc (v := v1_3 + 1) (lv' := [(3, .int (v1_3 + 1)), (0, .ref o_Program), (1, .long p0)]) hx hb d_Program_bytesBeforeZero_25 hl (k := 0) rfl rfl (by decide) rfl (fun ls hl => ?_)
        refine lv_goto (tgt := 2) hx hb d_Program_bytesBeforeZero_28 (by decide) ?_
        exact ih1 (v1_3 + 1) _ h (lv_sub hl [0, 1, 2] rfl)
      · rw [if_pos c3] at h
        exact hk1_23 v1_3 _ h (lv_sub hl [0, 1, 2] rfl)
set_option maxHeartbeats 4000000 in
set_option maxRecDepth 100000 in
theorem c_Program_bytesBeforeZero (l : Launch) (dC : Nat → ClassId) (dI : Nat → Nat → Nat) (N : Nat) (o_Program : Nat) (r_P_words : Nat) (r_P_bytes : Nat) (r_P_ends : Nat) (P_size : Int32) (P_constants : Int32) (P_closed : Int32) (P_open : Int32) (p0 : Int64) (z : Int32) (h : m_Program_bytesBeforeZero N P_size P_constants P_closed P_open p0 = some z) : Met l y_Program_bytesBeforeZero (.code y_Program_bytesBeforeZero b_Program_bytesBeforeZero 4 (some .int) :: lw_g) ({ frames := 0, cells := 0, slots := 0, locals := 0 }) (va_Pc [.ref o_Program, .long p0] (fun U => dz_N U ∧ va_P (dC, dI) classes [(o_Program, .inr (0, [.ref r_P_words, .int P_size, .ref r_P_bytes, .ref r_P_ends, .int P_constants, .int P_closed, .int P_open]))] U.heap ∧ va_K (dC, dI) classes [] U)) (vp_Si (fun r => r = z)) 0 0 (fun _ => False) := by
  refine Met.ofW (cc := b_Program_bytesBeforeZero) (maxL := 4) (ret := (some .int)) (by decide +kernel) rfl ?_
  intro p e s m args below meth c s₁ B hml hv
  obtain ⟨rfl, hN, hP, hK⟩ := hv
  have hx := B.exec
  have hb := B.bytes
  have hr := B.returns
  have hg : ∀ w ∈ lw_g, w.before _ s = true := fun w hw => atoms_spec (ws := .code y_Program_bytesBeforeZero b_Program_bytesBeforeZero 4 (some .int) :: lw_g) B.pre w (List.mem_cons_of_mem _ hw)
  have hown : s.vm.findClass R_Program = some m.cls := findClass_of_methodNamed B.named
  have hlocks := B.notSynchronized
  clear B
  have hP : va_P (dC, dI) classes [(o_Program, .inr (0, [.ref r_P_words, .int P_size, .ref r_P_bytes, .ref r_P_ends, .int P_constants, .int P_closed, .int P_open]))] s.heap := hP
  have hl := lv_entry ([.ref o_Program, .long p0]) (n := 4) (Nat.le_of_ble_eq_true rfl)
  rw [lg_entry_eq]
  generalize (lg_sl ([.ref o_Program, .long p0]) ++ List.replicate (4 - (lg_sl ([.ref o_Program, .long p0])).length) Slot.unset).toArray = ls at hl ⊢
  have hl : lv_has ls 4 [(0, .ref o_Program), (1, .long p0)] := hl
  unfold m_Program_bytesBeforeZero at h
  refine lv_iconst (v := 0) hx hb d_Program_bytesBeforeZero_0 (by decide) ?_
  refine lv_istore_n (lv' := [(3, .int 0), (0, .ref o_Program), (1, .long p0)]) hx hb d_Program_bytesBeforeZero_1 rfl hl (by decide) rfl (fun ls hl => ?_)
  refine l_Program_bytesBeforeZero_1 dC dI N o_Program r_P_words r_P_bytes r_P_ends P_size P_constants P_closed P_open p0 hx hb hml hown hg hN hK hP (fun v1_3 ls h hl => ?_) (fun v1_3 ls h hl => ?_) N (0 : Int32) _ h (lv_sub hl [0, 1, 2] rfl)
  · skip
    refine lv_bipush (v := 8) hx hb d_Program_bytesBeforeZero_31 (by decide) ?_
    obtain rfl := Option.some.inj h
    exact W.iret (v := 8) hx hb hr (fun t ht hW => ⟨_, rfl, rfl, ht⟩) (fun _ h => by cases h) d_Program_bytesBeforeZero_33
  · skip
    refine lv_iload_n hx hb d_Program_bytesBeforeZero_23 rfl (lv_at hl 0 rfl) ?_
    obtain rfl := Option.some.inj h
    exact W.iret (v := v1_3) hx hb hr (fun t ht hW => ⟨_, rfl, rfl, ht⟩) (fun _ h => by cases h) d_Program_bytesBeforeZero_24

set_option maxHeartbeats 4000000 in
set_option maxRecDepth 100000 in
theorem l_Program_addBytes_1 {p : Program} {l : Launch} {e : Env} {s : State} {m : MethodId} {args : Array Value} {below : List Frame} {meth : Method} {c : Code} {Q : State → Prop} {A : Nat → Prop} (dC : Nat → ClassId) (dI : Nat → Nat → Nat) (N : Nat) (cB : ClassId) (o_Program : Nat) (r_P_words : Nat) (r_P_bytes : Nat) (r_P_ends : Nat) (P_size : Int32) (P_constants : Int32) (P_closed : Int32) (P_open : Int32) (n_P_bytes : Nat) (p0 : Int64) (z1_1 : Int32) {α : Type} {Z1 : α} {Zc Zs : Nat} (hx : p.tables.exec = Jvm.exec) (hb : c.code = b_Program_addBytes) (hml : c.maxLocals = 6) (hown : s.vm.findClass R_Program = some m.cls) (hg : ∀ w ∈ lw_g, w.before args s = true) (hN : dz_N s) (hK : va_K (dC, dI) classes [(cB, .byte)] s) (hA : ∀ q : Nat, s.heap.size ≤ q → A q) {k1_108 : Int32 → (Nat → Int32) → Option (α × Nat × Nat)} (hk1_108 : ∀ (v1_5 : Int32) (w1_f_f_P_bytes : (Nat → Int32))   (z : α × Nat × Nat) (cc cs : Nat) (H : Heap) (locs : List Loc) (ls : Array Slot), k1_108 v1_5 w1_f_f_P_bytes = some z → dz_G Z1 Zc Zs z cc cs → va_P (dC, dI) classes [(o_Program, .inr (0, [.ref r_P_words, .int P_size, .ref r_P_bytes, .ref r_P_ends, .int P_constants, .int P_closed, .int P_open])), (r_P_bytes, .inl (cB, n_P_bytes, .inl w1_f_f_P_bytes))] H → va_D A [(o_Program, .inr (0, [.ref r_P_words, .int P_size, .ref r_P_bytes, .ref r_P_ends, .int P_constants, .int P_closed, .int P_open])), (r_P_bytes, .inl (cB, n_P_bytes, .inl w1_f_f_P_bytes))] → va_S A s.heap H locs → lv_has ls 6 [(5, .int v1_5), (4, .int ((P_closed + P_open) + z1_1)), (3, .int z1_1), (0, .ref o_Program), (1, .long p0)] → W p l e ({ frames := 2, cells := Zc, slots := Zs, locals := 82 } : Room) s m args below meth c H locs cc cs Q (F0 m 108 ls [])) : ∀ (n1 : Nat) (v1_5 : Int32) (w1_f_f_P_bytes : (Nat → Int32))  (z : α × Nat × Nat) (cc cs : Nat) (H : Heap) (locs : List Loc) (ls : Array Slot), lm_Program_addBytes_1 N P_closed P_open n_P_bytes p0 z1_1 k1_108 n1 v1_5 w1_f_f_P_bytes = some z → dz_G Z1 Zc Zs z cc cs → va_P (dC, dI) classes [(o_Program, .inr (0, [.ref r_P_words, .int P_size, .ref r_P_bytes, .ref r_P_ends, .int P_constants, .int P_closed, .int P_open])), (r_P_bytes, .inl (cB, n_P_bytes, .inl w1_f_f_P_bytes))] H → va_D A [(o_Program, .inr (0, [.ref r_P_words, .int P_size, .ref r_P_bytes, .ref r_P_ends, .int P_constants, .int P_closed, .int P_open])), (r_P_bytes, .inl (cB, n_P_bytes, .inl w1_f_f_P_bytes))] → va_S A s.heap H locs → lv_has ls 6 [(5, .int v1_5), (4, .int ((P_closed + P_open) + z1_1)), (3, .int z1_1), (0, .ref o_Program), (1, .long p0)] → W p l e ({ frames := 2, cells := Zc, slots := Zs, locals := 82 } : Room) s m args below meth c H locs cc cs Q (F0 m 70 ls []) := by
  intro n1
  induction n1 with
  | zero =>
    intro v1_5 w1_f_f_P_bytes z cc cs H locs ls h hG hP hD hS hl
    rw [lm_Program_addBytes_1] at h
    cases h
  | succ n1 ih1 =>
    intro v1_5 w1_f_f_P_bytes z cc cs H locs ls h hG hP hD hS hl
    rw [lm_Program_addBytes_1] at h
    refine lv_iload hx hb d_Program_addBytes_70 (lv_at hl 0 rfl) ?_
    refine lv_iload_n hx hb d_Program_addBytes_72 rfl (lv_at hl 2 rfl) ?_
    refine lv_icmp_ge (tgt := 108) hx hb d_Program_addBytes_73 (by decide) (fun c4 => ?_) (fun c4 => ?_)
    · rw [if_pos c4] at h
      exact hk1_108 v1_5 w1_f_f_P_bytes _ _ _ _ _ _ h hG (hP.sub [0, 1] rfl) (hD.sub [0, 1] (by decide) rfl) hS (lv_sub hl [0, 1, 2, 3, 4] rfl)
    · rw [if_neg c4] at h
      refine lv_aload_n hx hb d_Program_addBytes_76 rfl (lv_at hl 3 rfl) ?_
      refine va_get (D := (dC, dI)) (ci := 0) (v := .ref r_P_bytes) (C := R_Program) (T := F_Program) (N := 7) hx hb hg i_Program hown hK hP 0 rfl rfl 2 (by decide) (hg _ k35) (fun _ h9 => h9) rfl d_Program_addBytes_77 ?_
      refine lv_aload_n hx hb d_Program_addBytes_80 rfl (lv_at hl 3 rfl) ?_
      refine va_get (D := (dC, dI)) (ci := 0) (v := .int P_closed) (C := R_Program) (T := F_Program) (N := 7) hx hb hg i_Program hown hK hP 0 rfl rfl 5 (by decide) (hg _ k34) (fun _ h9 => h9) rfl d_Program_addBytes_81 ?_
      refine lv_aload_n hx hb d_Program_addBytes_84 rfl (lv_at hl 3 rfl) ?_
      refine va_get (D := (dC, dI)) (ci := 0) (v := .int P_open) (C := R_Program) (T := F_Program) (N := 7) hx hb hg i_Program hown hK hP 0 rfl rfl 6 (by decide) (hg _ k33) (fun _ h9 => h9) rfl d_Program_addBytes_85 ?_
      refine lv_iadd hx hb d_Program_addBytes_88 ?_
      refine lv_iload hx hb d_Program_addBytes_89 (lv_at hl 0 rfl) ?_
      refine lv_iadd hx hb d_Program_addBytes_91 ?_
      refine lv_lload_n hx hb d_Program_addBytes_92 rfl (lv_at hl 4 rfl) ?_
      refine lv_bipush (v := 8) hx hb d_Program_addBytes_93 (by decide) ?_
      refine lv_iload hx hb d_Program_addBytes_95 (lv_at hl 0 rfl) ?_
      refine lv_imul hx hb d_Program_addBytes_97 ?_
      refine lv_lushr (v := (p0.toUInt64 >>> ((8 * v1_5).toInt64.toUInt64 &&& Int64.toUInt64 63)).toInt64) hx hb d_Program_addBytes_98 rfl ?_
      obtain ⟨x5, ex5, h⟩ := dz_lt h
      refine dz_topl ex5 ?_
      refine lv_l2i (v := x5.toInt32) hx hb d_Program_addBytes_99 rfl ?_
      refine lv_i2b (v := x5.toInt32.toInt8.toInt32) hx hb d_Program_addBytes_100 rfl ?_
      obtain ⟨i6, h⟩ := dz_oi h
      refine va_bast (D := (dC, dI)) hx hb hK hP hD hS 1 0 rfl rfl i6 d_Program_addBytes_101 (fun H locs hP hD hS => ?_)
      obtain ⟨g7, eg7, h⟩ := dz_lt h
      rw [← eg7] at hP hD
      have hP : va_P (dC, dI) classes [(o_Program, .inr (0, [.ref r_P_words, .int P_size, .ref r_P_bytes, .ref r_P_ends, .int P_constants, .int P_closed, .int P_open])), (r_P_bytes, .inl (cB, n_P_bytes, .inl g7))] H := hP
      have hD : va_D A [(o_Program, .inr (0, [.ref r_P_words, .int P_size, .ref r_P_bytes, .ref r_P_ends, .int P_constants, .int P_closed, .int P_open])), (r_P_bytes, .inl (cB, n_P_bytes, .inl g7))] := hD
      refine lv_iinc (v := v1_5 + 1) (lv' := [(5, .int (v1_5 + 1)), (4, .int ((P_closed + P_open) + z1_1)), (3, .int z1_1), (0, .ref o_Program), (1, .long p0)]) hx hb d_Program_addBytes_102 hl (k := 0) rfl rfl (by decide) rfl (fun ls hl => ?_)
      refine lv_goto (tgt := 70) hx hb d_Program_addBytes_105 (by decide) ?_
      exact ih1 (v1_5 + 1) g7 _ _ _ _ _ _ h hG (hP.sub [0, 1] rfl) (hD.sub [0, 1] (by decide) rfl) hS (lv_sub hl [0, 1, 2, 3, 4] rfl)
set_option maxHeartbeats 4000000 in
set_option maxRecDepth 100000 in
theorem l_Program_addBytes_2 {p : Program} {l : Launch} {e : Env} {s : State} {m : MethodId} {args : Array Value} {below : List Frame} {meth : Method} {c : Code} {Q : State → Prop} {A : Nat → Prop} (dC : Nat → ClassId) (dI : Nat → Nat → Nat) (N : Nat) (cB : ClassId) (o_Program : Nat) (r_P_words : Nat) (r_P_bytes : Nat) (r_P_ends : Nat) (P_size : Int32) (P_constants : Int32) (P_closed : Int32) (P_open : Int32) (n_P_bytes : Nat) (f_P_bytes : Nat → Int32) (p0 : Int64) (z1_1 : Int32) (z9_1 : Nat) (a9_r : Nat) {α : Type} {Z1 : α} {Zc Zs : Nat} (hx : p.tables.exec = Jvm.exec) (hb : c.code = b_Program_addBytes) (hml : c.maxLocals = 6) (hown : s.vm.findClass R_Program = some m.cls) (hg : ∀ w ∈ lw_g, w.before args s = true) (hN : dz_N s) (hK : va_K (dC, dI) classes [(cB, .byte)] s) (hA : ∀ q : Nat, s.heap.size ≤ q → A q) {k2_108 : Int32 → (Nat → Int32) → Option (α × Nat × Nat)} (hk2_108 : ∀ (v2_5 : Int32) (w2_f_f_P_bytes : (Nat → Int32))   (z : α × Nat × Nat) (cc cs : Nat) (H : Heap) (locs : List Loc) (ls : Array Slot), k2_108 v2_5 w2_f_f_P_bytes = some z → dz_G Z1 Zc Zs z cc cs → va_P (dC, dI) classes [(o_Program, .inr (0, [.ref r_P_words, .int P_size, .ref a9_r, .ref r_P_ends, .int P_constants, .int P_closed, .int P_open])), (r_P_bytes, .inl (cB, n_P_bytes, .inl f_P_bytes)), (a9_r, .inl (cB, z9_1, .inl w2_f_f_P_bytes))] H → va_D A [(o_Program, .inr (0, [.ref r_P_words, .int P_size, .ref a9_r, .ref r_P_ends, .int P_constants, .int P_closed, .int P_open])), (r_P_bytes, .inl (cB, n_P_bytes, .inl f_P_bytes)), (a9_r, .inl (cB, z9_1, .inl w2_f_f_P_bytes))] → va_S A s.heap H locs → lv_has ls 6 [(5, .int v2_5), (4, .int ((P_closed + P_open) + z1_1)), (3, .int z1_1), (0, .ref o_Program), (1, .long p0)] → W p l e ({ frames := 2, cells := Zc, slots := Zs, locals := 82 } : Room) s m args below meth c H locs cc cs Q (F0 m 108 ls [])) : ∀ (n2 : Nat) (v2_5 : Int32) (w2_f_f_P_bytes : (Nat → Int32))  (z : α × Nat × Nat) (cc cs : Nat) (H : Heap) (locs : List Loc) (ls : Array Slot), lm_Program_addBytes_2 N P_closed P_open p0 z1_1 z9_1 k2_108 n2 v2_5 w2_f_f_P_bytes = some z → dz_G Z1 Zc Zs z cc cs → va_P (dC, dI) classes [(o_Program, .inr (0, [.ref r_P_words, .int P_size, .ref a9_r, .ref r_P_ends, .int P_constants, .int P_closed, .int P_open])), (r_P_bytes, .inl (cB, n_P_bytes, .inl f_P_bytes)), (a9_r, .inl (cB, z9_1, .inl w2_f_f_P_bytes))] H → va_D A [(o_Program, .inr (0, [.ref r_P_words, .int P_size, .ref a9_r, .ref r_P_ends, .int P_constants, .int P_closed, .int P_open])), (r_P_bytes, .inl (cB, n_P_bytes, .inl f_P_bytes)), (a9_r, .inl (cB, z9_1, .inl w2_f_f_P_bytes))] → va_S A s.heap H locs → lv_has ls 6 [(5, .int v2_5), (4, .int ((P_closed + P_open) + z1_1)), (3, .int z1_1), (0, .ref o_Program), (1, .long p0)] → W p l e ({ frames := 2, cells := Zc, slots := Zs, locals := 82 } : Room) s m args below meth c H locs cc cs Q (F0 m 70 ls []) := by
  intro n2
  induction n2 with
  | zero =>
    intro v2_5 w2_f_f_P_bytes z cc cs H locs ls h hG hP hD hS hl
    rw [lm_Program_addBytes_2] at h
    cases h
  | succ n2 ih2 =>
    intro v2_5 w2_f_f_P_bytes z cc cs H locs ls h hG hP hD hS hl
    rw [lm_Program_addBytes_2] at h
    refine lv_iload hx hb d_Program_addBytes_70 (lv_at hl 0 rfl) ?_
    refine lv_iload_n hx hb d_Program_addBytes_72 rfl (lv_at hl 2 rfl) ?_
    refine lv_icmp_ge (tgt := 108) hx hb d_Program_addBytes_73 (by decide) (fun c10 => ?_) (fun c10 => ?_)
    · rw [if_pos c10] at h
      exact hk2_108 v2_5 w2_f_f_P_bytes _ _ _ _ _ _ h hG (hP.sub [0, 1, 2] rfl) (hD.sub [0, 1, 2] (by decide) rfl) hS (lv_sub hl [0, 1, 2, 3, 4] rfl)
    · rw [if_neg c10] at h
      refine lv_aload_n hx hb d_Program_addBytes_76 rfl (lv_at hl 3 rfl) ?_
      refine va_get (D := (dC, dI)) (ci := 0) (v := .ref a9_r) (C := R_Program) (T := F_Program) (N := 7) hx hb hg i_Program hown hK hP 0 rfl rfl 2 (by decide) (hg _ k35) (fun _ h9 => h9) rfl d_Program_addBytes_77 ?_
      refine lv_aload_n hx hb d_Program_addBytes_80 rfl (lv_at hl 3 rfl) ?_
      refine va_get (D := (dC, dI)) (ci := 0) (v := .int P_closed) (C := R_Program) (T := F_Program) (N := 7) hx hb hg i_Program hown hK hP 0 rfl rfl 5 (by decide) (hg _ k34) (fun _ h9 => h9) rfl d_Program_addBytes_81 ?_
      refine lv_aload_n hx hb d_Program_addBytes_84 rfl (lv_at hl 3 rfl) ?_
      refine va_get (D := (dC, dI)) (ci := 0) (v := .int P_open) (C := R_Program) (T := F_Program) (N := 7) hx hb hg i_Program hown hK hP 0 rfl rfl 6 (by decide) (hg _ k33) (fun _ h9 => h9) rfl d_Program_addBytes_85 ?_
      refine lv_iadd hx hb d_Program_addBytes_88 ?_
      refine lv_iload hx hb d_Program_addBytes_89 (lv_at hl 0 rfl) ?_
      refine lv_iadd hx hb d_Program_addBytes_91 ?_
      refine lv_lload_n hx hb d_Program_addBytes_92 rfl (lv_at hl 4 rfl) ?_
      refine lv_bipush (v := 8) hx hb d_Program_addBytes_93 (by decide) ?_
      refine lv_iload hx hb d_Program_addBytes_95 (lv_at hl 0 rfl) ?_
      refine lv_imul hx hb d_Program_addBytes_97 ?_
      refine lv_lushr (v := (p0.toUInt64 >>> ((8 * v2_5).toInt64.toUInt64 &&& Int64.toUInt64 63)).toInt64) hx hb d_Program_addBytes_98 rfl ?_
      obtain ⟨x11, ex11, h⟩ := dz_lt h
      refine dz_topl ex11 ?_
      refine lv_l2i (v := x11.toInt32) hx hb d_Program_addBytes_99 rfl ?_
      refine lv_i2b (v := x11.toInt32.toInt8.toInt32) hx hb d_Program_addBytes_100 rfl ?_
      obtain ⟨i12, h⟩ := dz_oi h
      refine va_bast (D := (dC, dI)) hx hb hK hP hD hS 2 0 rfl rfl i12 d_Program_addBytes_101 (fun H locs hP hD hS => ?_)
      obtain ⟨g13, eg13, h⟩ := dz_lt h
      rw [← eg13] at hP hD
      have hP : va_P (dC, dI) classes [(o_Program, .inr (0, [.ref r_P_words, .int P_size, .ref a9_r, .ref r_P_ends, .int P_constants, .int P_closed, .int P_open])), (r_P_bytes, .inl (cB, n_P_bytes, .inl f_P_bytes)), (a9_r, .inl (cB, z9_1, .inl g13))] H := hP
      have hD : va_D A [(o_Program, .inr (0, [.ref r_P_words, .int P_size, .ref a9_r, .ref r_P_ends, .int P_constants, .int P_closed, .int P_open])), (r_P_bytes, .inl (cB, n_P_bytes, .inl f_P_bytes)), (a9_r, .inl (cB, z9_1, .inl g13))] := hD
      refine lv_iinc (v := v2_5 + 1) (lv' := [(5, .int (v2_5 + 1)), (4, .int ((P_closed + P_open) + z1_1)), (3, .int z1_1), (0, .ref o_Program), (1, .long p0)]) hx hb d_Program_addBytes_102 hl (k := 0) rfl rfl (by decide) rfl (fun ls hl => ?_)
      refine lv_goto (tgt := 70) hx hb d_Program_addBytes_105 (by decide) ?_
      exact ih2 (v2_5 + 1) g13 _ _ _ _ _ _ h hG (hP.sub [0, 1, 2] rfl) (hD.sub [0, 1, 2] (by decide) rfl) hS (lv_sub hl [0, 1, 2, 3, 4] rfl)
set_option maxHeartbeats 4000000 in
set_option maxRecDepth 100000 in
theorem c_Program_addBytes (l : Launch) (dC : Nat → ClassId) (dI : Nat → Nat → Nat) (N : Nat) (cB : ClassId) (o_Program : Nat) (r_P_words : Nat) (r_P_bytes : Nat) (r_P_ends : Nat) (P_size : Int32) (P_constants : Int32) (P_closed : Int32) (P_open : Int32) (n_P_bytes : Nat) (f_P_bytes : Nat → Int32) (p0 : Int64) (sz : Nat) (Z1 : Int32 × Int32 × Nat × (Nat → Int32)) (Zc Zs : Nat) (h : m_Program_addBytes N P_size P_constants P_closed P_open n_P_bytes f_P_bytes p0 = some (Z1, Zc, Zs)) : Met l y_Program_addBytes (.code y_Program_addBytes b_Program_addBytes 6 (some .int) :: lw_g) ({ frames := 2, cells := Zc, slots := Zs, locals := 82 }) (va_Pc [.ref o_Program, .long p0] (fun U => dz_N U ∧ U.heap.size = sz ∧ va_P (dC, dI) classes [(o_Program, .inr (0, [.ref r_P_words, .int P_size, .ref r_P_bytes, .ref r_P_ends, .int P_constants, .int P_closed, .int P_open])), (r_P_bytes, .inl (cB, n_P_bytes, .inl f_P_bytes))] U.heap ∧ va_K (dC, dI) classes [(cB, .byte)] U ∧ va_D (fun _ => True) [(o_Program, .inr (0, [.ref r_P_words, .int P_size, .ref r_P_bytes, .ref r_P_ends, .int P_constants, .int P_closed, .int P_open])), (r_P_bytes, .inl (cB, n_P_bytes, .inl f_P_bytes))])) (va_Qi (fun (r : Int32) (_ : Nat) => r = Z1.1) (fun (u : Nat) t => va_P (dC, dI) classes [(o_Program, .inr (0, [.ref r_P_words, .int P_size, .ref u, .ref r_P_ends, .int P_constants, .int P_closed, .int Z1.2.1])), (u, .inl (cB, Z1.2.2.1, .inl Z1.2.2.2))] t.heap ∧ va_K (dC, dI) classes [(cB, .byte)] t ∧ va_D (va_A [(o_Program, .inr (0, [.ref r_P_words, .int P_size, .ref r_P_bytes, .ref r_P_ends, .int P_constants, .int P_closed, .int P_open])), (r_P_bytes, .inl (cB, n_P_bytes, .inl f_P_bytes))] sz) [(o_Program, .inr (0, [.ref r_P_words, .int P_size, .ref u, .ref r_P_ends, .int P_constants, .int P_closed, .int Z1.2.1])), (u, .inl (cB, Z1.2.2.1, .inl Z1.2.2.2))]) (va_A [(o_Program, .inr (0, [.ref r_P_words, .int P_size, .ref r_P_bytes, .ref r_P_ends, .int P_constants, .int P_closed, .int P_open])), (r_P_bytes, .inl (cB, n_P_bytes, .inl f_P_bytes))] sz)) Zc Zs (va_A [(o_Program, .inr (0, [.ref r_P_words, .int P_size, .ref r_P_bytes, .ref r_P_ends, .int P_constants, .int P_closed, .int P_open])), (r_P_bytes, .inl (cB, n_P_bytes, .inl f_P_bytes))] sz) := by
  refine Met.ofW (cc := b_Program_addBytes) (maxL := 6) (ret := (some .int)) (by decide +kernel) rfl ?_
  intro p e s m args below meth c s₁ B hml hv
  obtain ⟨rfl, hN, hsz, hP, hK, hD0⟩ := hv
  have hx := B.exec
  have hb := B.bytes
  have hr := B.returns
  have hg : ∀ w ∈ lw_g, w.before _ s = true := fun w hw => atoms_spec (ws := .code y_Program_addBytes b_Program_addBytes 6 (some .int) :: lw_g) B.pre w (List.mem_cons_of_mem _ hw)
  have hown : s.vm.findClass R_Program = some m.cls := findClass_of_methodNamed B.named
  have hlocks := B.notSynchronized
  clear B
  subst hsz
  have hD := hD0.self (sz := s.heap.size)
  generalize hAe : va_A [(o_Program, .inr (0, [.ref r_P_words, .int P_size, .ref r_P_bytes, .ref r_P_ends, .int P_constants, .int P_closed, .int P_open])), (r_P_bytes, .inl (cB, n_P_bytes, .inl f_P_bytes))] s.heap.size = A at hD ⊢
  have hA : ∀ q : Nat, s.heap.size ≤ q → A q := fun q h => by rw [← hAe]; exact Or.inr h
  have hS : va_S A s.heap s.heap [] := va_S.rf
  have hP : va_P (dC, dI) classes [(o_Program, .inr (0, [.ref r_P_words, .int P_size, .ref r_P_bytes, .ref r_P_ends, .int P_constants, .int P_closed, .int P_open])), (r_P_bytes, .inl (cB, n_P_bytes, .inl f_P_bytes))] s.heap := hP
  have hl := lv_entry ([.ref o_Program, .long p0]) (n := 6) (Nat.le_of_ble_eq_true rfl)
  rw [lg_entry_eq]
  generalize (lg_sl ([.ref o_Program, .long p0]) ++ List.replicate (6 - (lg_sl ([.ref o_Program, .long p0])).length) Slot.unset).toArray = ls at hl ⊢
  have hl : lv_has ls 6 [(0, .ref o_Program), (1, .long p0)] := hl
  unfold m_Program_addBytes at h
  have hG : dz_G Z1 Zc Zs (Z1, Zc, Zs) 0 0 := ⟨rfl, (Nat.zero_add _).symm, (Nat.zero_add _).symm⟩
  generalize (Z1, Zc, Zs) = z at h hG
  refine lv_aload_n hx hb d_Program_addBytes_0 rfl (lv_at hl 0 rfl) ?_
  refine lv_lload_n hx hb d_Program_addBytes_1 rfl (lv_at hl 1 rfl) ?_
  obtain ⟨z1_1, hc1, h⟩ := dz_ob h
  try dsimp only at h
  have hPc := hP.sub (ws' := [(o_Program, .inr (0, [.ref r_P_words, .int P_size, .ref r_P_bytes, .ref r_P_ends, .int P_constants, .int P_closed, .int P_open]))]) [0] rfl
  have hKc := hK.sub (tys' := []) [] rfl
  refine vp_callSi (va_Run.run (va_runV (As := [.long p0]) (rest := []) ⟨hx, hb, hml, hown, hg⟩ (c_Program_bytesBeforeZero l dC dI N o_Program r_P_words r_P_bytes r_P_ends P_size P_constants P_closed P_open p0 z1_1 hc1) (cwV 1 hg (gd_V k38 k39 k40 k41 k37) rfl rfl rfl (by decide +kernel) ⟨Nat.le_of_ble_eq_true rfl, Nat.le_of_ble_eq_true rfl⟩) ⟨dz_blindR, va_recv hKc hPc (ci := 0) (q0 := 0) rfl rfl, fun U hU hW => ⟨rfl, dz_Nw hW hN, by rw [hU]; exact hPc, va_K.moved hW.alike hKc⟩⟩ rfl rfl hl.1 rfl (lv_room (Nat.le_of_ble_eq_true rfl)) d_Program_addBytes_2 ⟨dz_Gc hG, dz_Gs hG⟩)) (fun r1 hw => ?_)
  have hw : z1_1 = r1 := hw.symm
  subst hw
  refine lv_istore_n (lv' := [(3, .int z1_1), (0, .ref o_Program), (1, .long p0)]) hx hb d_Program_addBytes_5 rfl hl (by decide) rfl (fun ls hl => ?_)
  refine lv_aload_n hx hb d_Program_addBytes_6 rfl (lv_at hl 1 rfl) ?_
  refine va_get (D := (dC, dI)) (ci := 0) (v := .int P_open) (C := R_Program) (T := F_Program) (N := 7) hx hb hg i_Program hown hK hP 0 rfl rfl 6 (by decide) (hg _ k33) (fun _ h9 => h9) rfl d_Program_addBytes_7 ?_
  refine lv_iload_n hx hb d_Program_addBytes_10 rfl (lv_at hl 0 rfl) ?_
  refine lv_iadd hx hb d_Program_addBytes_11 ?_
  refine lv_sipush (v := 4096) hx hb d_Program_addBytes_12 (by decide) ?_
  refine lv_icmp_le (tgt := 21) hx hb d_Program_addBytes_15 (by decide) (fun c2 => ?_) (fun c2 => ?_)
  · rw [if_pos c2] at h
    refine lv_aload_n hx hb d_Program_addBytes_21 rfl (lv_at hl 1 rfl) ?_
    refine va_get (D := (dC, dI)) (ci := 0) (v := .int P_closed) (C := R_Program) (T := F_Program) (N := 7) hx hb hg i_Program hown hK hP 0 rfl rfl 5 (by decide) (hg _ k34) (fun _ h9 => h9) rfl d_Program_addBytes_22 ?_
    refine lv_aload_n hx hb d_Program_addBytes_25 rfl (lv_at hl 1 rfl) ?_
    refine va_get (D := (dC, dI)) (ci := 0) (v := .int P_open) (C := R_Program) (T := F_Program) (N := 7) hx hb hg i_Program hown hK hP 0 rfl rfl 6 (by decide) (hg _ k33) (fun _ h9 => h9) rfl d_Program_addBytes_26 ?_
    refine lv_iadd hx hb d_Program_addBytes_29 ?_
    refine lv_iload_n hx hb d_Program_addBytes_30 rfl (lv_at hl 0 rfl) ?_
    refine lv_iadd hx hb d_Program_addBytes_31 ?_
    refine lv_istore (lv' := [(4, .int ((P_closed + P_open) + z1_1)), (3, .int z1_1), (0, .ref o_Program), (1, .long p0)]) hx hb d_Program_addBytes_32 hl (by decide) rfl (fun ls hl => ?_)
    refine lv_iload hx hb d_Program_addBytes_34 (lv_at hl 0 rfl) ?_
    refine lv_aload_n hx hb d_Program_addBytes_36 rfl (lv_at hl 2 rfl) ?_
    refine va_get (D := (dC, dI)) (ci := 0) (v := .ref r_P_bytes) (C := R_Program) (T := F_Program) (N := 7) hx hb hg i_Program hown hK hP 0 rfl rfl 2 (by decide) (hg _ k35) (fun _ h9 => h9) rfl d_Program_addBytes_37 ?_
    refine va_alen (D := (dC, dI)) (v := Int32.ofNat n_P_bytes) hx hb hK hP 1 0 rfl rfl rfl d_Program_addBytes_40 ?_
    refine lv_icmp_le (tgt := 67) hx hb d_Program_addBytes_41 (by decide) (fun c3 => ?_) (fun c3 => ?_)
    · rw [if_pos c3] at h
      refine lv_iconst (v := 0) hx hb d_Program_addBytes_67 (by decide) ?_
      refine lv_istore (lv' := [(5, .int 0), (4, .int ((P_closed + P_open) + z1_1)), (3, .int z1_1), (0, .ref o_Program), (1, .long p0)]) hx hb d_Program_addBytes_68 hl (by decide) rfl (fun ls hl => ?_)
      refine l_Program_addBytes_1 dC dI N cB o_Program r_P_words r_P_bytes r_P_ends P_size P_constants P_closed P_open n_P_bytes p0 z1_1 hx hb hml hown hg hN hK hA (fun v1_5 w1_f_f_P_bytes z cc cs H locs ls h hG hP hD hS hl => ?_) N (0 : Int32) f_P_bytes _ _ _ _ _ _ h hG (hP.sub [0, 1] rfl) (hD.sub [0, 1] (by decide) rfl) hS (lv_sub hl [0, 1, 2, 3, 4] rfl)
      refine lv_aload_n hx hb d_Program_addBytes_108 rfl (lv_at hl 3 rfl) ?_
      refine lv_dup hx hb d_Program_addBytes_109 rfl ?_
      refine va_get (D := (dC, dI)) (ci := 0) (v := .int P_open) (C := R_Program) (T := F_Program) (N := 7) hx hb hg i_Program hown hK hP 0 rfl rfl 6 (by decide) (hg _ k33) (fun _ h9 => h9) rfl d_Program_addBytes_110 ?_
      refine lv_iload_n hx hb d_Program_addBytes_113 rfl (lv_at hl 2 rfl) ?_
      refine lv_iadd hx hb d_Program_addBytes_114 ?_
      refine va_put (D := (dC, dI)) (ci := 0) (v := .int (P_open + z1_1)) (ty := .int) (C := R_Program) (T := F_Program) (N := 7) hx hb hg i_Program t_Program t_Program_ok n_Program hown hK hP hD hS 0 rfl rfl 6 (by decide) (hg _ k33) (fun _ h9 => h9) rfl (by decide +kernel) rfl rfl (Nat.le_of_ble_eq_true rfl) d_Program_addBytes_115 (fun H locs hP hD hS => ?_)
      have hP : va_P (dC, dI) classes [(o_Program, .inr (0, [.ref r_P_words, .int P_size, .ref r_P_bytes, .ref r_P_ends, .int P_constants, .int P_closed, .int (P_open + z1_1)])), (r_P_bytes, .inl (cB, n_P_bytes, .inl w1_f_f_P_bytes))] H := hP
      have hD : va_D A [(o_Program, .inr (0, [.ref r_P_words, .int P_size, .ref r_P_bytes, .ref r_P_ends, .int P_constants, .int P_closed, .int (P_open + z1_1)])), (r_P_bytes, .inl (cB, n_P_bytes, .inl w1_f_f_P_bytes))] := hD
      refine lv_aload_n hx hb d_Program_addBytes_118 rfl (lv_at hl 3 rfl) ?_
      refine va_get (D := (dC, dI)) (ci := 0) (v := .int (P_open + z1_1)) (C := R_Program) (T := F_Program) (N := 7) hx hb hg i_Program hown hK hP 0 rfl rfl 6 (by decide) (hg _ k33) (fun _ h9 => h9) rfl d_Program_addBytes_119 ?_
      obtain rfl := Option.some.inj h
      have hP9 := hP.sub (ws' := [(o_Program, .inr (0, [.ref r_P_words, .int P_size, .ref r_P_bytes, .ref r_P_ends, .int P_constants, .int P_closed, .int (P_open + z1_1)])), (r_P_bytes, .inl (cB, n_P_bytes, .inl w1_f_f_P_bytes))]) [0, 1] rfl
      have hD9 := hD.sub (ws' := [(o_Program, .inr (0, [.ref r_P_words, .int P_size, .ref r_P_bytes, .ref r_P_ends, .int P_constants, .int P_closed, .int (P_open + z1_1)])), (r_P_bytes, .inl (cB, n_P_bytes, .inl w1_f_f_P_bytes))]) [0, 1] (by decide) rfl
      have hK9 := hK.sub (tys' := [(cB, .byte)]) [0] rfl
      refine W.widen (dz_Gc hG) (dz_Gs hG) ?_
      obtain ⟨rfl, -, -⟩ := hG
      exact W.iret (v := P_open + z1_1) hx hb hr (fun t ht hW => ⟨⟨P_open + z1_1, r_P_bytes, rfl, rfl, by rw [ht]; exact hP9, va_K.moved hW.alike hK9, hD9⟩, hS.F ht⟩) hS.2.2 d_Program_addBytes_122
    · rw [if_neg c3] at h
      refine lv_aload_n hx hb d_Program_addBytes_44 rfl (lv_at hl 2 rfl) ?_
      refine lv_aload_n hx hb d_Program_addBytes_45 rfl (lv_at hl 2 rfl) ?_
      refine va_get (D := (dC, dI)) (ci := 0) (v := .ref r_P_bytes) (C := R_Program) (T := F_Program) (N := 7) hx hb hg i_Program hown hK hP 0 rfl rfl 2 (by decide) (hg _ k35) (fun _ h9 => h9) rfl d_Program_addBytes_46 ?_
      refine lv_aload_n hx hb d_Program_addBytes_49 rfl (lv_at hl 2 rfl) ?_
      refine va_get (D := (dC, dI)) (ci := 0) (v := .ref r_P_bytes) (C := R_Program) (T := F_Program) (N := 7) hx hb hg i_Program hown hK hP 0 rfl rfl 2 (by decide) (hg _ k35) (fun _ h9 => h9) rfl d_Program_addBytes_50 ?_
      refine va_alen (D := (dC, dI)) (v := Int32.ofNat n_P_bytes) hx hb hK hP 1 0 rfl rfl rfl d_Program_addBytes_53 ?_
      refine lv_iload hx hb d_Program_addBytes_54 (lv_at hl 0 rfl) ?_
      refine lv_ldc (v := 69632) hx hb hown (hg _ k36) d_Program_addBytes_56 ?_
      obtain ⟨z8_1, hc8, h⟩ := dz_ob h
      try dsimp only at h
      have hPc := hP.sub (ws' := []) [] rfl
      have hKc := hK.sub (tys' := []) [] rfl
      refine vp_callSi (va_Run.run (va_runSN (As := [.int (Int32.ofNat n_P_bytes), .int ((P_closed + P_open) + z1_1), .int 69632]) (rest := [.ref r_P_bytes, .ref o_Program]) ⟨hx, hb, hml, hown, hg⟩ (c_Engine_longer l dC dI N (Int32.ofNat n_P_bytes) ((P_closed + P_open) + z1_1) (69632 : Int32) z8_1 hc8) ⟨va_cnB 3 hg (gd_N k26) rfl rfl rfl hN.2.2.2.1 (hg _ k27) (by decide +kernel) ⟨Nat.le_of_ble_eq_true rfl, Nat.le_of_ble_eq_true rfl⟩, hg _ k28, trivial⟩ ⟨dz_blindR, fun U hU hW => ⟨rfl, dz_Nw hW hN, by rw [hU]; exact hPc, va_K.moved hW.alike hKc⟩⟩ rfl rfl hl.1 rfl (lv_room (Nat.le_of_ble_eq_true rfl)) d_Program_addBytes_58 ⟨dz_Gc hG, dz_Gs hG⟩)) (fun r8 hw => ?_)
      have hw : z8_1 = r8 := hw.symm
      subst hw
      obtain ⟨⟨⟨z9_1, z9_2⟩, zc9, zs9⟩, hc9, h⟩ := dz_ob h
      try dsimp only at h
      obtain ⟨z, h, hG⟩ := dz_tkG h hG
      have hPc := hP.sub (ws' := [(r_P_bytes, .inl (cB, n_P_bytes, .inl f_P_bytes))]) [1] rfl
      have hKc := hK.sub (tys' := [(cB, .byte)]) [0] rfl
      have hDc := hD.sub (ws' := [(r_P_bytes, .inl (cB, n_P_bytes, .inl f_P_bytes))]) [1] (by decide) rfl
      have hFc := va_free (wc := [(r_P_bytes, .inl (cB, n_P_bytes, .inl f_P_bytes))]) hD hS hA [1] rfl
      refine va_callr (va_runS (As := [.ref r_P_bytes, .int z8_1]) (rest := [.ref o_Program]) ⟨hx, hb, hml, hown, hg⟩ (c_Arrays_copyOfB l dC dI N cB r_P_bytes n_P_bytes f_P_bytes z8_1 s.heap.size (z9_1, z9_2) zc9 zs9 hc9) (va_cwS 2 hg (gd_S k43 k44 k22 k42) rfl rfl rfl (by decide +kernel) ⟨Nat.le_of_ble_eq_true rfl, Nat.le_of_ble_eq_true rfl⟩) ⟨dz_blind, fun U hU hW => ⟨rfl, dz_Nw hW hN, by rw [hU], by rw [hU]; exact hPc, va_K.moved hW.alike hKc, hDc.weaken (fun _ _ _ _ => trivial)⟩⟩ rfl rfl hl.1 rfl (lv_room (Nat.le_of_ble_eq_true rfl)) d_Program_addBytes_61 ⟨dz_Gc hG, dz_Gs hG⟩) hS (fun q _ h => hFc q h) hFc (fun u9 a9_r t9 H1 locs ht hvm hw hB hz1 hk1 hS => ?_)
      obtain ⟨hP1, hK1, hD1⟩ := hB
      rw [ht] at hP1
      obtain ⟨hP, hD⟩ := va_join (wr := [(o_Program, .inr (0, [.ref r_P_words, .int P_size, .ref r_P_bytes, .ref r_P_ends, .int P_constants, .int P_closed, .int P_open]))]) (w1 := [(r_P_bytes, .inl (cB, n_P_bytes, .inl f_P_bytes)), (a9_r, .inl (cB, z9_1, .inl z9_2))]) hP hD [1] [0] rfl rfl (by decide) (by decide) hk1 hFc hP1 hD1
      generalize H1 = H at hP hS ⊢
      have hP : va_P (dC, dI) classes [(o_Program, .inr (0, [.ref r_P_words, .int P_size, .ref r_P_bytes, .ref r_P_ends, .int P_constants, .int P_closed, .int P_open])), (r_P_bytes, .inl (cB, n_P_bytes, .inl f_P_bytes)), (a9_r, .inl (cB, z9_1, .inl z9_2))] H := hP
      have hD : va_D A [(o_Program, .inr (0, [.ref r_P_words, .int P_size, .ref r_P_bytes, .ref r_P_ends, .int P_constants, .int P_closed, .int P_open])), (r_P_bytes, .inl (cB, n_P_bytes, .inl f_P_bytes)), (a9_r, .inl (cB, z9_1, .inl z9_2))] := hD
      refine va_put (D := (dC, dI)) (ci := 0) (v := .ref a9_r) (ty := .array .byte) (C := R_Program) (T := F_Program) (N := 7) hx hb hg i_Program t_Program t_Program_ok n_Program hown hK hP hD hS 0 rfl rfl 2 (by decide) (hg _ k35) (fun _ h9 => h9) rfl (by decide +kernel) rfl rfl (Nat.le_of_ble_eq_true rfl) d_Program_addBytes_64 (fun H locs hP hD hS => ?_)
      have hP : va_P (dC, dI) classes [(o_Program, .inr (0, [.ref r_P_words, .int P_size, .ref a9_r, .ref r_P_ends, .int P_constants, .int P_closed, .int P_open])), (r_P_bytes, .inl (cB, n_P_bytes, .inl f_P_bytes)), (a9_r, .inl (cB, z9_1, .inl z9_2))] H := hP
      have hD : va_D A [(o_Program, .inr (0, [.ref r_P_words, .int P_size, .ref a9_r, .ref r_P_ends, .int P_constants, .int P_closed, .int P_open])), (r_P_bytes, .inl (cB, n_P_bytes, .inl f_P_bytes)), (a9_r, .inl (cB, z9_1, .inl z9_2))] := hD
      refine lv_iconst (v := 0) hx hb d_Program_addBytes_67 (by decide) ?_
      refine lv_istore (lv' := [(5, .int 0), (4, .int ((P_closed + P_open) + z1_1)), (3, .int z1_1), (0, .ref o_Program), (1, .long p0)]) hx hb d_Program_addBytes_68 hl (by decide) rfl (fun ls hl => ?_)
      refine l_Program_addBytes_2 dC dI N cB o_Program r_P_words r_P_bytes r_P_ends P_size P_constants P_closed P_open n_P_bytes f_P_bytes p0 z1_1 z9_1 a9_r hx hb hml hown hg hN hK hA (fun v2_5 w2_f_f_P_bytes z cc cs H locs ls h hG hP hD hS hl => ?_) N (0 : Int32) z9_2 _ _ _ _ _ _ h hG (hP.sub [0, 1, 2] rfl) (hD.sub [0, 1, 2] (by decide) rfl) hS (lv_sub hl [0, 1, 2, 3, 4] rfl)
      refine lv_aload_n hx hb d_Program_addBytes_108 rfl (lv_at hl 3 rfl) ?_
      refine lv_dup hx hb d_Program_addBytes_109 rfl ?_
      refine va_get (D := (dC, dI)) (ci := 0) (v := .int P_open) (C := R_Program) (T := F_Program) (N := 7) hx hb hg i_Program hown hK hP 0 rfl rfl 6 (by decide) (hg _ k33) (fun _ h9 => h9) rfl d_Program_addBytes_110 ?_
      refine lv_iload_n hx hb d_Program_addBytes_113 rfl (lv_at hl 2 rfl) ?_
      refine lv_iadd hx hb d_Program_addBytes_114 ?_
      refine va_put (D := (dC, dI)) (ci := 0) (v := .int (P_open + z1_1)) (ty := .int) (C := R_Program) (T := F_Program) (N := 7) hx hb hg i_Program t_Program t_Program_ok n_Program hown hK hP hD hS 0 rfl rfl 6 (by decide) (hg _ k33) (fun _ h9 => h9) rfl (by decide +kernel) rfl rfl (Nat.le_of_ble_eq_true rfl) d_Program_addBytes_115 (fun H locs hP hD hS => ?_)
      have hP : va_P (dC, dI) classes [(o_Program, .inr (0, [.ref r_P_words, .int P_size, .ref a9_r, .ref r_P_ends, .int P_constants, .int P_closed, .int (P_open + z1_1)])), (r_P_bytes, .inl (cB, n_P_bytes, .inl f_P_bytes)), (a9_r, .inl (cB, z9_1, .inl w2_f_f_P_bytes))] H := hP
      have hD : va_D A [(o_Program, .inr (0, [.ref r_P_words, .int P_size, .ref a9_r, .ref r_P_ends, .int P_constants, .int P_closed, .int (P_open + z1_1)])), (r_P_bytes, .inl (cB, n_P_bytes, .inl f_P_bytes)), (a9_r, .inl (cB, z9_1, .inl w2_f_f_P_bytes))] := hD
      refine lv_aload_n hx hb d_Program_addBytes_118 rfl (lv_at hl 3 rfl) ?_
      refine va_get (D := (dC, dI)) (ci := 0) (v := .int (P_open + z1_1)) (C := R_Program) (T := F_Program) (N := 7) hx hb hg i_Program hown hK hP 0 rfl rfl 6 (by decide) (hg _ k33) (fun _ h9 => h9) rfl d_Program_addBytes_119 ?_
      obtain rfl := Option.some.inj h
      have hP9 := hP.sub (ws' := [(o_Program, .inr (0, [.ref r_P_words, .int P_size, .ref a9_r, .ref r_P_ends, .int P_constants, .int P_closed, .int (P_open + z1_1)])), (a9_r, .inl (cB, z9_1, .inl w2_f_f_P_bytes))]) [0, 2] rfl
      have hD9 := hD.sub (ws' := [(o_Program, .inr (0, [.ref r_P_words, .int P_size, .ref a9_r, .ref r_P_ends, .int P_constants, .int P_closed, .int (P_open + z1_1)])), (a9_r, .inl (cB, z9_1, .inl w2_f_f_P_bytes))]) [0, 2] (by decide) rfl
      have hK9 := hK.sub (tys' := [(cB, .byte)]) [0] rfl
      refine W.widen (dz_Gc hG) (dz_Gs hG) ?_
      obtain ⟨rfl, -, -⟩ := hG
      exact W.iret (v := P_open + z1_1) hx hb hr (fun t ht hW => ⟨⟨P_open + z1_1, a9_r, rfl, rfl, by rw [ht]; exact hP9, va_K.moved hW.alike hK9, hD9⟩, hS.F ht⟩) hS.2.2 d_Program_addBytes_122
  · rw [if_neg c2] at h
    refine lv_bipush (v := (-2)) hx hb d_Program_addBytes_18 (by decide) ?_
    obtain rfl := Option.some.inj h
    have hP9 := hP.sub (ws' := [(o_Program, .inr (0, [.ref r_P_words, .int P_size, .ref r_P_bytes, .ref r_P_ends, .int P_constants, .int P_closed, .int P_open])), (r_P_bytes, .inl (cB, n_P_bytes, .inl f_P_bytes))]) [0, 1] rfl
    have hD9 := hD.sub (ws' := [(o_Program, .inr (0, [.ref r_P_words, .int P_size, .ref r_P_bytes, .ref r_P_ends, .int P_constants, .int P_closed, .int P_open])), (r_P_bytes, .inl (cB, n_P_bytes, .inl f_P_bytes))]) [0, 1] (by decide) rfl
    have hK9 := hK.sub (tys' := [(cB, .byte)]) [0] rfl
    refine W.widen (dz_Gc hG) (dz_Gs hG) ?_
    obtain ⟨rfl, -, -⟩ := hG
    exact W.iret (v := (-2)) hx hb hr (fun t ht hW => ⟨⟨(-2), r_P_bytes, rfl, rfl, by rw [ht]; exact hP9, va_K.moved hW.alike hK9, hD9⟩, hS.F ht⟩) hS.2.2 d_Program_addBytes_20

set_option maxHeartbeats 4000000 in
set_option maxRecDepth 100000 in
theorem c_Program_endConstant (l : Launch) (dC : Nat → ClassId) (dI : Nat → Nat → Nat) (N : Nat) (cI : ClassId) (o_Program : Nat) (r_P_words : Nat) (r_P_bytes : Nat) (r_P_ends : Nat) (P_size : Int32) (P_constants : Int32) (P_closed : Int32) (P_open : Int32) (n_P_ends : Nat) (f_P_ends : Nat → Int32) (sz : Nat) (Z1 : Int32 × Int32 × Int32 × Int32 × Nat × (Nat → Int32)) (Zc Zs : Nat) (h : m_Program_endConstant N P_size P_constants P_closed P_open n_P_ends f_P_ends = some (Z1, Zc, Zs)) : Met l y_Program_endConstant (.code y_Program_endConstant b_Program_endConstant 1 (some .int) :: lw_g) ({ frames := 2, cells := Zc, slots := Zs, locals := 82 }) (va_Pc [.ref o_Program] (fun U => dz_N U ∧ U.heap.size = sz ∧ va_P (dC, dI) classes [(o_Program, .inr (0, [.ref r_P_words, .int P_size, .ref r_P_bytes, .ref r_P_ends, .int P_constants, .int P_closed, .int P_open])), (r_P_ends, .inl (cI, n_P_ends, .inl f_P_ends))] U.heap ∧ va_K (dC, dI) classes [(cI, .int)] U ∧ va_D (fun _ => True) [(o_Program, .inr (0, [.ref r_P_words, .int P_size, .ref r_P_bytes, .ref r_P_ends, .int P_constants, .int P_closed, .int P_open])), (r_P_ends, .inl (cI, n_P_ends, .inl f_P_ends))])) (va_Qi (fun (r : Int32) (_ : Nat) => r = Z1.1) (fun (u : Nat) t => va_P (dC, dI) classes [(o_Program, .inr (0, [.ref r_P_words, .int P_size, .ref r_P_bytes, .ref u, .int Z1.2.2.1, .int Z1.2.1, .int Z1.2.2.2.1])), (u, .inl (cI, Z1.2.2.2.2.1, .inl Z1.2.2.2.2.2))] t.heap ∧ va_K (dC, dI) classes [(cI, .int)] t ∧ va_D (va_A [(o_Program, .inr (0, [.ref r_P_words, .int P_size, .ref r_P_bytes, .ref r_P_ends, .int P_constants, .int P_closed, .int P_open])), (r_P_ends, .inl (cI, n_P_ends, .inl f_P_ends))] sz) [(o_Program, .inr (0, [.ref r_P_words, .int P_size, .ref r_P_bytes, .ref u, .int Z1.2.2.1, .int Z1.2.1, .int Z1.2.2.2.1])), (u, .inl (cI, Z1.2.2.2.2.1, .inl Z1.2.2.2.2.2))]) (va_A [(o_Program, .inr (0, [.ref r_P_words, .int P_size, .ref r_P_bytes, .ref r_P_ends, .int P_constants, .int P_closed, .int P_open])), (r_P_ends, .inl (cI, n_P_ends, .inl f_P_ends))] sz)) Zc Zs (va_A [(o_Program, .inr (0, [.ref r_P_words, .int P_size, .ref r_P_bytes, .ref r_P_ends, .int P_constants, .int P_closed, .int P_open])), (r_P_ends, .inl (cI, n_P_ends, .inl f_P_ends))] sz) := by
  refine Met.ofW (cc := b_Program_endConstant) (maxL := 1) (ret := (some .int)) (by decide +kernel) rfl ?_
  intro p e s m args below meth c s₁ B hml hv
  obtain ⟨rfl, hN, hsz, hP, hK, hD0⟩ := hv
  have hx := B.exec
  have hb := B.bytes
  have hr := B.returns
  have hg : ∀ w ∈ lw_g, w.before _ s = true := fun w hw => atoms_spec (ws := .code y_Program_endConstant b_Program_endConstant 1 (some .int) :: lw_g) B.pre w (List.mem_cons_of_mem _ hw)
  have hown : s.vm.findClass R_Program = some m.cls := findClass_of_methodNamed B.named
  have hlocks := B.notSynchronized
  clear B
  subst hsz
  have hD := hD0.self (sz := s.heap.size)
  generalize hAe : va_A [(o_Program, .inr (0, [.ref r_P_words, .int P_size, .ref r_P_bytes, .ref r_P_ends, .int P_constants, .int P_closed, .int P_open])), (r_P_ends, .inl (cI, n_P_ends, .inl f_P_ends))] s.heap.size = A at hD ⊢
  have hA : ∀ q : Nat, s.heap.size ≤ q → A q := fun q h => by rw [← hAe]; exact Or.inr h
  have hS : va_S A s.heap s.heap [] := va_S.rf
  have hP : va_P (dC, dI) classes [(o_Program, .inr (0, [.ref r_P_words, .int P_size, .ref r_P_bytes, .ref r_P_ends, .int P_constants, .int P_closed, .int P_open])), (r_P_ends, .inl (cI, n_P_ends, .inl f_P_ends))] s.heap := hP
  have hl := lv_entry ([.ref o_Program]) (n := 1) (Nat.le_of_ble_eq_true rfl)
  rw [lg_entry_eq]
  generalize (lg_sl ([.ref o_Program]) ++ List.replicate (1 - (lg_sl ([.ref o_Program])).length) Slot.unset).toArray = ls at hl ⊢
  have hl : lv_has ls 1 [(0, .ref o_Program)] := hl
  unfold m_Program_endConstant at h
  have hG : dz_G Z1 Zc Zs (Z1, Zc, Zs) 0 0 := ⟨rfl, (Nat.zero_add _).symm, (Nat.zero_add _).symm⟩
  generalize (Z1, Zc, Zs) = z at h hG
  refine lv_aload_n hx hb d_Program_endConstant_0 rfl (lv_at hl 0 rfl) ?_
  refine va_get (D := (dC, dI)) (ci := 0) (v := .int P_constants) (C := R_Program) (T := F_Program) (N := 7) hx hb hg i_Program hown hK hP 0 rfl rfl 4 (by decide) (hg _ k45) (fun _ h9 => h9) rfl d_Program_endConstant_1 ?_
  refine lv_sipush (v := 1024) hx hb d_Program_endConstant_4 (by decide) ?_
  refine lv_icmp_ge (tgt := 24) hx hb d_Program_endConstant_7 (by decide) (fun c1 => ?_) (fun c1 => ?_)
  · rw [if_pos c1] at h
    refine lv_bipush (v := (-2)) hx hb d_Program_endConstant_24 (by decide) ?_
    obtain rfl := Option.some.inj h
    have hP9 := hP.sub (ws' := [(o_Program, .inr (0, [.ref r_P_words, .int P_size, .ref r_P_bytes, .ref r_P_ends, .int P_constants, .int P_closed, .int P_open])), (r_P_ends, .inl (cI, n_P_ends, .inl f_P_ends))]) [0, 1] rfl
    have hD9 := hD.sub (ws' := [(o_Program, .inr (0, [.ref r_P_words, .int P_size, .ref r_P_bytes, .ref r_P_ends, .int P_constants, .int P_closed, .int P_open])), (r_P_ends, .inl (cI, n_P_ends, .inl f_P_ends))]) [0, 1] (by decide) rfl
    have hK9 := hK.sub (tys' := [(cI, .int)]) [0] rfl
    refine W.widen (dz_Gc hG) (dz_Gs hG) ?_
    obtain ⟨rfl, -, -⟩ := hG
    exact W.iret (v := (-2)) hx hb hr (fun t ht hW => ⟨⟨(-2), r_P_ends, rfl, rfl, by rw [ht]; exact hP9, va_K.moved hW.alike hK9, hD9⟩, hS.F ht⟩) hS.2.2 d_Program_endConstant_26
  · rw [if_neg c1] at h
    refine lv_aload_n hx hb d_Program_endConstant_10 rfl (lv_at hl 0 rfl) ?_
    refine va_get (D := (dC, dI)) (ci := 0) (v := .int P_closed) (C := R_Program) (T := F_Program) (N := 7) hx hb hg i_Program hown hK hP 0 rfl rfl 5 (by decide) (hg _ k34) (fun _ h9 => h9) rfl d_Program_endConstant_11 ?_
    refine lv_aload_n hx hb d_Program_endConstant_14 rfl (lv_at hl 0 rfl) ?_
    refine va_get (D := (dC, dI)) (ci := 0) (v := .int P_open) (C := R_Program) (T := F_Program) (N := 7) hx hb hg i_Program hown hK hP 0 rfl rfl 6 (by decide) (hg _ k33) (fun _ h9 => h9) rfl d_Program_endConstant_15 ?_
    refine lv_iadd hx hb d_Program_endConstant_18 ?_
    refine lv_ldc (v := 65536) hx hb hown (hg _ k46) d_Program_endConstant_19 ?_
    refine lv_icmp_le (tgt := 27) hx hb d_Program_endConstant_21 (by decide) (fun c2 => ?_) (fun c2 => ?_)
    · rw [if_pos c2] at h
      refine lv_aload_n hx hb d_Program_endConstant_27 rfl (lv_at hl 0 rfl) ?_
      refine va_get (D := (dC, dI)) (ci := 0) (v := .int P_constants) (C := R_Program) (T := F_Program) (N := 7) hx hb hg i_Program hown hK hP 0 rfl rfl 4 (by decide) (hg _ k45) (fun _ h9 => h9) rfl d_Program_endConstant_28 ?_
      refine lv_aload_n hx hb d_Program_endConstant_31 rfl (lv_at hl 0 rfl) ?_
      refine va_get (D := (dC, dI)) (ci := 0) (v := .ref r_P_ends) (C := R_Program) (T := F_Program) (N := 7) hx hb hg i_Program hown hK hP 0 rfl rfl 3 (by decide) (hg _ k47) (fun _ h9 => h9) rfl d_Program_endConstant_32 ?_
      refine va_alen (D := (dC, dI)) (v := Int32.ofNat n_P_ends) hx hb hK hP 1 0 rfl rfl rfl d_Program_endConstant_35 ?_
      refine lv_icmp_lt (tgt := 67) hx hb d_Program_endConstant_36 (by decide) (fun c3 => ?_) (fun c3 => ?_)
      · rw [if_pos c3] at h
        refine lv_aload_n hx hb d_Program_endConstant_67 rfl (lv_at hl 0 rfl) ?_
        refine lv_dup hx hb d_Program_endConstant_68 rfl ?_
        refine va_get (D := (dC, dI)) (ci := 0) (v := .int P_closed) (C := R_Program) (T := F_Program) (N := 7) hx hb hg i_Program hown hK hP 0 rfl rfl 5 (by decide) (hg _ k34) (fun _ h9 => h9) rfl d_Program_endConstant_69 ?_
        refine lv_aload_n hx hb d_Program_endConstant_72 rfl (lv_at hl 0 rfl) ?_
        refine va_get (D := (dC, dI)) (ci := 0) (v := .int P_open) (C := R_Program) (T := F_Program) (N := 7) hx hb hg i_Program hown hK hP 0 rfl rfl 6 (by decide) (hg _ k33) (fun _ h9 => h9) rfl d_Program_endConstant_73 ?_
        refine lv_iadd hx hb d_Program_endConstant_76 ?_
        refine va_put (D := (dC, dI)) (ci := 0) (v := .int (P_closed + P_open)) (ty := .int) (C := R_Program) (T := F_Program) (N := 7) hx hb hg i_Program t_Program t_Program_ok n_Program hown hK hP hD hS 0 rfl rfl 5 (by decide) (hg _ k34) (fun _ h9 => h9) rfl (by decide +kernel) rfl rfl (Nat.le_of_ble_eq_true rfl) d_Program_endConstant_77 (fun H locs hP hD hS => ?_)
        have hP : va_P (dC, dI) classes [(o_Program, .inr (0, [.ref r_P_words, .int P_size, .ref r_P_bytes, .ref r_P_ends, .int P_constants, .int (P_closed + P_open), .int P_open])), (r_P_ends, .inl (cI, n_P_ends, .inl f_P_ends))] H := hP
        have hD : va_D A [(o_Program, .inr (0, [.ref r_P_words, .int P_size, .ref r_P_bytes, .ref r_P_ends, .int P_constants, .int (P_closed + P_open), .int P_open])), (r_P_ends, .inl (cI, n_P_ends, .inl f_P_ends))] := hD
        refine lv_aload_n hx hb d_Program_endConstant_80 rfl (lv_at hl 0 rfl) ?_
        refine lv_iconst (v := 0) hx hb d_Program_endConstant_81 (by decide) ?_
        refine va_put (D := (dC, dI)) (ci := 0) (v := .int 0) (ty := .int) (C := R_Program) (T := F_Program) (N := 7) hx hb hg i_Program t_Program t_Program_ok n_Program hown hK hP hD hS 0 rfl rfl 6 (by decide) (hg _ k33) (fun _ h9 => h9) rfl (by decide +kernel) rfl rfl (Nat.le_of_ble_eq_true rfl) d_Program_endConstant_82 (fun H locs hP hD hS => ?_)
        have hP : va_P (dC, dI) classes [(o_Program, .inr (0, [.ref r_P_words, .int P_size, .ref r_P_bytes, .ref r_P_ends, .int P_constants, .int (P_closed + P_open), .int 0])), (r_P_ends, .inl (cI, n_P_ends, .inl f_P_ends))] H := hP
        have hD : va_D A [(o_Program, .inr (0, [.ref r_P_words, .int P_size, .ref r_P_bytes, .ref r_P_ends, .int P_constants, .int (P_closed + P_open), .int 0])), (r_P_ends, .inl (cI, n_P_ends, .inl f_P_ends))] := hD
        refine lv_aload_n hx hb d_Program_endConstant_85 rfl (lv_at hl 0 rfl) ?_
        refine va_get (D := (dC, dI)) (ci := 0) (v := .ref r_P_ends) (C := R_Program) (T := F_Program) (N := 7) hx hb hg i_Program hown hK hP 0 rfl rfl 3 (by decide) (hg _ k47) (fun _ h9 => h9) rfl d_Program_endConstant_86 ?_
        refine lv_aload_n hx hb d_Program_endConstant_89 rfl (lv_at hl 0 rfl) ?_
        refine va_get (D := (dC, dI)) (ci := 0) (v := .int P_constants) (C := R_Program) (T := F_Program) (N := 7) hx hb hg i_Program hown hK hP 0 rfl rfl 4 (by decide) (hg _ k45) (fun _ h9 => h9) rfl d_Program_endConstant_90 ?_
        refine lv_aload_n hx hb d_Program_endConstant_93 rfl (lv_at hl 0 rfl) ?_
        refine va_get (D := (dC, dI)) (ci := 0) (v := .int (P_closed + P_open)) (C := R_Program) (T := F_Program) (N := 7) hx hb hg i_Program hown hK hP 0 rfl rfl 5 (by decide) (hg _ k34) (fun _ h9 => h9) rfl d_Program_endConstant_94 ?_
        obtain ⟨i4, h⟩ := dz_oi h
        refine va_iast (D := (dC, dI)) hx hb hK hP hD hS 1 0 rfl rfl i4 d_Program_endConstant_97 (fun H locs hP hD hS => ?_)
        have hP : va_P (dC, dI) classes [(o_Program, .inr (0, [.ref r_P_words, .int P_size, .ref r_P_bytes, .ref r_P_ends, .int P_constants, .int (P_closed + P_open), .int 0])), (r_P_ends, .inl (cI, n_P_ends, .inl (upd f_P_ends P_constants.toNatClampNeg (P_closed + P_open))))] H := hP
        have hD : va_D A [(o_Program, .inr (0, [.ref r_P_words, .int P_size, .ref r_P_bytes, .ref r_P_ends, .int P_constants, .int (P_closed + P_open), .int 0])), (r_P_ends, .inl (cI, n_P_ends, .inl (upd f_P_ends P_constants.toNatClampNeg (P_closed + P_open))))] := hD
        refine lv_aload_n hx hb d_Program_endConstant_98 rfl (lv_at hl 0 rfl) ?_
        refine lv_dup hx hb d_Program_endConstant_99 rfl ?_
        refine va_get (D := (dC, dI)) (ci := 0) (v := .int P_constants) (C := R_Program) (T := F_Program) (N := 7) hx hb hg i_Program hown hK hP 0 rfl rfl 4 (by decide) (hg _ k45) (fun _ h9 => h9) rfl d_Program_endConstant_100 ?_
        refine lv_dup_x1 hx hb d_Program_endConstant_103 rfl rfl ?_
        refine lv_iconst (v := 1) hx hb d_Program_endConstant_104 (by decide) ?_
        refine lv_iadd hx hb d_Program_endConstant_105 ?_
        refine va_put (D := (dC, dI)) (ci := 0) (v := .int (P_constants + 1)) (ty := .int) (C := R_Program) (T := F_Program) (N := 7) hx hb hg i_Program t_Program t_Program_ok n_Program hown hK hP hD hS 0 rfl rfl 4 (by decide) (hg _ k45) (fun _ h9 => h9) rfl (by decide +kernel) rfl rfl (Nat.le_of_ble_eq_true rfl) d_Program_endConstant_106 (fun H locs hP hD hS => ?_)
        have hP : va_P (dC, dI) classes [(o_Program, .inr (0, [.ref r_P_words, .int P_size, .ref r_P_bytes, .ref r_P_ends, .int (P_constants + 1), .int (P_closed + P_open), .int 0])), (r_P_ends, .inl (cI, n_P_ends, .inl (upd f_P_ends P_constants.toNatClampNeg (P_closed + P_open))))] H := hP
        have hD : va_D A [(o_Program, .inr (0, [.ref r_P_words, .int P_size, .ref r_P_bytes, .ref r_P_ends, .int (P_constants + 1), .int (P_closed + P_open), .int 0])), (r_P_ends, .inl (cI, n_P_ends, .inl (upd f_P_ends P_constants.toNatClampNeg (P_closed + P_open))))] := hD
        obtain rfl := Option.some.inj h
        have hP9 := hP.sub (ws' := [(o_Program, .inr (0, [.ref r_P_words, .int P_size, .ref r_P_bytes, .ref r_P_ends, .int (P_constants + 1), .int (P_closed + P_open), .int 0])), (r_P_ends, .inl (cI, n_P_ends, .inl (upd f_P_ends P_constants.toNatClampNeg (P_closed + P_open))))]) [0, 1] rfl
        have hD9 := hD.sub (ws' := [(o_Program, .inr (0, [.ref r_P_words, .int P_size, .ref r_P_bytes, .ref r_P_ends, .int (P_constants + 1), .int (P_closed + P_open), .int 0])), (r_P_ends, .inl (cI, n_P_ends, .inl (upd f_P_ends P_constants.toNatClampNeg (P_closed + P_open))))]) [0, 1] (by decide) rfl
        have hK9 := hK.sub (tys' := [(cI, .int)]) [0] rfl
        refine W.widen (dz_Gc hG) (dz_Gs hG) ?_
        obtain ⟨rfl, -, -⟩ := hG
        exact W.iret (v := P_constants) hx hb hr (fun t ht hW => ⟨⟨P_constants, r_P_ends, rfl, rfl, by rw [ht]; exact hP9, va_K.moved hW.alike hK9, hD9⟩, hS.F ht⟩) hS.2.2 d_Program_endConstant_109
      · rw [if_neg c3] at h
        refine lv_aload_n hx hb d_Program_endConstant_39 rfl (lv_at hl 0 rfl) ?_
        refine lv_aload_n hx hb d_Program_endConstant_40 rfl (lv_at hl 0 rfl) ?_
        refine va_get (D := (dC, dI)) (ci := 0) (v := .ref r_P_ends) (C := R_Program) (T := F_Program) (N := 7) hx hb hg i_Program hown hK hP 0 rfl rfl 3 (by decide) (hg _ k47) (fun _ h9 => h9) rfl d_Program_endConstant_41 ?_
        refine lv_aload_n hx hb d_Program_endConstant_44 rfl (lv_at hl 0 rfl) ?_
        refine va_get (D := (dC, dI)) (ci := 0) (v := .ref r_P_ends) (C := R_Program) (T := F_Program) (N := 7) hx hb hg i_Program hown hK hP 0 rfl rfl 3 (by decide) (hg _ k47) (fun _ h9 => h9) rfl d_Program_endConstant_45 ?_
        refine va_alen (D := (dC, dI)) (v := Int32.ofNat n_P_ends) hx hb hK hP 1 0 rfl rfl rfl d_Program_endConstant_48 ?_
        refine lv_aload_n hx hb d_Program_endConstant_49 rfl (lv_at hl 0 rfl) ?_
        refine va_get (D := (dC, dI)) (ci := 0) (v := .int P_constants) (C := R_Program) (T := F_Program) (N := 7) hx hb hg i_Program hown hK hP 0 rfl rfl 4 (by decide) (hg _ k45) (fun _ h9 => h9) rfl d_Program_endConstant_50 ?_
        refine lv_iconst (v := 1) hx hb d_Program_endConstant_53 (by decide) ?_
        refine lv_iadd hx hb d_Program_endConstant_54 ?_
        refine lv_sipush (v := 1024) hx hb d_Program_endConstant_55 (by decide) ?_
        obtain ⟨z5_1, hc5, h⟩ := dz_ob h
        try dsimp only at h
        have hPc := hP.sub (ws' := []) [] rfl
        have hKc := hK.sub (tys' := []) [] rfl
        refine vp_callSi (va_Run.run (va_runSN (As := [.int (Int32.ofNat n_P_ends), .int (P_constants + 1), .int 1024]) (rest := [.ref r_P_ends, .ref o_Program]) ⟨hx, hb, hml, hown, hg⟩ (c_Engine_longer l dC dI N (Int32.ofNat n_P_ends) (P_constants + 1) (1024 : Int32) z5_1 hc5) ⟨va_cnB 3 hg (gd_N k26) rfl rfl rfl hN.2.2.2.1 (hg _ k27) (by decide +kernel) ⟨Nat.le_of_ble_eq_true rfl, Nat.le_of_ble_eq_true rfl⟩, hg _ k28, trivial⟩ ⟨dz_blindR, fun U hU hW => ⟨rfl, dz_Nw hW hN, by rw [hU]; exact hPc, va_K.moved hW.alike hKc⟩⟩ rfl rfl hl.1 rfl (lv_room (Nat.le_of_ble_eq_true rfl)) d_Program_endConstant_58 ⟨dz_Gc hG, dz_Gs hG⟩)) (fun r5 hw => ?_)
        have hw : z5_1 = r5 := hw.symm
        subst hw
        obtain ⟨⟨⟨z6_1, z6_2⟩, zc6, zs6⟩, hc6, h⟩ := dz_ob h
        try dsimp only at h
        obtain ⟨z, h, hG⟩ := dz_tkG h hG
        have hPc := hP.sub (ws' := [(r_P_ends, .inl (cI, n_P_ends, .inl f_P_ends))]) [1] rfl
        have hKc := hK.sub (tys' := [(cI, .int)]) [0] rfl
        have hDc := hD.sub (ws' := [(r_P_ends, .inl (cI, n_P_ends, .inl f_P_ends))]) [1] (by decide) rfl
        have hFc := va_free (wc := [(r_P_ends, .inl (cI, n_P_ends, .inl f_P_ends))]) hD hS hA [1] rfl
        refine va_callr (va_runS (As := [.ref r_P_ends, .int z5_1]) (rest := [.ref o_Program]) ⟨hx, hb, hml, hown, hg⟩ (c_Arrays_copyOfI l dC dI N cI r_P_ends n_P_ends f_P_ends z5_1 s.heap.size (z6_1, z6_2) zc6 zs6 hc6) (va_cwS 2 hg (gd_S k30 k31 k22 k29) rfl rfl rfl (by decide +kernel) ⟨Nat.le_of_ble_eq_true rfl, Nat.le_of_ble_eq_true rfl⟩) ⟨dz_blind, fun U hU hW => ⟨rfl, dz_Nw hW hN, by rw [hU], by rw [hU]; exact hPc, va_K.moved hW.alike hKc, hDc.weaken (fun _ _ _ _ => trivial)⟩⟩ rfl rfl hl.1 rfl (lv_room (Nat.le_of_ble_eq_true rfl)) d_Program_endConstant_61 ⟨dz_Gc hG, dz_Gs hG⟩) hS (fun q _ h => hFc q h) hFc (fun u6 a6_r t6 H1 locs ht hvm hw hB hz1 hk1 hS => ?_)
        obtain ⟨hP1, hK1, hD1⟩ := hB
        rw [ht] at hP1
        obtain ⟨hP, hD⟩ := va_join (wr := [(o_Program, .inr (0, [.ref r_P_words, .int P_size, .ref r_P_bytes, .ref r_P_ends, .int P_constants, .int P_closed, .int P_open]))]) (w1 := [(r_P_ends, .inl (cI, n_P_ends, .inl f_P_ends)), (a6_r, .inl (cI, z6_1, .inl z6_2))]) hP hD [1] [0] rfl rfl (by decide) (by decide) hk1 hFc hP1 hD1
        generalize H1 = H at hP hS ⊢
        have hP : va_P (dC, dI) classes [(o_Program, .inr (0, [.ref r_P_words, .int P_size, .ref r_P_bytes, .ref r_P_ends, .int P_constants, .int P_closed, .int P_open])), (r_P_ends, .inl (cI, n_P_ends, .inl f_P_ends)), (a6_r, .inl (cI, z6_1, .inl z6_2))] H := hP
        have hD : va_D A [(o_Program, .inr (0, [.ref r_P_words, .int P_size, .ref r_P_bytes, .ref r_P_ends, .int P_constants, .int P_closed, .int P_open])), (r_P_ends, .inl (cI, n_P_ends, .inl f_P_ends)), (a6_r, .inl (cI, z6_1, .inl z6_2))] := hD
        refine va_put (D := (dC, dI)) (ci := 0) (v := .ref a6_r) (ty := .array .int) (C := R_Program) (T := F_Program) (N := 7) hx hb hg i_Program t_Program t_Program_ok n_Program hown hK hP hD hS 0 rfl rfl 3 (by decide) (hg _ k47) (fun _ h9 => h9) rfl (by decide +kernel) rfl rfl (Nat.le_of_ble_eq_true rfl) d_Program_endConstant_64 (fun H locs hP hD hS => ?_)
        have hP : va_P (dC, dI) classes [(o_Program, .inr (0, [.ref r_P_words, .int P_size, .ref r_P_bytes, .ref a6_r, .int P_constants, .int P_closed, .int P_open])), (r_P_ends, .inl (cI, n_P_ends, .inl f_P_ends)), (a6_r, .inl (cI, z6_1, .inl z6_2))] H := hP
        have hD : va_D A [(o_Program, .inr (0, [.ref r_P_words, .int P_size, .ref r_P_bytes, .ref a6_r, .int P_constants, .int P_closed, .int P_open])), (r_P_ends, .inl (cI, n_P_ends, .inl f_P_ends)), (a6_r, .inl (cI, z6_1, .inl z6_2))] := hD
        refine lv_aload_n hx hb d_Program_endConstant_67 rfl (lv_at hl 0 rfl) ?_
        refine lv_dup hx hb d_Program_endConstant_68 rfl ?_
        refine va_get (D := (dC, dI)) (ci := 0) (v := .int P_closed) (C := R_Program) (T := F_Program) (N := 7) hx hb hg i_Program hown hK hP 0 rfl rfl 5 (by decide) (hg _ k34) (fun _ h9 => h9) rfl d_Program_endConstant_69 ?_
        refine lv_aload_n hx hb d_Program_endConstant_72 rfl (lv_at hl 0 rfl) ?_
        refine va_get (D := (dC, dI)) (ci := 0) (v := .int P_open) (C := R_Program) (T := F_Program) (N := 7) hx hb hg i_Program hown hK hP 0 rfl rfl 6 (by decide) (hg _ k33) (fun _ h9 => h9) rfl d_Program_endConstant_73 ?_
        refine lv_iadd hx hb d_Program_endConstant_76 ?_
        refine va_put (D := (dC, dI)) (ci := 0) (v := .int (P_closed + P_open)) (ty := .int) (C := R_Program) (T := F_Program) (N := 7) hx hb hg i_Program t_Program t_Program_ok n_Program hown hK hP hD hS 0 rfl rfl 5 (by decide) (hg _ k34) (fun _ h9 => h9) rfl (by decide +kernel) rfl rfl (Nat.le_of_ble_eq_true rfl) d_Program_endConstant_77 (fun H locs hP hD hS => ?_)
        have hP : va_P (dC, dI) classes [(o_Program, .inr (0, [.ref r_P_words, .int P_size, .ref r_P_bytes, .ref a6_r, .int P_constants, .int (P_closed + P_open), .int P_open])), (r_P_ends, .inl (cI, n_P_ends, .inl f_P_ends)), (a6_r, .inl (cI, z6_1, .inl z6_2))] H := hP
        have hD : va_D A [(o_Program, .inr (0, [.ref r_P_words, .int P_size, .ref r_P_bytes, .ref a6_r, .int P_constants, .int (P_closed + P_open), .int P_open])), (r_P_ends, .inl (cI, n_P_ends, .inl f_P_ends)), (a6_r, .inl (cI, z6_1, .inl z6_2))] := hD
        refine lv_aload_n hx hb d_Program_endConstant_80 rfl (lv_at hl 0 rfl) ?_
        refine lv_iconst (v := 0) hx hb d_Program_endConstant_81 (by decide) ?_
        refine va_put (D := (dC, dI)) (ci := 0) (v := .int 0) (ty := .int) (C := R_Program) (T := F_Program) (N := 7) hx hb hg i_Program t_Program t_Program_ok n_Program hown hK hP hD hS 0 rfl rfl 6 (by decide) (hg _ k33) (fun _ h9 => h9) rfl (by decide +kernel) rfl rfl (Nat.le_of_ble_eq_true rfl) d_Program_endConstant_82 (fun H locs hP hD hS => ?_)
        have hP : va_P (dC, dI) classes [(o_Program, .inr (0, [.ref r_P_words, .int P_size, .ref r_P_bytes, .ref a6_r, .int P_constants, .int (P_closed + P_open), .int 0])), (r_P_ends, .inl (cI, n_P_ends, .inl f_P_ends)), (a6_r, .inl (cI, z6_1, .inl z6_2))] H := hP
        have hD : va_D A [(o_Program, .inr (0, [.ref r_P_words, .int P_size, .ref r_P_bytes, .ref a6_r, .int P_constants, .int (P_closed + P_open), .int 0])), (r_P_ends, .inl (cI, n_P_ends, .inl f_P_ends)), (a6_r, .inl (cI, z6_1, .inl z6_2))] := hD
        refine lv_aload_n hx hb d_Program_endConstant_85 rfl (lv_at hl 0 rfl) ?_
        refine va_get (D := (dC, dI)) (ci := 0) (v := .ref a6_r) (C := R_Program) (T := F_Program) (N := 7) hx hb hg i_Program hown hK hP 0 rfl rfl 3 (by decide) (hg _ k47) (fun _ h9 => h9) rfl d_Program_endConstant_86 ?_
        refine lv_aload_n hx hb d_Program_endConstant_89 rfl (lv_at hl 0 rfl) ?_
        refine va_get (D := (dC, dI)) (ci := 0) (v := .int P_constants) (C := R_Program) (T := F_Program) (N := 7) hx hb hg i_Program hown hK hP 0 rfl rfl 4 (by decide) (hg _ k45) (fun _ h9 => h9) rfl d_Program_endConstant_90 ?_
        refine lv_aload_n hx hb d_Program_endConstant_93 rfl (lv_at hl 0 rfl) ?_
        refine va_get (D := (dC, dI)) (ci := 0) (v := .int (P_closed + P_open)) (C := R_Program) (T := F_Program) (N := 7) hx hb hg i_Program hown hK hP 0 rfl rfl 5 (by decide) (hg _ k34) (fun _ h9 => h9) rfl d_Program_endConstant_94 ?_
        obtain ⟨i7, h⟩ := dz_oi h
        refine va_iast (D := (dC, dI)) hx hb hK hP hD hS 2 0 rfl rfl i7 d_Program_endConstant_97 (fun H locs hP hD hS => ?_)
        have hP : va_P (dC, dI) classes [(o_Program, .inr (0, [.ref r_P_words, .int P_size, .ref r_P_bytes, .ref a6_r, .int P_constants, .int (P_closed + P_open), .int 0])), (r_P_ends, .inl (cI, n_P_ends, .inl f_P_ends)), (a6_r, .inl (cI, z6_1, .inl (upd z6_2 P_constants.toNatClampNeg (P_closed + P_open))))] H := hP
        have hD : va_D A [(o_Program, .inr (0, [.ref r_P_words, .int P_size, .ref r_P_bytes, .ref a6_r, .int P_constants, .int (P_closed + P_open), .int 0])), (r_P_ends, .inl (cI, n_P_ends, .inl f_P_ends)), (a6_r, .inl (cI, z6_1, .inl (upd z6_2 P_constants.toNatClampNeg (P_closed + P_open))))] := hD
        refine lv_aload_n hx hb d_Program_endConstant_98 rfl (lv_at hl 0 rfl) ?_
        refine lv_dup hx hb d_Program_endConstant_99 rfl ?_
        refine va_get (D := (dC, dI)) (ci := 0) (v := .int P_constants) (C := R_Program) (T := F_Program) (N := 7) hx hb hg i_Program hown hK hP 0 rfl rfl 4 (by decide) (hg _ k45) (fun _ h9 => h9) rfl d_Program_endConstant_100 ?_
        refine lv_dup_x1 hx hb d_Program_endConstant_103 rfl rfl ?_
        refine lv_iconst (v := 1) hx hb d_Program_endConstant_104 (by decide) ?_
        refine lv_iadd hx hb d_Program_endConstant_105 ?_
        refine va_put (D := (dC, dI)) (ci := 0) (v := .int (P_constants + 1)) (ty := .int) (C := R_Program) (T := F_Program) (N := 7) hx hb hg i_Program t_Program t_Program_ok n_Program hown hK hP hD hS 0 rfl rfl 4 (by decide) (hg _ k45) (fun _ h9 => h9) rfl (by decide +kernel) rfl rfl (Nat.le_of_ble_eq_true rfl) d_Program_endConstant_106 (fun H locs hP hD hS => ?_)
        have hP : va_P (dC, dI) classes [(o_Program, .inr (0, [.ref r_P_words, .int P_size, .ref r_P_bytes, .ref a6_r, .int (P_constants + 1), .int (P_closed + P_open), .int 0])), (r_P_ends, .inl (cI, n_P_ends, .inl f_P_ends)), (a6_r, .inl (cI, z6_1, .inl (upd z6_2 P_constants.toNatClampNeg (P_closed + P_open))))] H := hP
        have hD : va_D A [(o_Program, .inr (0, [.ref r_P_words, .int P_size, .ref r_P_bytes, .ref a6_r, .int (P_constants + 1), .int (P_closed + P_open), .int 0])), (r_P_ends, .inl (cI, n_P_ends, .inl f_P_ends)), (a6_r, .inl (cI, z6_1, .inl (upd z6_2 P_constants.toNatClampNeg (P_closed + P_open))))] := hD
        obtain rfl := Option.some.inj h
        have hP9 := hP.sub (ws' := [(o_Program, .inr (0, [.ref r_P_words, .int P_size, .ref r_P_bytes, .ref a6_r, .int (P_constants + 1), .int (P_closed + P_open), .int 0])), (a6_r, .inl (cI, z6_1, .inl (upd z6_2 P_constants.toNatClampNeg (P_closed + P_open))))]) [0, 2] rfl
        have hD9 := hD.sub (ws' := [(o_Program, .inr (0, [.ref r_P_words, .int P_size, .ref r_P_bytes, .ref a6_r, .int (P_constants + 1), .int (P_closed + P_open), .int 0])), (a6_r, .inl (cI, z6_1, .inl (upd z6_2 P_constants.toNatClampNeg (P_closed + P_open))))]) [0, 2] (by decide) rfl
        have hK9 := hK.sub (tys' := [(cI, .int)]) [0] rfl
        refine W.widen (dz_Gc hG) (dz_Gs hG) ?_
        obtain ⟨rfl, -, -⟩ := hG
        exact W.iret (v := P_constants) hx hb hr (fun t ht hW => ⟨⟨P_constants, a6_r, rfl, rfl, by rw [ht]; exact hP9, va_K.moved hW.alike hK9, hD9⟩, hS.F ht⟩) hS.2.2 d_Program_endConstant_109
    · rw [if_neg c2] at h
      refine lv_bipush (v := (-2)) hx hb d_Program_endConstant_24 (by decide) ?_
      obtain rfl := Option.some.inj h
      have hP9 := hP.sub (ws' := [(o_Program, .inr (0, [.ref r_P_words, .int P_size, .ref r_P_bytes, .ref r_P_ends, .int P_constants, .int P_closed, .int P_open])), (r_P_ends, .inl (cI, n_P_ends, .inl f_P_ends))]) [0, 1] rfl
      have hD9 := hD.sub (ws' := [(o_Program, .inr (0, [.ref r_P_words, .int P_size, .ref r_P_bytes, .ref r_P_ends, .int P_constants, .int P_closed, .int P_open])), (r_P_ends, .inl (cI, n_P_ends, .inl f_P_ends))]) [0, 1] (by decide) rfl
      have hK9 := hK.sub (tys' := [(cI, .int)]) [0] rfl
      refine W.widen (dz_Gc hG) (dz_Gs hG) ?_
      obtain ⟨rfl, -, -⟩ := hG
      exact W.iret (v := (-2)) hx hb hr (fun t ht hW => ⟨⟨(-2), r_P_ends, rfl, rfl, by rw [ht]; exact hP9, va_K.moved hW.alike hK9, hD9⟩, hS.F ht⟩) hS.2.2 d_Program_endConstant_26

set_option maxHeartbeats 4000000 in
set_option maxRecDepth 100000 in
theorem c_Program_beginOf (l : Launch) (dC : Nat → ClassId) (dI : Nat → Nat → Nat) (N : Nat) (cI : ClassId) (o_Program : Nat) (r_P_words : Nat) (r_P_bytes : Nat) (r_P_ends : Nat) (P_size : Int32) (P_constants : Int32) (P_closed : Int32) (P_open : Int32) (n_P_ends : Nat) (f_P_ends : Nat → Int32) (p0 : Int32) (z : Int32) (h : m_Program_beginOf N P_size P_constants P_closed P_open n_P_ends f_P_ends p0 = some z) : Met l y_Program_beginOf (.code y_Program_beginOf b_Program_beginOf 2 (some .int) :: lw_g) ({ frames := 0, cells := 0, slots := 0, locals := 0 }) (va_Pc [.ref o_Program, .int p0] (fun U => dz_N U ∧ va_P (dC, dI) classes [(o_Program, .inr (0, [.ref r_P_words, .int P_size, .ref r_P_bytes, .ref r_P_ends, .int P_constants, .int P_closed, .int P_open])), (r_P_ends, .inl (cI, n_P_ends, .inl f_P_ends))] U.heap ∧ va_K (dC, dI) classes [(cI, .int)] U)) (vp_Si (fun r => r = z)) 0 0 (fun _ => False) := by
  refine Met.ofW (cc := b_Program_beginOf) (maxL := 2) (ret := (some .int)) (by decide +kernel) rfl ?_
  intro p e s m args below meth c s₁ B hml hv
  obtain ⟨rfl, hN, hP, hK⟩ := hv
  have hx := B.exec
  have hb := B.bytes
  have hr := B.returns
  have hg : ∀ w ∈ lw_g, w.before _ s = true := fun w hw => atoms_spec (ws := .code y_Program_beginOf b_Program_beginOf 2 (some .int) :: lw_g) B.pre w (List.mem_cons_of_mem _ hw)
  have hown : s.vm.findClass R_Program = some m.cls := findClass_of_methodNamed B.named
  have hlocks := B.notSynchronized
  clear B
  have hP : va_P (dC, dI) classes [(o_Program, .inr (0, [.ref r_P_words, .int P_size, .ref r_P_bytes, .ref r_P_ends, .int P_constants, .int P_closed, .int P_open])), (r_P_ends, .inl (cI, n_P_ends, .inl f_P_ends))] s.heap := hP
  have hl := lv_entry ([.ref o_Program, .int p0]) (n := 2) (Nat.le_of_ble_eq_true rfl)
  rw [lg_entry_eq]
  generalize (lg_sl ([.ref o_Program, .int p0]) ++ List.replicate (2 - (lg_sl ([.ref o_Program, .int p0])).length) Slot.unset).toArray = ls at hl ⊢
  have hl : lv_has ls 2 [(0, .ref o_Program), (1, .int p0)] := hl
  unfold m_Program_beginOf at h
  refine lv_iload_n hx hb d_Program_beginOf_0 rfl (lv_at hl 1 rfl) ?_
  refine lv_if_ne (tgt := 8) hx hb d_Program_beginOf_1 (by decide) (fun c1 => ?_) (fun c1 => ?_)
  · rw [if_neg c1] at h
    refine lv_aload_n hx hb d_Program_beginOf_8 rfl (lv_at hl 0 rfl) ?_
    refine va_get (D := (dC, dI)) (ci := 0) (v := .ref r_P_ends) (C := R_Program) (T := F_Program) (N := 7) hx hb hg i_Program hown hK hP 0 rfl rfl 3 (by decide) (hg _ k47) (fun _ h9 => h9) rfl d_Program_beginOf_9 ?_
    refine lv_iload_n hx hb d_Program_beginOf_12 rfl (lv_at hl 1 rfl) ?_
    refine lv_iconst (v := 1) hx hb d_Program_beginOf_13 (by decide) ?_
    refine lv_isub hx hb d_Program_beginOf_14 ?_
    obtain ⟨i2, h⟩ := dz_oi h
    refine va_iald (D := (dC, dI)) hx hb hK hP 1 0 rfl rfl i2 d_Program_beginOf_15 ?_
    obtain rfl := Option.some.inj h
    exact W.iret (v := f_P_ends (p0 - 1).toNatClampNeg) hx hb hr (fun t ht hW => ⟨_, rfl, rfl, ht⟩) (fun _ h => by cases h) d_Program_beginOf_16
  · rw [if_pos c1] at h
    refine lv_iconst (v := 0) hx hb d_Program_beginOf_4 (by decide) ?_
    refine lv_goto (tgt := 16) hx hb d_Program_beginOf_5 (by decide) ?_
    obtain rfl := Option.some.inj h
    exact W.iret (v := 0) hx hb hr (fun t ht hW => ⟨_, rfl, rfl, ht⟩) (fun _ h => by cases h) d_Program_beginOf_16

set_option maxHeartbeats 4000000 in
set_option maxRecDepth 100000 in
theorem c_Output_accept (l : Launch) (dC : Nat → ClassId) (dI : Nat → Nat → Nat) (N : Nat) (cB : ClassId) (o_Output : Nat) (r_O_bytes : Nat) (O_size : Int32) (n_O_bytes : Nat) (f_O_bytes : Nat → Int32) (p0 : Int32) (sz : Nat) (Z1 : Int32 × Nat × (Nat → Int32)) (Zc Zs : Nat) (h : m_Output_accept N O_size n_O_bytes f_O_bytes p0 = some (Z1, Zc, Zs)) : Met l y_Output_accept (.code y_Output_accept b_Output_accept 3 (some .int) :: lw_g) ({ frames := 2, cells := Zc, slots := Zs, locals := 82 }) (va_Pc [.ref o_Output, .int p0] (fun U => dz_N U ∧ U.heap.size = sz ∧ va_P (dC, dI) classes [(o_Output, .inr (1, [.ref r_O_bytes, .int O_size])), (r_O_bytes, .inl (cB, n_O_bytes, .inl f_O_bytes))] U.heap ∧ va_K (dC, dI) classes [(cB, .byte)] U ∧ va_D (fun _ => True) [(o_Output, .inr (1, [.ref r_O_bytes, .int O_size])), (r_O_bytes, .inl (cB, n_O_bytes, .inl f_O_bytes))])) (va_Qi (fun (r : Int32) (_ : Nat) => r = Z1.1) (fun (u : Nat) t => va_P (dC, dI) classes [(o_Output, .inr (1, [.ref u, .int O_size])), (u, .inl (cB, Z1.2.1, .inl Z1.2.2))] t.heap ∧ va_K (dC, dI) classes [(cB, .byte)] t ∧ va_D (va_A [(o_Output, .inr (1, [.ref r_O_bytes, .int O_size])), (r_O_bytes, .inl (cB, n_O_bytes, .inl f_O_bytes))] sz) [(o_Output, .inr (1, [.ref u, .int O_size])), (u, .inl (cB, Z1.2.1, .inl Z1.2.2))]) (va_A [(o_Output, .inr (1, [.ref r_O_bytes, .int O_size])), (r_O_bytes, .inl (cB, n_O_bytes, .inl f_O_bytes))] sz)) Zc Zs (va_A [(o_Output, .inr (1, [.ref r_O_bytes, .int O_size])), (r_O_bytes, .inl (cB, n_O_bytes, .inl f_O_bytes))] sz) := by
  refine Met.ofW (cc := b_Output_accept) (maxL := 3) (ret := (some .int)) (by decide +kernel) rfl ?_
  intro p e s m args below meth c s₁ B hml hv
  obtain ⟨rfl, hN, hsz, hP, hK, hD0⟩ := hv
  have hx := B.exec
  have hb := B.bytes
  have hr := B.returns
  have hg : ∀ w ∈ lw_g, w.before _ s = true := fun w hw => atoms_spec (ws := .code y_Output_accept b_Output_accept 3 (some .int) :: lw_g) B.pre w (List.mem_cons_of_mem _ hw)
  have hown : s.vm.findClass R_Output = some m.cls := findClass_of_methodNamed B.named
  have hlocks := B.notSynchronized
  clear B
  subst hsz
  have hD := hD0.self (sz := s.heap.size)
  generalize hAe : va_A [(o_Output, .inr (1, [.ref r_O_bytes, .int O_size])), (r_O_bytes, .inl (cB, n_O_bytes, .inl f_O_bytes))] s.heap.size = A at hD ⊢
  have hA : ∀ q : Nat, s.heap.size ≤ q → A q := fun q h => by rw [← hAe]; exact Or.inr h
  have hS : va_S A s.heap s.heap [] := va_S.rf
  have hP : va_P (dC, dI) classes [(o_Output, .inr (1, [.ref r_O_bytes, .int O_size])), (r_O_bytes, .inl (cB, n_O_bytes, .inl f_O_bytes))] s.heap := hP
  have hl := lv_entry ([.ref o_Output, .int p0]) (n := 3) (Nat.le_of_ble_eq_true rfl)
  rw [lg_entry_eq]
  generalize (lg_sl ([.ref o_Output, .int p0]) ++ List.replicate (3 - (lg_sl ([.ref o_Output, .int p0])).length) Slot.unset).toArray = ls at hl ⊢
  have hl : lv_has ls 3 [(0, .ref o_Output), (1, .int p0)] := hl
  unfold m_Output_accept at h
  have hG : dz_G Z1 Zc Zs (Z1, Zc, Zs) 0 0 := ⟨rfl, (Nat.zero_add _).symm, (Nat.zero_add _).symm⟩
  generalize (Z1, Zc, Zs) = z at h hG
  refine lv_iload_n hx hb d_Output_accept_0 rfl (lv_at hl 1 rfl) ?_
  refine lv_ldc (v := 65536) hx hb hown (hg _ k48) d_Output_accept_1 ?_
  refine lv_aload_n hx hb d_Output_accept_3 rfl (lv_at hl 0 rfl) ?_
  refine va_get (D := (dC, dI)) (ci := 1) (v := .int O_size) (C := R_Output) (T := F_Output) (N := 2) hx hb hg i_Output hown hK hP 0 rfl rfl 1 (by decide) (hg _ k49) (fun _ h9 => h9) rfl d_Output_accept_4 ?_
  refine lv_isub hx hb d_Output_accept_7 ?_
  obtain ⟨z1_1, hc1, h⟩ := dz_ob h
  try dsimp only at h
  have hPc := hP.sub (ws' := []) [] rfl
  have hKc := hK.sub (tys' := []) [] rfl
  refine vp_callSi (va_Run.run (va_runS (As := [.int p0, .int (65536 - O_size)]) (rest := []) ⟨hx, hb, hml, hown, hg⟩ (c_Math_min l dC dI N p0 (65536 - O_size) z1_1 hc1) (va_cwS 2 hg (gd_S k51 k10 k7 k8) rfl rfl rfl (by decide +kernel) ⟨Nat.le_of_ble_eq_true rfl, Nat.le_of_ble_eq_true rfl⟩) ⟨dz_blindR, fun U hU hW => ⟨rfl, dz_Nw hW hN, by rw [hU]; exact hPc, va_K.moved hW.alike hKc⟩⟩ rfl rfl hl.1 rfl (lv_room (Nat.le_of_ble_eq_true rfl)) d_Output_accept_8 ⟨dz_Gc hG, dz_Gs hG⟩)) (fun r1 hw => ?_)
  have hw : z1_1 = r1 := hw.symm
  subst hw
  refine lv_istore_n (lv' := [(2, .int z1_1), (0, .ref o_Output), (1, .int p0)]) hx hb d_Output_accept_11 rfl hl (by decide) rfl (fun ls hl => ?_)
  refine lv_aload_n hx hb d_Output_accept_12 rfl (lv_at hl 1 rfl) ?_
  refine va_get (D := (dC, dI)) (ci := 1) (v := .int O_size) (C := R_Output) (T := F_Output) (N := 2) hx hb hg i_Output hown hK hP 0 rfl rfl 1 (by decide) (hg _ k49) (fun _ h9 => h9) rfl d_Output_accept_13 ?_
  refine lv_iload_n hx hb d_Output_accept_16 rfl (lv_at hl 0 rfl) ?_
  refine lv_iadd hx hb d_Output_accept_17 ?_
  refine lv_aload_n hx hb d_Output_accept_18 rfl (lv_at hl 1 rfl) ?_
  refine va_get (D := (dC, dI)) (ci := 1) (v := .ref r_O_bytes) (C := R_Output) (T := F_Output) (N := 2) hx hb hg i_Output hown hK hP 0 rfl rfl 0 (by decide) (hg _ k50) (fun _ h9 => h9) rfl d_Output_accept_19 ?_
  refine va_alen (D := (dC, dI)) (v := Int32.ofNat n_O_bytes) hx hb hK hP 1 0 rfl rfl rfl d_Output_accept_22 ?_
  refine lv_icmp_le (tgt := 53) hx hb d_Output_accept_23 (by decide) (fun c2 => ?_) (fun c2 => ?_)
  · rw [if_pos c2] at h
    refine lv_iload_n hx hb d_Output_accept_53 rfl (lv_at hl 0 rfl) ?_
    obtain rfl := Option.some.inj h
    have hP9 := hP.sub (ws' := [(o_Output, .inr (1, [.ref r_O_bytes, .int O_size])), (r_O_bytes, .inl (cB, n_O_bytes, .inl f_O_bytes))]) [0, 1] rfl
    have hD9 := hD.sub (ws' := [(o_Output, .inr (1, [.ref r_O_bytes, .int O_size])), (r_O_bytes, .inl (cB, n_O_bytes, .inl f_O_bytes))]) [0, 1] (by decide) rfl
    have hK9 := hK.sub (tys' := [(cB, .byte)]) [0] rfl
    refine W.widen (dz_Gc hG) (dz_Gs hG) ?_
    obtain ⟨rfl, -, -⟩ := hG
    exact W.iret (v := z1_1) hx hb hr (fun t ht hW => ⟨⟨z1_1, r_O_bytes, rfl, rfl, by rw [ht]; exact hP9, va_K.moved hW.alike hK9, hD9⟩, hS.F ht⟩) hS.2.2 d_Output_accept_54
  · rw [if_neg c2] at h
    refine lv_aload_n hx hb d_Output_accept_26 rfl (lv_at hl 1 rfl) ?_
    refine lv_aload_n hx hb d_Output_accept_27 rfl (lv_at hl 1 rfl) ?_
    refine va_get (D := (dC, dI)) (ci := 1) (v := .ref r_O_bytes) (C := R_Output) (T := F_Output) (N := 2) hx hb hg i_Output hown hK hP 0 rfl rfl 0 (by decide) (hg _ k50) (fun _ h9 => h9) rfl d_Output_accept_28 ?_
    refine lv_aload_n hx hb d_Output_accept_31 rfl (lv_at hl 1 rfl) ?_
    refine va_get (D := (dC, dI)) (ci := 1) (v := .ref r_O_bytes) (C := R_Output) (T := F_Output) (N := 2) hx hb hg i_Output hown hK hP 0 rfl rfl 0 (by decide) (hg _ k50) (fun _ h9 => h9) rfl d_Output_accept_32 ?_
    refine va_alen (D := (dC, dI)) (v := Int32.ofNat n_O_bytes) hx hb hK hP 1 0 rfl rfl rfl d_Output_accept_35 ?_
    refine lv_aload_n hx hb d_Output_accept_36 rfl (lv_at hl 1 rfl) ?_
    refine va_get (D := (dC, dI)) (ci := 1) (v := .int O_size) (C := R_Output) (T := F_Output) (N := 2) hx hb hg i_Output hown hK hP 0 rfl rfl 1 (by decide) (hg _ k49) (fun _ h9 => h9) rfl d_Output_accept_37 ?_
    refine lv_iload_n hx hb d_Output_accept_40 rfl (lv_at hl 0 rfl) ?_
    refine lv_iadd hx hb d_Output_accept_41 ?_
    refine lv_ldc (v := 65536) hx hb hown (hg _ k48) d_Output_accept_42 ?_
    obtain ⟨z3_1, hc3, h⟩ := dz_ob h
    try dsimp only at h
    have hPc := hP.sub (ws' := []) [] rfl
    have hKc := hK.sub (tys' := []) [] rfl
    refine vp_callSi (va_Run.run (va_runSN (As := [.int (Int32.ofNat n_O_bytes), .int (O_size + z1_1), .int 65536]) (rest := [.ref r_O_bytes, .ref o_Output]) ⟨hx, hb, hml, hown, hg⟩ (c_Engine_longer l dC dI N (Int32.ofNat n_O_bytes) (O_size + z1_1) (65536 : Int32) z3_1 hc3) ⟨va_cnB 3 hg (gd_N k26) rfl rfl rfl hN.2.2.1 (hg _ k27) (by decide +kernel) ⟨Nat.le_of_ble_eq_true rfl, Nat.le_of_ble_eq_true rfl⟩, hg _ k28, trivial⟩ ⟨dz_blindR, fun U hU hW => ⟨rfl, dz_Nw hW hN, by rw [hU]; exact hPc, va_K.moved hW.alike hKc⟩⟩ rfl rfl hl.1 rfl (lv_room (Nat.le_of_ble_eq_true rfl)) d_Output_accept_44 ⟨dz_Gc hG, dz_Gs hG⟩)) (fun r3 hw => ?_)
    have hw : z3_1 = r3 := hw.symm
    subst hw
    obtain ⟨⟨⟨z4_1, z4_2⟩, zc4, zs4⟩, hc4, h⟩ := dz_ob h
    try dsimp only at h
    obtain ⟨z, h, hG⟩ := dz_tkG h hG
    have hPc := hP.sub (ws' := [(r_O_bytes, .inl (cB, n_O_bytes, .inl f_O_bytes))]) [1] rfl
    have hKc := hK.sub (tys' := [(cB, .byte)]) [0] rfl
    have hDc := hD.sub (ws' := [(r_O_bytes, .inl (cB, n_O_bytes, .inl f_O_bytes))]) [1] (by decide) rfl
    have hFc := va_free (wc := [(r_O_bytes, .inl (cB, n_O_bytes, .inl f_O_bytes))]) hD hS hA [1] rfl
    refine va_callr (va_runS (As := [.ref r_O_bytes, .int z3_1]) (rest := [.ref o_Output]) ⟨hx, hb, hml, hown, hg⟩ (c_Arrays_copyOfB l dC dI N cB r_O_bytes n_O_bytes f_O_bytes z3_1 s.heap.size (z4_1, z4_2) zc4 zs4 hc4) (va_cwS 2 hg (gd_S k52 k44 k22 k42) rfl rfl rfl (by decide +kernel) ⟨Nat.le_of_ble_eq_true rfl, Nat.le_of_ble_eq_true rfl⟩) ⟨dz_blind, fun U hU hW => ⟨rfl, dz_Nw hW hN, by rw [hU], by rw [hU]; exact hPc, va_K.moved hW.alike hKc, hDc.weaken (fun _ _ _ _ => trivial)⟩⟩ rfl rfl hl.1 rfl (lv_room (Nat.le_of_ble_eq_true rfl)) d_Output_accept_47 ⟨dz_Gc hG, dz_Gs hG⟩) hS (fun q _ h => hFc q h) hFc (fun u4 a4_r t4 H1 locs ht hvm hw hB hz1 hk1 hS => ?_)
    obtain ⟨hP1, hK1, hD1⟩ := hB
    rw [ht] at hP1
    obtain ⟨hP, hD⟩ := va_join (wr := [(o_Output, .inr (1, [.ref r_O_bytes, .int O_size]))]) (w1 := [(r_O_bytes, .inl (cB, n_O_bytes, .inl f_O_bytes)), (a4_r, .inl (cB, z4_1, .inl z4_2))]) hP hD [1] [0] rfl rfl (by decide) (by decide) hk1 hFc hP1 hD1
    generalize H1 = H at hP hS ⊢
    have hP : va_P (dC, dI) classes [(o_Output, .inr (1, [.ref r_O_bytes, .int O_size])), (r_O_bytes, .inl (cB, n_O_bytes, .inl f_O_bytes)), (a4_r, .inl (cB, z4_1, .inl z4_2))] H := hP
    have hD : va_D A [(o_Output, .inr (1, [.ref r_O_bytes, .int O_size])), (r_O_bytes, .inl (cB, n_O_bytes, .inl f_O_bytes)), (a4_r, .inl (cB, z4_1, .inl z4_2))] := hD
    refine va_put (D := (dC, dI)) (ci := 1) (v := .ref a4_r) (ty := .array .byte) (C := R_Output) (T := F_Output) (N := 2) hx hb hg i_Output t_Output t_Output_ok n_Output hown hK hP hD hS 0 rfl rfl 0 (by decide) (hg _ k50) (fun _ h9 => h9) rfl (by decide +kernel) rfl rfl (Nat.le_of_ble_eq_true rfl) d_Output_accept_50 (fun H locs hP hD hS => ?_)
    have hP : va_P (dC, dI) classes [(o_Output, .inr (1, [.ref a4_r, .int O_size])), (r_O_bytes, .inl (cB, n_O_bytes, .inl f_O_bytes)), (a4_r, .inl (cB, z4_1, .inl z4_2))] H := hP
    have hD : va_D A [(o_Output, .inr (1, [.ref a4_r, .int O_size])), (r_O_bytes, .inl (cB, n_O_bytes, .inl f_O_bytes)), (a4_r, .inl (cB, z4_1, .inl z4_2))] := hD
    refine lv_iload_n hx hb d_Output_accept_53 rfl (lv_at hl 0 rfl) ?_
    obtain rfl := Option.some.inj h
    have hP9 := hP.sub (ws' := [(o_Output, .inr (1, [.ref a4_r, .int O_size])), (a4_r, .inl (cB, z4_1, .inl z4_2))]) [0, 2] rfl
    have hD9 := hD.sub (ws' := [(o_Output, .inr (1, [.ref a4_r, .int O_size])), (a4_r, .inl (cB, z4_1, .inl z4_2))]) [0, 2] (by decide) rfl
    have hK9 := hK.sub (tys' := [(cB, .byte)]) [0] rfl
    refine W.widen (dz_Gc hG) (dz_Gs hG) ?_
    obtain ⟨rfl, -, -⟩ := hG
    exact W.iret (v := z1_1) hx hb hr (fun t ht hW => ⟨⟨z1_1, a4_r, rfl, rfl, by rw [ht]; exact hP9, va_K.moved hW.alike hK9, hD9⟩, hS.F ht⟩) hS.2.2 d_Output_accept_54

set_option maxHeartbeats 4000000 in
set_option maxRecDepth 100000 in
theorem c_Output_add (l : Launch) (dC : Nat → ClassId) (dI : Nat → Nat → Nat) (N : Nat) (cB : ClassId) (o_Output : Nat) (r_O_bytes : Nat) (O_size : Int32) (n_O_bytes : Nat) (f_O_bytes : Nat → Int32) (p0 : Int32) (sz : Nat) (z : (Nat → Int32) × Int32) (h : m_Output_add N O_size n_O_bytes f_O_bytes p0 = some z) : Met l y_Output_add (.code y_Output_add b_Output_add 2 none :: lw_g) ({ frames := 0, cells := 0, slots := 0, locals := 0 }) (va_Pc [.ref o_Output, .int p0] (fun U => dz_N U ∧ U.heap.size = sz ∧ va_P (dC, dI) classes [(o_Output, .inr (1, [.ref r_O_bytes, .int O_size])), (r_O_bytes, .inl (cB, n_O_bytes, .inl f_O_bytes))] U.heap ∧ va_K (dC, dI) classes [(cB, .byte)] U ∧ va_D (fun _ => True) [(o_Output, .inr (1, [.ref r_O_bytes, .int O_size])), (r_O_bytes, .inl (cB, n_O_bytes, .inl f_O_bytes))])) (va_Qv (fun (_ : Unit) => True) (fun (u : Unit) t => va_P (dC, dI) classes [(o_Output, .inr (1, [.ref r_O_bytes, .int z.2])), (r_O_bytes, .inl (cB, n_O_bytes, .inl z.1))] t.heap ∧ va_K (dC, dI) classes [(cB, .byte)] t ∧ va_D (va_A [(o_Output, .inr (1, [.ref r_O_bytes, .int O_size])), (r_O_bytes, .inl (cB, n_O_bytes, .inl f_O_bytes))] sz) [(o_Output, .inr (1, [.ref r_O_bytes, .int z.2])), (r_O_bytes, .inl (cB, n_O_bytes, .inl z.1))]) (va_A [(o_Output, .inr (1, [.ref r_O_bytes, .int O_size])), (r_O_bytes, .inl (cB, n_O_bytes, .inl f_O_bytes))] sz)) 0 0 (va_A [(o_Output, .inr (1, [.ref r_O_bytes, .int O_size])), (r_O_bytes, .inl (cB, n_O_bytes, .inl f_O_bytes))] sz) := by
  refine Met.ofW (cc := b_Output_add) (maxL := 2) (ret := none) (by decide +kernel) rfl ?_
  intro p e s m args below meth c s₁ B hml hv
  obtain ⟨rfl, hN, hsz, hP, hK, hD0⟩ := hv
  have hx := B.exec
  have hb := B.bytes
  have hr := B.returns
  have hg : ∀ w ∈ lw_g, w.before _ s = true := fun w hw => atoms_spec (ws := .code y_Output_add b_Output_add 2 none :: lw_g) B.pre w (List.mem_cons_of_mem _ hw)
  have hown : s.vm.findClass R_Output = some m.cls := findClass_of_methodNamed B.named
  have hlocks := B.notSynchronized
  clear B
  subst hsz
  have hD := hD0.self (sz := s.heap.size)
  generalize hAe : va_A [(o_Output, .inr (1, [.ref r_O_bytes, .int O_size])), (r_O_bytes, .inl (cB, n_O_bytes, .inl f_O_bytes))] s.heap.size = A at hD ⊢
  have hA : ∀ q : Nat, s.heap.size ≤ q → A q := fun q h => by rw [← hAe]; exact Or.inr h
  have hS : va_S A s.heap s.heap [] := va_S.rf
  have hP : va_P (dC, dI) classes [(o_Output, .inr (1, [.ref r_O_bytes, .int O_size])), (r_O_bytes, .inl (cB, n_O_bytes, .inl f_O_bytes))] s.heap := hP
  have hl := lv_entry ([.ref o_Output, .int p0]) (n := 2) (Nat.le_of_ble_eq_true rfl)
  rw [lg_entry_eq]
  generalize (lg_sl ([.ref o_Output, .int p0]) ++ List.replicate (2 - (lg_sl ([.ref o_Output, .int p0])).length) Slot.unset).toArray = ls at hl ⊢
  have hl : lv_has ls 2 [(0, .ref o_Output), (1, .int p0)] := hl
  unfold m_Output_add at h
  refine lv_aload_n hx hb d_Output_add_0 rfl (lv_at hl 0 rfl) ?_
  refine va_get (D := (dC, dI)) (ci := 1) (v := .int O_size) (C := R_Output) (T := F_Output) (N := 2) hx hb hg i_Output hown hK hP 0 rfl rfl 1 (by decide) (hg _ k49) (fun _ h9 => h9) rfl d_Output_add_1 ?_
  refine lv_aload_n hx hb d_Output_add_4 rfl (lv_at hl 0 rfl) ?_
  refine va_get (D := (dC, dI)) (ci := 1) (v := .ref r_O_bytes) (C := R_Output) (T := F_Output) (N := 2) hx hb hg i_Output hown hK hP 0 rfl rfl 0 (by decide) (hg _ k50) (fun _ h9 => h9) rfl d_Output_add_5 ?_
  refine va_alen (D := (dC, dI)) (v := Int32.ofNat n_O_bytes) hx hb hK hP 1 0 rfl rfl rfl d_Output_add_8 ?_
  refine lv_icmp_ge (tgt := 30) hx hb d_Output_add_9 (by decide) (fun c1 => ?_) (fun c1 => ?_)
  · rw [if_pos c1] at h
    obtain rfl := Option.some.inj h
    have hP9 := hP.sub (ws' := [(o_Output, .inr (1, [.ref r_O_bytes, .int O_size])), (r_O_bytes, .inl (cB, n_O_bytes, .inl f_O_bytes))]) [0, 1] rfl
    have hD9 := hD.sub (ws' := [(o_Output, .inr (1, [.ref r_O_bytes, .int O_size])), (r_O_bytes, .inl (cB, n_O_bytes, .inl f_O_bytes))]) [0, 1] (by decide) rfl
    have hK9 := hK.sub (tys' := [(cB, .byte)]) [0] rfl
    exact W.vret hx hb hr (fun t ht hW => ⟨⟨(), rfl, trivial, by rw [ht]; exact hP9, va_K.moved hW.alike hK9, hD9⟩, hS.F ht⟩) hS.2.2 d_Output_add_30
  · rw [if_neg c1] at h
    refine lv_aload_n hx hb d_Output_add_12 rfl (lv_at hl 0 rfl) ?_
    refine va_get (D := (dC, dI)) (ci := 1) (v := .ref r_O_bytes) (C := R_Output) (T := F_Output) (N := 2) hx hb hg i_Output hown hK hP 0 rfl rfl 0 (by decide) (hg _ k50) (fun _ h9 => h9) rfl d_Output_add_13 ?_
    refine lv_aload_n hx hb d_Output_add_16 rfl (lv_at hl 0 rfl) ?_
    refine lv_dup hx hb d_Output_add_17 rfl ?_
    refine va_get (D := (dC, dI)) (ci := 1) (v := .int O_size) (C := R_Output) (T := F_Output) (N := 2) hx hb hg i_Output hown hK hP 0 rfl rfl 1 (by decide) (hg _ k49) (fun _ h9 => h9) rfl d_Output_add_18 ?_
    refine lv_dup_x1 hx hb d_Output_add_21 rfl rfl ?_
    refine lv_iconst (v := 1) hx hb d_Output_add_22 (by decide) ?_
    refine lv_iadd hx hb d_Output_add_23 ?_
    refine va_put (D := (dC, dI)) (ci := 1) (v := .int (O_size + 1)) (ty := .int) (C := R_Output) (T := F_Output) (N := 2) hx hb hg i_Output t_Output t_Output_ok n_Output hown hK hP hD hS 0 rfl rfl 1 (by decide) (hg _ k49) (fun _ h9 => h9) rfl (by decide +kernel) rfl rfl (Nat.le_of_ble_eq_true rfl) d_Output_add_24 (fun H locs hP hD hS => ?_)
    have hP : va_P (dC, dI) classes [(o_Output, .inr (1, [.ref r_O_bytes, .int (O_size + 1)])), (r_O_bytes, .inl (cB, n_O_bytes, .inl f_O_bytes))] H := hP
    have hD : va_D A [(o_Output, .inr (1, [.ref r_O_bytes, .int (O_size + 1)])), (r_O_bytes, .inl (cB, n_O_bytes, .inl f_O_bytes))] := hD
    refine lv_iload_n hx hb d_Output_add_27 rfl (lv_at hl 1 rfl) ?_
    refine lv_i2b (v := p0.toInt8.toInt32) hx hb d_Output_add_28 rfl ?_
    obtain ⟨i2, h⟩ := dz_oi h
    refine va_bast (D := (dC, dI)) hx hb hK hP hD hS 1 0 rfl rfl i2 d_Output_add_29 (fun H locs hP hD hS => ?_)
    have hP : va_P (dC, dI) classes [(o_Output, .inr (1, [.ref r_O_bytes, .int (O_size + 1)])), (r_O_bytes, .inl (cB, n_O_bytes, .inl (upd f_O_bytes O_size.toNatClampNeg (vp_nar .byte p0.toInt8.toInt32))))] H := hP
    have hD : va_D A [(o_Output, .inr (1, [.ref r_O_bytes, .int (O_size + 1)])), (r_O_bytes, .inl (cB, n_O_bytes, .inl (upd f_O_bytes O_size.toNatClampNeg (vp_nar .byte p0.toInt8.toInt32))))] := hD
    obtain rfl := Option.some.inj h
    have hP9 := hP.sub (ws' := [(o_Output, .inr (1, [.ref r_O_bytes, .int (O_size + 1)])), (r_O_bytes, .inl (cB, n_O_bytes, .inl (upd f_O_bytes O_size.toNatClampNeg (vp_nar .byte p0.toInt8.toInt32))))]) [0, 1] rfl
    have hD9 := hD.sub (ws' := [(o_Output, .inr (1, [.ref r_O_bytes, .int (O_size + 1)])), (r_O_bytes, .inl (cB, n_O_bytes, .inl (upd f_O_bytes O_size.toNatClampNeg (vp_nar .byte p0.toInt8.toInt32))))]) [0, 1] (by decide) rfl
    have hK9 := hK.sub (tys' := [(cB, .byte)]) [0] rfl
    exact W.vret hx hb hr (fun t ht hW => ⟨⟨(), rfl, trivial, by rw [ht]; exact hP9, va_K.moved hW.alike hK9, hD9⟩, hS.F ht⟩) hS.2.2 d_Output_add_30
