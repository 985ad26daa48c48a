theorem d_Equality_leader_0 : decode b_Equality_leader 0 = .ok (.iload_n 1, 1) := by decide +kernel
theorem d_Equality_leader_1 : decode b_Equality_leader 1 = .ok (.istore_n 2, 1) := by decide +kernel
theorem d_Equality_leader_2 : decode b_Equality_leader 2 = .ok (.iconst 0, 1) := by decide +kernel
theorem d_Equality_leader_3 : decode b_Equality_leader 3 = .ok (.istore_n 3, 1) := by decide +kernel
theorem d_Equality_leader_4 : decode b_Equality_leader 4 = .ok (.iload_n 3, 1) := by decide +kernel
theorem d_Equality_leader_5 : decode b_Equality_leader 5 = .ok (.ldc 34, 2) := by decide +kernel
theorem d_Equality_leader_7 : decode b_Equality_leader 7 = .ok (.if_icmp .ge 54, 3) := by decide +kernel
theorem d_Equality_leader_10 : decode b_Equality_leader 10 = .ok (.aload_n 0, 1) := by decide +kernel
theorem d_Equality_leader_11 : decode b_Equality_leader 11 = .ok (.getfield 7, 3) := by decide +kernel
theorem d_Equality_leader_14 : decode b_Equality_leader 14 = .ok (.iload_n 2, 1) := by decide +kernel
theorem d_Equality_leader_15 : decode b_Equality_leader 15 = .ok (.iaload, 1) := by decide +kernel
theorem d_Equality_leader_16 : decode b_Equality_leader 16 = .ok (.ifCond .eq 45, 3) := by decide +kernel
theorem d_Equality_leader_19 : decode b_Equality_leader 19 = .ok (.aload_n 0, 1) := by decide +kernel
theorem d_Equality_leader_20 : decode b_Equality_leader 20 = .ok (.getfield 7, 3) := by decide +kernel
theorem d_Equality_leader_23 : decode b_Equality_leader 23 = .ok (.iload_n 2, 1) := by decide +kernel
theorem d_Equality_leader_24 : decode b_Equality_leader 24 = .ok (.iaload, 1) := by decide +kernel
theorem d_Equality_leader_25 : decode b_Equality_leader 25 = .ok (.iconst 1, 1) := by decide +kernel
theorem d_Equality_leader_26 : decode b_Equality_leader 26 = .ok (.isub, 1) := by decide +kernel
theorem d_Equality_leader_27 : decode b_Equality_leader 27 = .ok (.istore 4, 2) := by decide +kernel
theorem d_Equality_leader_29 : decode b_Equality_leader 29 = .ok (.aload_n 0, 1) := by decide +kernel
theorem d_Equality_leader_30 : decode b_Equality_leader 30 = .ok (.getfield 7, 3) := by decide +kernel
theorem d_Equality_leader_33 : decode b_Equality_leader 33 = .ok (.iload 4, 2) := by decide +kernel
theorem d_Equality_leader_35 : decode b_Equality_leader 35 = .ok (.iaload, 1) := by decide +kernel
theorem d_Equality_leader_36 : decode b_Equality_leader 36 = .ok (.ifCond .eq 16, 3) := by decide +kernel
theorem d_Equality_leader_39 : decode b_Equality_leader 39 = .ok (.aload_n 0, 1) := by decide +kernel
theorem d_Equality_leader_40 : decode b_Equality_leader 40 = .ok (.getfield 7, 3) := by decide +kernel
theorem d_Equality_leader_43 : decode b_Equality_leader 43 = .ok (.iload_n 2, 1) := by decide +kernel
theorem d_Equality_leader_44 : decode b_Equality_leader 44 = .ok (.aload_n 0, 1) := by decide +kernel
theorem d_Equality_leader_45 : decode b_Equality_leader 45 = .ok (.getfield 7, 3) := by decide +kernel
theorem d_Equality_leader_48 : decode b_Equality_leader 48 = .ok (.iload 4, 2) := by decide +kernel
theorem d_Equality_leader_50 : decode b_Equality_leader 50 = .ok (.iaload, 1) := by decide +kernel
theorem d_Equality_leader_51 : decode b_Equality_leader 51 = .ok (.iastore, 1) := by decide +kernel
theorem d_Equality_leader_52 : decode b_Equality_leader 52 = .ok (.iload 4, 2) := by decide +kernel
theorem d_Equality_leader_54 : decode b_Equality_leader 54 = .ok (.istore_n 2, 1) := by decide +kernel
theorem d_Equality_leader_55 : decode b_Equality_leader 55 = .ok (.iinc 3 1, 3) := by decide +kernel
theorem d_Equality_leader_58 : decode b_Equality_leader 58 = .ok (.goto (-54), 3) := by decide +kernel
theorem d_Equality_leader_61 : decode b_Equality_leader 61 = .ok (.iload_n 2, 1) := by decide +kernel
theorem d_Equality_leader_62 : decode b_Equality_leader 62 = .ok (.ireturn, 1) := by decide +kernel
theorem d_Equality_addPair_0 : decode b_Equality_addPair 0 = .ok (.aload_n 0, 1) := by decide +kernel
theorem d_Equality_addPair_1 : decode b_Equality_addPair 1 = .ok (.getfield 26, 3) := by decide +kernel
theorem d_Equality_addPair_4 : decode b_Equality_addPair 4 = .ok (.aload_n 0, 1) := by decide +kernel
theorem d_Equality_addPair_5 : decode b_Equality_addPair 5 = .ok (.getfield 13, 3) := by decide +kernel
theorem d_Equality_addPair_8 : decode b_Equality_addPair 8 = .ok (.arraylength, 1) := by decide +kernel
theorem d_Equality_addPair_9 : decode b_Equality_addPair 9 = .ok (.if_icmp .lt 30, 3) := by decide +kernel
theorem d_Equality_addPair_12 : decode b_Equality_addPair 12 = .ok (.aload_n 0, 1) := by decide +kernel
theorem d_Equality_addPair_13 : decode b_Equality_addPair 13 = .ok (.aload_n 0, 1) := by decide +kernel
theorem d_Equality_addPair_14 : decode b_Equality_addPair 14 = .ok (.getfield 13, 3) := by decide +kernel
theorem d_Equality_addPair_17 : decode b_Equality_addPair 17 = .ok (.aload_n 0, 1) := by decide +kernel
theorem d_Equality_addPair_18 : decode b_Equality_addPair 18 = .ok (.getfield 13, 3) := by decide +kernel
theorem d_Equality_addPair_21 : decode b_Equality_addPair 21 = .ok (.arraylength, 1) := by decide +kernel
theorem d_Equality_addPair_22 : decode b_Equality_addPair 22 = .ok (.aload_n 0, 1) := by decide +kernel
theorem d_Equality_addPair_23 : decode b_Equality_addPair 23 = .ok (.getfield 26, 3) := by decide +kernel
theorem d_Equality_addPair_26 : decode b_Equality_addPair 26 = .ok (.iconst 1, 1) := by decide +kernel
theorem d_Equality_addPair_27 : decode b_Equality_addPair 27 = .ok (.iadd, 1) := by decide +kernel
theorem d_Equality_addPair_28 : decode b_Equality_addPair 28 = .ok (.ldc 34, 2) := by decide +kernel
theorem d_Equality_addPair_30 : decode b_Equality_addPair 30 = .ok (.invokestatic 59, 3) := by decide +kernel
theorem d_Equality_addPair_33 : decode b_Equality_addPair 33 = .ok (.invokestatic 65, 3) := by decide +kernel
theorem d_Equality_addPair_36 : decode b_Equality_addPair 36 = .ok (.putfield 13, 3) := by decide +kernel
theorem d_Equality_addPair_39 : decode b_Equality_addPair 39 = .ok (.aload_n 0, 1) := by decide +kernel
theorem d_Equality_addPair_40 : decode b_Equality_addPair 40 = .ok (.getfield 13, 3) := by decide +kernel
theorem d_Equality_addPair_43 : decode b_Equality_addPair 43 = .ok (.aload_n 0, 1) := by decide +kernel
theorem d_Equality_addPair_44 : decode b_Equality_addPair 44 = .ok (.dup, 1) := by decide +kernel
theorem d_Equality_addPair_45 : decode b_Equality_addPair 45 = .ok (.getfield 26, 3) := by decide +kernel
theorem d_Equality_addPair_48 : decode b_Equality_addPair 48 = .ok (.dup_x1, 1) := by decide +kernel
theorem d_Equality_addPair_49 : decode b_Equality_addPair 49 = .ok (.iconst 1, 1) := by decide +kernel
theorem d_Equality_addPair_50 : decode b_Equality_addPair 50 = .ok (.iadd, 1) := by decide +kernel
theorem d_Equality_addPair_51 : decode b_Equality_addPair 51 = .ok (.putfield 26, 3) := by decide +kernel
theorem d_Equality_addPair_54 : decode b_Equality_addPair 54 = .ok (.iload_n 1, 1) := by decide +kernel
theorem d_Equality_addPair_55 : decode b_Equality_addPair 55 = .ok (.i2l, 1) := by decide +kernel
theorem d_Equality_addPair_56 : decode b_Equality_addPair 56 = .ok (.bipush 32, 2) := by decide +kernel
theorem d_Equality_addPair_58 : decode b_Equality_addPair 58 = .ok (.lshl, 1) := by decide +kernel
theorem d_Equality_addPair_59 : decode b_Equality_addPair 59 = .ok (.iload_n 2, 1) := by decide +kernel
theorem d_Equality_addPair_60 : decode b_Equality_addPair 60 = .ok (.i2l, 1) := by decide +kernel
theorem d_Equality_addPair_61 : decode b_Equality_addPair 61 = .ok (.lor, 1) := by decide +kernel
theorem d_Equality_addPair_62 : decode b_Equality_addPair 62 = .ok (.lastore, 1) := by decide +kernel
theorem d_Equality_addPair_63 : decode b_Equality_addPair 63 = .ok (.return_, 1) := by decide +kernel
theorem d_Equality_join_0 : decode b_Equality_join 0 = .ok (.lload_n 1, 1) := by decide +kernel
theorem d_Equality_join_1 : decode b_Equality_join 1 = .ok (.lload_n 3, 1) := by decide +kernel
theorem d_Equality_join_2 : decode b_Equality_join 2 = .ok (.lcmp, 1) := by decide +kernel
theorem d_Equality_join_3 : decode b_Equality_join 3 = .ok (.ifCond .ne 5, 3) := by decide +kernel
theorem d_Equality_join_6 : decode b_Equality_join 6 = .ok (.iconst 1, 1) := by decide +kernel
theorem d_Equality_join_7 : decode b_Equality_join 7 = .ok (.ireturn, 1) := by decide +kernel
theorem d_Equality_join_8 : decode b_Equality_join 8 = .ok (.lload_n 1, 1) := by decide +kernel
theorem d_Equality_join_9 : decode b_Equality_join 9 = .ok (.invokestatic 43, 3) := by decide +kernel
theorem d_Equality_join_12 : decode b_Equality_join 12 = .ok (.istore 5, 2) := by decide +kernel
theorem d_Equality_join_14 : decode b_Equality_join 14 = .ok (.iload 5, 2) := by decide +kernel
theorem d_Equality_join_16 : decode b_Equality_join 16 = .ok (.lload_n 3, 1) := by decide +kernel
theorem d_Equality_join_17 : decode b_Equality_join 17 = .ok (.invokestatic 43, 3) := by decide +kernel
theorem d_Equality_join_20 : decode b_Equality_join 20 = .ok (.if_icmp .ne 22, 3) := by decide +kernel
theorem d_Equality_join_23 : decode b_Equality_join 23 = .ok (.iload 5, 2) := by decide +kernel
theorem d_Equality_join_25 : decode b_Equality_join 25 = .ok (.iconst 2, 1) := by decide +kernel
theorem d_Equality_join_26 : decode b_Equality_join 26 = .ok (.if_icmp .eq 18, 3) := by decide +kernel
theorem d_Equality_join_29 : decode b_Equality_join 29 = .ok (.iload 5, 2) := by decide +kernel
theorem d_Equality_join_31 : decode b_Equality_join 31 = .ok (.iconst 3, 1) := by decide +kernel
theorem d_Equality_join_32 : decode b_Equality_join 32 = .ok (.if_icmp .eq 12, 3) := by decide +kernel
theorem d_Equality_join_35 : decode b_Equality_join 35 = .ok (.iload 5, 2) := by decide +kernel
theorem d_Equality_join_37 : decode b_Equality_join 37 = .ok (.bipush 6, 2) := by decide +kernel
theorem d_Equality_join_39 : decode b_Equality_join 39 = .ok (.if_icmp .eq 5, 3) := by decide +kernel
theorem d_Equality_join_42 : decode b_Equality_join 42 = .ok (.iconst 0, 1) := by decide +kernel
theorem d_Equality_join_43 : decode b_Equality_join 43 = .ok (.ireturn, 1) := by decide +kernel
theorem d_Equality_join_44 : decode b_Equality_join 44 = .ok (.lload_n 1, 1) := by decide +kernel
theorem d_Equality_join_45 : decode b_Equality_join 45 = .ok (.invokestatic 48, 3) := by decide +kernel
theorem d_Equality_join_48 : decode b_Equality_join 48 = .ok (.istore 6, 2) := by decide +kernel
theorem d_Equality_join_50 : decode b_Equality_join 50 = .ok (.lload_n 3, 1) := by decide +kernel
theorem d_Equality_join_51 : decode b_Equality_join 51 = .ok (.invokestatic 48, 3) := by decide +kernel
theorem d_Equality_join_54 : decode b_Equality_join 54 = .ok (.istore 7, 2) := by decide +kernel
theorem d_Equality_join_56 : decode b_Equality_join 56 = .ok (.aload_n 0, 1) := by decide +kernel
theorem d_Equality_join_57 : decode b_Equality_join 57 = .ok (.getfield 17, 3) := by decide +kernel
theorem d_Equality_join_60 : decode b_Equality_join 60 = .ok (.getfield 21, 3) := by decide +kernel
theorem d_Equality_join_63 : decode b_Equality_join 63 = .ok (.iload 6, 2) := by decide +kernel
theorem d_Equality_join_65 : decode b_Equality_join 65 = .ok (.laload, 1) := by decide +kernel
theorem d_Equality_join_66 : decode b_Equality_join 66 = .ok (.aload_n 0, 1) := by decide +kernel
theorem d_Equality_join_67 : decode b_Equality_join 67 = .ok (.getfield 17, 3) := by decide +kernel
theorem d_Equality_join_70 : decode b_Equality_join 70 = .ok (.getfield 21, 3) := by decide +kernel
theorem d_Equality_join_73 : decode b_Equality_join 73 = .ok (.iload 7, 2) := by decide +kernel
theorem d_Equality_join_75 : decode b_Equality_join 75 = .ok (.laload, 1) := by decide +kernel
theorem d_Equality_join_76 : decode b_Equality_join 76 = .ok (.lcmp, 1) := by decide +kernel
theorem d_Equality_join_77 : decode b_Equality_join 77 = .ok (.ifCond .eq 5, 3) := by decide +kernel
theorem d_Equality_join_80 : decode b_Equality_join 80 = .ok (.iconst 0, 1) := by decide +kernel
theorem d_Equality_join_81 : decode b_Equality_join 81 = .ok (.ireturn, 1) := by decide +kernel
theorem d_Equality_join_82 : decode b_Equality_join 82 = .ok (.aload_n 0, 1) := by decide +kernel
theorem d_Equality_join_83 : decode b_Equality_join 83 = .ok (.iload 6, 2) := by decide +kernel
theorem d_Equality_join_85 : decode b_Equality_join 85 = .ok (.invokevirtual 51, 3) := by decide +kernel
theorem d_Equality_join_88 : decode b_Equality_join 88 = .ok (.istore 8, 2) := by decide +kernel
theorem d_Equality_join_90 : decode b_Equality_join 90 = .ok (.aload_n 0, 1) := by decide +kernel
theorem d_Equality_join_91 : decode b_Equality_join 91 = .ok (.iload 7, 2) := by decide +kernel
theorem d_Equality_join_93 : decode b_Equality_join 93 = .ok (.invokevirtual 51, 3) := by decide +kernel
theorem d_Equality_join_96 : decode b_Equality_join 96 = .ok (.istore 9, 2) := by decide +kernel
theorem d_Equality_join_98 : decode b_Equality_join 98 = .ok (.iload 8, 2) := by decide +kernel
theorem d_Equality_join_100 : decode b_Equality_join 100 = .ok (.iload 9, 2) := by decide +kernel
theorem d_Equality_join_102 : decode b_Equality_join 102 = .ok (.if_icmp .eq 22, 3) := by decide +kernel
theorem d_Equality_join_105 : decode b_Equality_join 105 = .ok (.aload_n 0, 1) := by decide +kernel
theorem d_Equality_join_106 : decode b_Equality_join 106 = .ok (.getfield 7, 3) := by decide +kernel
theorem d_Equality_join_109 : decode b_Equality_join 109 = .ok (.iload 8, 2) := by decide +kernel
theorem d_Equality_join_111 : decode b_Equality_join 111 = .ok (.iload 9, 2) := by decide +kernel
theorem d_Equality_join_113 : decode b_Equality_join 113 = .ok (.iconst 1, 1) := by decide +kernel
theorem d_Equality_join_114 : decode b_Equality_join 114 = .ok (.iadd, 1) := by decide +kernel
theorem d_Equality_join_115 : decode b_Equality_join 115 = .ok (.iastore, 1) := by decide +kernel
theorem d_Equality_join_116 : decode b_Equality_join 116 = .ok (.aload_n 0, 1) := by decide +kernel
theorem d_Equality_join_117 : decode b_Equality_join 117 = .ok (.iload 6, 2) := by decide +kernel
theorem d_Equality_join_119 : decode b_Equality_join 119 = .ok (.iload 7, 2) := by decide +kernel
theorem d_Equality_join_121 : decode b_Equality_join 121 = .ok (.invokevirtual 55, 3) := by decide +kernel
theorem d_Equality_join_124 : decode b_Equality_join 124 = .ok (.iconst 1, 1) := by decide +kernel
theorem d_Equality_join_125 : decode b_Equality_join 125 = .ok (.ireturn, 1) := by decide +kernel
theorem d_Equality_joinParts_0 : decode b_Equality_joinParts 0 = .ok (.aload_n 0, 1) := by decide +kernel
theorem d_Equality_joinParts_1 : decode b_Equality_joinParts 1 = .ok (.getfield 17, 3) := by decide +kernel
theorem d_Equality_joinParts_4 : decode b_Equality_joinParts 4 = .ok (.aload_n 0, 1) := by decide +kernel
theorem d_Equality_joinParts_5 : decode b_Equality_joinParts 5 = .ok (.getfield 17, 3) := by decide +kernel
theorem d_Equality_joinParts_8 : decode b_Equality_joinParts 8 = .ok (.getfield 21, 3) := by decide +kernel
theorem d_Equality_joinParts_11 : decode b_Equality_joinParts 11 = .ok (.iload_n 1, 1) := by decide +kernel
theorem d_Equality_joinParts_12 : decode b_Equality_joinParts 12 = .ok (.laload, 1) := by decide +kernel
theorem d_Equality_joinParts_13 : decode b_Equality_joinParts 13 = .ok (.invokevirtual 39, 3) := by decide +kernel
theorem d_Equality_joinParts_16 : decode b_Equality_joinParts 16 = .ok (.iconst 1, 1) := by decide +kernel
theorem d_Equality_joinParts_17 : decode b_Equality_joinParts 17 = .ok (.isub, 1) := by decide +kernel
theorem d_Equality_joinParts_18 : decode b_Equality_joinParts 18 = .ok (.istore_n 3, 1) := by decide +kernel
theorem d_Equality_joinParts_19 : decode b_Equality_joinParts 19 = .ok (.aload_n 0, 1) := by decide +kernel
theorem d_Equality_joinParts_20 : decode b_Equality_joinParts 20 = .ok (.getfield 17, 3) := by decide +kernel
theorem d_Equality_joinParts_23 : decode b_Equality_joinParts 23 = .ok (.getfield 21, 3) := by decide +kernel
theorem d_Equality_joinParts_26 : decode b_Equality_joinParts 26 = .ok (.iload_n 1, 1) := by decide +kernel
theorem d_Equality_joinParts_27 : decode b_Equality_joinParts 27 = .ok (.laload, 1) := by decide +kernel
theorem d_Equality_joinParts_28 : decode b_Equality_joinParts 28 = .ok (.invokestatic 43, 3) := by decide +kernel
theorem d_Equality_joinParts_31 : decode b_Equality_joinParts 31 = .ok (.bipush 6, 2) := by decide +kernel
theorem d_Equality_joinParts_33 : decode b_Equality_joinParts 33 = .ok (.if_icmp .ne 7, 3) := by decide +kernel
theorem d_Equality_joinParts_36 : decode b_Equality_joinParts 36 = .ok (.iconst 1, 1) := by decide +kernel
theorem d_Equality_joinParts_37 : decode b_Equality_joinParts 37 = .ok (.goto 4, 3) := by decide +kernel
theorem d_Equality_joinParts_40 : decode b_Equality_joinParts 40 = .ok (.iconst 0, 1) := by decide +kernel
theorem d_Equality_joinParts_41 : decode b_Equality_joinParts 41 = .ok (.istore 4, 2) := by decide +kernel
theorem d_Equality_joinParts_43 : decode b_Equality_joinParts 43 = .ok (.iconst 1, 1) := by decide +kernel
theorem d_Equality_joinParts_44 : decode b_Equality_joinParts 44 = .ok (.istore 5, 2) := by decide +kernel
theorem d_Equality_joinParts_46 : decode b_Equality_joinParts 46 = .ok (.iconst 1, 1) := by decide +kernel
theorem d_Equality_joinParts_47 : decode b_Equality_joinParts 47 = .ok (.istore 6, 2) := by decide +kernel
theorem d_Equality_joinParts_49 : decode b_Equality_joinParts 49 = .ok (.iload 6, 2) := by decide +kernel
theorem d_Equality_joinParts_51 : decode b_Equality_joinParts 51 = .ok (.iload_n 3, 1) := by decide +kernel
theorem d_Equality_joinParts_52 : decode b_Equality_joinParts 52 = .ok (.if_icmp .gt 73, 3) := by decide +kernel
theorem d_Equality_joinParts_55 : decode b_Equality_joinParts 55 = .ok (.iload 5, 2) := by decide +kernel
theorem d_Equality_joinParts_57 : decode b_Equality_joinParts 57 = .ok (.ifCond .eq 68, 3) := by decide +kernel
theorem d_Equality_joinParts_60 : decode b_Equality_joinParts 60 = .ok (.aload_n 0, 1) := by decide +kernel
theorem d_Equality_joinParts_61 : decode b_Equality_joinParts 61 = .ok (.getfield 17, 3) := by decide +kernel
theorem d_Equality_joinParts_64 : decode b_Equality_joinParts 64 = .ok (.getfield 21, 3) := by decide +kernel
theorem d_Equality_joinParts_67 : decode b_Equality_joinParts 67 = .ok (.iload_n 1, 1) := by decide +kernel
theorem d_Equality_joinParts_68 : decode b_Equality_joinParts 68 = .ok (.iload 6, 2) := by decide +kernel
theorem d_Equality_joinParts_70 : decode b_Equality_joinParts 70 = .ok (.iadd, 1) := by decide +kernel
theorem d_Equality_joinParts_71 : decode b_Equality_joinParts 71 = .ok (.laload, 1) := by decide +kernel
theorem d_Equality_joinParts_72 : decode b_Equality_joinParts 72 = .ok (.lstore 7, 2) := by decide +kernel
theorem d_Equality_joinParts_74 : decode b_Equality_joinParts 74 = .ok (.aload_n 0, 1) := by decide +kernel
theorem d_Equality_joinParts_75 : decode b_Equality_joinParts 75 = .ok (.getfield 17, 3) := by decide +kernel
theorem d_Equality_joinParts_78 : decode b_Equality_joinParts 78 = .ok (.getfield 21, 3) := by decide +kernel
theorem d_Equality_joinParts_81 : decode b_Equality_joinParts 81 = .ok (.iload_n 2, 1) := by decide +kernel
theorem d_Equality_joinParts_82 : decode b_Equality_joinParts 82 = .ok (.iload 6, 2) := by decide +kernel
theorem d_Equality_joinParts_84 : decode b_Equality_joinParts 84 = .ok (.iadd, 1) := by decide +kernel
theorem d_Equality_joinParts_85 : decode b_Equality_joinParts 85 = .ok (.laload, 1) := by decide +kernel
theorem d_Equality_joinParts_86 : decode b_Equality_joinParts 86 = .ok (.lstore 9, 2) := by decide +kernel
theorem d_Equality_joinParts_88 : decode b_Equality_joinParts 88 = .ok (.iload 4, 2) := by decide +kernel
theorem d_Equality_joinParts_90 : decode b_Equality_joinParts 90 = .ok (.ifCond .eq 19, 3) := by decide +kernel
theorem d_Equality_joinParts_93 : decode b_Equality_joinParts 93 = .ok (.lload 7, 2) := by decide +kernel
theorem d_Equality_joinParts_95 : decode b_Equality_joinParts 95 = .ok (.lload 9, 2) := by decide +kernel
theorem d_Equality_joinParts_97 : decode b_Equality_joinParts 97 = .ok (.lcmp, 1) := by decide +kernel
theorem d_Equality_joinParts_98 : decode b_Equality_joinParts 98 = .ok (.ifCond .ne 7, 3) := by decide +kernel
theorem d_Equality_joinParts_101 : decode b_Equality_joinParts 101 = .ok (.iconst 1, 1) := by decide +kernel
theorem d_Equality_joinParts_102 : decode b_Equality_joinParts 102 = .ok (.goto 15, 3) := by decide +kernel
theorem d_Equality_joinParts_105 : decode b_Equality_joinParts 105 = .ok (.iconst 0, 1) := by decide +kernel
theorem d_Equality_joinParts_106 : decode b_Equality_joinParts 106 = .ok (.goto 11, 3) := by decide +kernel
theorem d_Equality_joinParts_109 : decode b_Equality_joinParts 109 = .ok (.aload_n 0, 1) := by decide +kernel
theorem d_Equality_joinParts_110 : decode b_Equality_joinParts 110 = .ok (.lload 7, 2) := by decide +kernel
theorem d_Equality_joinParts_112 : decode b_Equality_joinParts 112 = .ok (.lload 9, 2) := by decide +kernel
theorem d_Equality_joinParts_114 : decode b_Equality_joinParts 114 = .ok (.invokevirtual 30, 3) := by decide +kernel
theorem d_Equality_joinParts_117 : decode b_Equality_joinParts 117 = .ok (.istore 5, 2) := by decide +kernel
theorem d_Equality_joinParts_119 : decode b_Equality_joinParts 119 = .ok (.iinc 6 1, 3) := by decide +kernel
theorem d_Equality_joinParts_122 : decode b_Equality_joinParts 122 = .ok (.goto (-73), 3) := by decide +kernel
theorem d_Equality_joinParts_125 : decode b_Equality_joinParts 125 = .ok (.iload 5, 2) := by decide +kernel
theorem d_Equality_joinParts_127 : decode b_Equality_joinParts 127 = .ok (.ireturn, 1) := by decide +kernel
theorem d_Equality_holds_0 : decode b_Equality_holds 0 = .ok (.aload_n 0, 1) := by decide +kernel
theorem d_Equality_holds_1 : decode b_Equality_holds 1 = .ok (.getfield 7, 3) := by decide +kernel
theorem d_Equality_holds_4 : decode b_Equality_holds 4 = .ok (.arraylength, 1) := by decide +kernel
theorem d_Equality_holds_5 : decode b_Equality_holds 5 = .ok (.aload_n 0, 1) := by decide +kernel
theorem d_Equality_holds_6 : decode b_Equality_holds 6 = .ok (.getfield 17, 3) := by decide +kernel
theorem d_Equality_holds_9 : decode b_Equality_holds 9 = .ok (.getfield 21, 3) := by decide +kernel
theorem d_Equality_holds_12 : decode b_Equality_holds 12 = .ok (.arraylength, 1) := by decide +kernel
theorem d_Equality_holds_13 : decode b_Equality_holds 13 = .ok (.if_icmp .ge 17, 3) := by decide +kernel
theorem d_Equality_holds_16 : decode b_Equality_holds 16 = .ok (.aload_n 0, 1) := by decide +kernel
theorem d_Equality_holds_17 : decode b_Equality_holds 17 = .ok (.aload_n 0, 1) := by decide +kernel
theorem d_Equality_holds_18 : decode b_Equality_holds 18 = .ok (.getfield 17, 3) := by decide +kernel
theorem d_Equality_holds_21 : decode b_Equality_holds 21 = .ok (.getfield 21, 3) := by decide +kernel
theorem d_Equality_holds_24 : decode b_Equality_holds 24 = .ok (.arraylength, 1) := by decide +kernel
theorem d_Equality_holds_25 : decode b_Equality_holds 25 = .ok (.newarray .int, 2) := by decide +kernel
theorem d_Equality_holds_27 : decode b_Equality_holds 27 = .ok (.putfield 7, 3) := by decide +kernel
theorem d_Equality_holds_30 : decode b_Equality_holds 30 = .ok (.aload_n 0, 1) := by decide +kernel
theorem d_Equality_holds_31 : decode b_Equality_holds 31 = .ok (.iconst 0, 1) := by decide +kernel
theorem d_Equality_holds_32 : decode b_Equality_holds 32 = .ok (.putfield 26, 3) := by decide +kernel
theorem d_Equality_holds_35 : decode b_Equality_holds 35 = .ok (.aload_n 0, 1) := by decide +kernel
theorem d_Equality_holds_36 : decode b_Equality_holds 36 = .ok (.lload_n 1, 1) := by decide +kernel
theorem d_Equality_holds_37 : decode b_Equality_holds 37 = .ok (.lload_n 3, 1) := by decide +kernel
theorem d_Equality_holds_38 : decode b_Equality_holds 38 = .ok (.invokevirtual 30, 3) := by decide +kernel
theorem d_Equality_holds_41 : decode b_Equality_holds 41 = .ok (.istore 5, 2) := by decide +kernel
theorem d_Equality_holds_43 : decode b_Equality_holds 43 = .ok (.iconst 0, 1) := by decide +kernel
theorem d_Equality_holds_44 : decode b_Equality_holds 44 = .ok (.istore 6, 2) := by decide +kernel
theorem d_Equality_holds_46 : decode b_Equality_holds 46 = .ok (.iload 6, 2) := by decide +kernel
theorem d_Equality_holds_48 : decode b_Equality_holds 48 = .ok (.ldc 34, 2) := by decide +kernel
theorem d_Equality_holds_50 : decode b_Equality_holds 50 = .ok (.if_icmp .ge 48, 3) := by decide +kernel
theorem d_Equality_holds_53 : decode b_Equality_holds 53 = .ok (.iload 6, 2) := by decide +kernel
theorem d_Equality_holds_55 : decode b_Equality_holds 55 = .ok (.aload_n 0, 1) := by decide +kernel
theorem d_Equality_holds_56 : decode b_Equality_holds 56 = .ok (.getfield 26, 3) := by decide +kernel
theorem d_Equality_holds_59 : decode b_Equality_holds 59 = .ok (.if_icmp .ge 39, 3) := by decide +kernel
theorem d_Equality_holds_62 : decode b_Equality_holds 62 = .ok (.iload 5, 2) := by decide +kernel
theorem d_Equality_holds_64 : decode b_Equality_holds 64 = .ok (.ifCond .eq 34, 3) := by decide +kernel
theorem d_Equality_holds_67 : decode b_Equality_holds 67 = .ok (.aload_n 0, 1) := by decide +kernel
theorem d_Equality_holds_68 : decode b_Equality_holds 68 = .ok (.aload_n 0, 1) := by decide +kernel
theorem d_Equality_holds_69 : decode b_Equality_holds 69 = .ok (.getfield 13, 3) := by decide +kernel
theorem d_Equality_holds_72 : decode b_Equality_holds 72 = .ok (.iload 6, 2) := by decide +kernel
theorem d_Equality_holds_74 : decode b_Equality_holds 74 = .ok (.laload, 1) := by decide +kernel
theorem d_Equality_holds_75 : decode b_Equality_holds 75 = .ok (.bipush 32, 2) := by decide +kernel
theorem d_Equality_holds_77 : decode b_Equality_holds 77 = .ok (.lshr, 1) := by decide +kernel
theorem d_Equality_holds_78 : decode b_Equality_holds 78 = .ok (.l2i, 1) := by decide +kernel
theorem d_Equality_holds_79 : decode b_Equality_holds 79 = .ok (.aload_n 0, 1) := by decide +kernel
theorem d_Equality_holds_80 : decode b_Equality_holds 80 = .ok (.getfield 13, 3) := by decide +kernel
theorem d_Equality_holds_83 : decode b_Equality_holds 83 = .ok (.iload 6, 2) := by decide +kernel
theorem d_Equality_holds_85 : decode b_Equality_holds 85 = .ok (.laload, 1) := by decide +kernel
theorem d_Equality_holds_86 : decode b_Equality_holds 86 = .ok (.l2i, 1) := by decide +kernel
theorem d_Equality_holds_87 : decode b_Equality_holds 87 = .ok (.invokevirtual 35, 3) := by decide +kernel
theorem d_Equality_holds_90 : decode b_Equality_holds 90 = .ok (.istore 5, 2) := by decide +kernel
theorem d_Equality_holds_92 : decode b_Equality_holds 92 = .ok (.iinc 6 1, 3) := by decide +kernel
theorem d_Equality_holds_95 : decode b_Equality_holds 95 = .ok (.goto (-49), 3) := by decide +kernel
theorem d_Equality_holds_98 : decode b_Equality_holds 98 = .ok (.iconst 0, 1) := by decide +kernel
theorem d_Equality_holds_99 : decode b_Equality_holds 99 = .ok (.istore 6, 2) := by decide +kernel
theorem d_Equality_holds_101 : decode b_Equality_holds 101 = .ok (.iload 6, 2) := by decide +kernel
theorem d_Equality_holds_103 : decode b_Equality_holds 103 = .ok (.aload_n 0, 1) := by decide +kernel
theorem d_Equality_holds_104 : decode b_Equality_holds 104 = .ok (.getfield 26, 3) := by decide +kernel
theorem d_Equality_holds_107 : decode b_Equality_holds 107 = .ok (.if_icmp .ge 40, 3) := by decide +kernel
theorem d_Equality_holds_110 : decode b_Equality_holds 110 = .ok (.aload_n 0, 1) := by decide +kernel
theorem d_Equality_holds_111 : decode b_Equality_holds 111 = .ok (.getfield 7, 3) := by decide +kernel
theorem d_Equality_holds_114 : decode b_Equality_holds 114 = .ok (.aload_n 0, 1) := by decide +kernel
theorem d_Equality_holds_115 : decode b_Equality_holds 115 = .ok (.getfield 13, 3) := by decide +kernel
theorem d_Equality_holds_118 : decode b_Equality_holds 118 = .ok (.iload 6, 2) := by decide +kernel
theorem d_Equality_holds_120 : decode b_Equality_holds 120 = .ok (.laload, 1) := by decide +kernel
theorem d_Equality_holds_121 : decode b_Equality_holds 121 = .ok (.bipush 32, 2) := by decide +kernel
theorem d_Equality_holds_123 : decode b_Equality_holds 123 = .ok (.lshr, 1) := by decide +kernel
theorem d_Equality_holds_124 : decode b_Equality_holds 124 = .ok (.l2i, 1) := by decide +kernel
theorem d_Equality_holds_125 : decode b_Equality_holds 125 = .ok (.iconst 0, 1) := by decide +kernel
theorem d_Equality_holds_126 : decode b_Equality_holds 126 = .ok (.iastore, 1) := by decide +kernel
theorem d_Equality_holds_127 : decode b_Equality_holds 127 = .ok (.aload_n 0, 1) := by decide +kernel
theorem d_Equality_holds_128 : decode b_Equality_holds 128 = .ok (.getfield 7, 3) := by decide +kernel
theorem d_Equality_holds_131 : decode b_Equality_holds 131 = .ok (.aload_n 0, 1) := by decide +kernel
theorem d_Equality_holds_132 : decode b_Equality_holds 132 = .ok (.getfield 13, 3) := by decide +kernel
theorem d_Equality_holds_135 : decode b_Equality_holds 135 = .ok (.iload 6, 2) := by decide +kernel
theorem d_Equality_holds_137 : decode b_Equality_holds 137 = .ok (.laload, 1) := by decide +kernel
theorem d_Equality_holds_138 : decode b_Equality_holds 138 = .ok (.l2i, 1) := by decide +kernel
theorem d_Equality_holds_139 : decode b_Equality_holds 139 = .ok (.iconst 0, 1) := by decide +kernel
theorem d_Equality_holds_140 : decode b_Equality_holds 140 = .ok (.iastore, 1) := by decide +kernel
theorem d_Equality_holds_141 : decode b_Equality_holds 141 = .ok (.iinc 6 1, 3) := by decide +kernel
theorem d_Equality_holds_144 : decode b_Equality_holds 144 = .ok (.goto (-43), 3) := by decide +kernel
theorem d_Equality_holds_147 : decode b_Equality_holds 147 = .ok (.iload 5, 2) := by decide +kernel
theorem d_Equality_holds_149 : decode b_Equality_holds 149 = .ok (.ireturn, 1) := by decide +kernel
theorem k261 : Cond.constant R_Equality 34 131072 ∈ lw_g := kg (List.mem_append_right _ (List.mem_of_getElem? (i := 776) (by decide +kernel))) rfl
theorem k262 : Cond.fieldLink R_Equality 7 "CellEngine$Equality" "links" "[I" ∈ lw_g := kg (List.mem_append_right _ (List.mem_of_getElem? (i := 245) (by decide +kernel))) rfl
theorem k263 : Cond.fieldLink R_Equality 26 "CellEngine$Equality" "size" "I" ∈ lw_g := kg (List.mem_append_right _ (List.mem_of_getElem? (i := 247) (by decide +kernel))) rfl
theorem k264 : Cond.fieldLink R_Equality 13 "CellEngine$Equality" "pairs" "[J" ∈ lw_g := kg (List.mem_append_right _ (List.mem_of_getElem? (i := 246) (by decide +kernel))) rfl
theorem k265 : Cond.methodLink R_Equality 65 y_Arrays_copyOfJ ∈ lw_g := kg (List.mem_append_right _ (List.mem_of_getElem? (i := 782) (by decide +kernel))) rfl
theorem k266 : Cond.fieldLink R_Equality 17 "CellEngine$Equality" "heap" "LCellEngine$Heap;" ∈ lw_g := kg (List.mem_append_right _ (List.mem_of_getElem? (i := 244) (by decide +kernel))) rfl
theorem k267 : Cond.fieldLink R_Equality 21 "CellEngine$Heap" "cells" "[J" ∈ lw_g := kg (List.mem_append_right _ (List.mem_of_getElem? (i := 146) (by decide +kernel))) rfl
theorem k268 : Cond.methodLink R_Equality 43 y_Value_kind ∈ lw_g := kg (List.mem_append_right _ (List.mem_of_getElem? (i := 770) (by decide +kernel))) rfl
theorem k269 : Cond.methodLink R_Equality 48 y_Value_number ∈ lw_g := kg (List.mem_append_right _ (List.mem_of_getElem? (i := 771) (by decide +kernel))) rfl
theorem k270 : Cond.code y_Equality_leader b_Equality_leader 5 (some .int) ∈ lw_g := kg (List.mem_append_right _ (List.mem_of_getElem? (i := 775) (by decide +kernel))) rfl
theorem k271 : Cond.methodLink R_Equality 51 y_Equality_leader ∈ lw_g := kg (List.mem_append_right _ (List.mem_of_getElem? (i := 772) (by decide +kernel))) rfl
theorem k272 : Cond.instanceMethod y_Equality_leader ∈ lw_g := kg (List.mem_append_right _ (List.mem_of_getElem? (i := 774) (by decide +kernel))) rfl
theorem k273 : Cond.selects R_Equality y_Equality_leader y_Equality_leader ∈ lw_g := kg (List.mem_append_left _ (List.mem_of_getElem? (i := 19) (by decide +kernel))) rfl
theorem k274 : Cond.initialized R_Equality ∈ lw_g := kg (List.mem_append_right _ (List.mem_of_getElem? (i := 8) (by decide +kernel))) rfl
theorem k275 : Cond.code y_Equality_addPair b_Equality_addPair 3 none ∈ lw_g := kg (List.mem_append_right _ (List.mem_of_getElem? (i := 780) (by decide +kernel))) rfl
theorem k276 : Cond.methodLink R_Equality 55 y_Equality_addPair ∈ lw_g := kg (List.mem_append_right _ (List.mem_of_getElem? (i := 777) (by decide +kernel))) rfl
theorem k277 : Cond.instanceMethod y_Equality_addPair ∈ lw_g := kg (List.mem_append_right _ (List.mem_of_getElem? (i := 779) (by decide +kernel))) rfl
theorem k278 : Cond.selects R_Equality y_Equality_addPair y_Equality_addPair ∈ lw_g := kg (List.mem_append_left _ (List.mem_of_getElem? (i := 20) (by decide +kernel))) rfl
theorem k279 : Cond.methodLink R_Equality 39 y_Heap_sizeOf ∈ lw_g := kg (List.mem_append_right _ (List.mem_of_getElem? (i := 787) (by decide +kernel))) rfl
theorem k280 : Cond.code y_Equality_join b_Equality_join 10 (some .boolean) ∈ lw_g := kg (List.mem_append_right _ (List.mem_of_getElem? (i := 769) (by decide +kernel))) rfl
theorem k281 : Cond.methodLink R_Equality 30 y_Equality_join ∈ lw_g := kg (List.mem_append_right _ (List.mem_of_getElem? (i := 766) (by decide +kernel))) rfl
theorem k282 : Cond.instanceMethod y_Equality_join ∈ lw_g := kg (List.mem_append_right _ (List.mem_of_getElem? (i := 768) (by decide +kernel))) rfl
theorem k283 : Cond.selects R_Equality y_Equality_join y_Equality_join ∈ lw_g := kg (List.mem_append_left _ (List.mem_of_getElem? (i := 18) (by decide +kernel))) rfl
theorem k284 : Cond.code y_Equality_joinParts b_Equality_joinParts 11 (some .boolean) ∈ lw_g := kg (List.mem_append_right _ (List.mem_of_getElem? (i := 786) (by decide +kernel))) rfl
theorem k285 : Cond.methodLink R_Equality 35 y_Equality_joinParts ∈ lw_g := kg (List.mem_append_right _ (List.mem_of_getElem? (i := 783) (by decide +kernel))) rfl
theorem k286 : Cond.instanceMethod y_Equality_joinParts ∈ lw_g := kg (List.mem_append_right _ (List.mem_of_getElem? (i := 785) (by decide +kernel))) rfl
theorem k287 : Cond.selects R_Equality y_Equality_joinParts y_Equality_joinParts ∈ lw_g := kg (List.mem_append_left _ (List.mem_of_getElem? (i := 21) (by decide +kernel))) rfl
set_option maxHeartbeats 4000000 in
set_option maxRecDepth 100000 in
theorem l_Equality_leader_2 {p : Program} {l : Launch} {e : Env} {s : State} {m : MethodId} {args : Array Value} {below : List Frame} {meth : Method} {c : Code} {Q : State → Prop} {A : Nat → Prop} (dC : Nat → ClassId) (dI : Nat → Nat → Nat) (N : Nat) (cI : ClassId) (o_Equality : Nat) (o_Heap : Nat) (r_Q_links : Nat) (r_Q_pairs : Nat) (Q_size : Int32) (n_Q_links : Nat) (p0 : Int32) (v1_3 : Int32) (v1_2 : Int32) (w1_f_f_Q_links : Nat → Int32) {ζ : Type} {z : ζ} (hx : p.tables.exec = Jvm.exec) (hb : c.code = b_Equality_leader) (hml : c.maxLocals = 5) (hown : s.vm.findClass R_Equality = some m.cls) (hg : ∀ w ∈ lw_g, w.before args s = true) (hN : dz_N s) (hK : va_K (dC, dI) classes [(cI, .int)] s) (hA : ∀ q : Nat, s.heap.size ≤ q → A q) {k2_52 : (Nat → Int32) → Option (ζ)} (hk2_52 : ∀ (w2_f_f_Q_links : (Nat → Int32))    (H : Heap) (locs : List Loc) (ls : Array Slot), k2_52 w2_f_f_Q_links = some z → va_P (dC, dI) classes [(o_Equality, .inr (5, [.ref o_Heap, .ref r_Q_links, .ref r_Q_pairs, .int Q_size])), (r_Q_links, .inl (cI, n_Q_links, .inl w2_f_f_Q_links))] H → va_D A [(o_Equality, .inr (5, [.ref o_Heap, .ref r_Q_links, .ref r_Q_pairs, .int Q_size])), (r_Q_links, .inl (cI, n_Q_links, .inl w2_f_f_Q_links))] → va_S A s.heap H locs → lv_has ls 5 [(4, .int ((w1_f_f_Q_links v1_2.toNatClampNeg) - 1)), (3, .int v1_3), (2, .int v1_2), (0, .ref o_Equality), (1, .int p0)] → W p l e ({ frames := 0, cells := 0, slots := 0, locals := 0 } : Room) s m args below meth c H locs 0 0 Q (F0 m 52 ls [])) : ∀ (w2_f_f_Q_links : (Nat → Int32))   (H : Heap) (locs : List Loc) (ls : Array Slot), lm_Equality_leader_2 N n_Q_links v1_2 w1_f_f_Q_links k2_52 w2_f_f_Q_links = some z → va_P (dC, dI) classes [(o_Equality, .inr (5, [.ref o_Heap, .ref r_Q_links, .ref r_Q_pairs, .int Q_size])), (r_Q_links, .inl (cI, n_Q_links, .inl w2_f_f_Q_links))] H → va_D A [(o_Equality, .inr (5, [.ref o_Heap, .ref r_Q_links, .ref r_Q_pairs, .int Q_size])), (r_Q_links, .inl (cI, n_Q_links, .inl w2_f_f_Q_links))] → va_S A s.heap H locs → lv_has ls 5 [(4, .int ((w1_f_f_Q_links v1_2.toNatClampNeg) - 1)), (3, .int v1_3), (2, .int v1_2), (0, .ref o_Equality), (1, .int p0)] → W p l e ({ frames := 0, cells := 0, slots := 0, locals := 0 } : Room) s m args below meth c H locs 0 0 Q (F0 m 29 ls []) := by
  intro w2_f_f_Q_links H locs ls h hP hD hS hl
  unfold lm_Equality_leader_2 at h
  refine lv_aload_n hx hb d_Equality_leader_29 rfl (lv_at hl 3 rfl) ?_
  refine va_get (D := (dC, dI)) (ci := 5) (v := .ref r_Q_links) (C := R_Equality) (T := F_Equality) (N := 4) hx hb hg i_Equality hown hK hP 0 rfl rfl 1 (by decide) (hg _ k262) (fun _ h9 => h9) rfl d_Equality_leader_30 ?_
  refine lv_iload hx hb d_Equality_leader_33 (lv_at hl 0 rfl) ?_
  obtain ⟨i5, h⟩ := dz_oi h
  refine va_iald (D := (dC, dI)) hx hb hK hP 1 0 rfl rfl i5 d_Equality_leader_35 ?_
  refine lv_if_eq (tgt := 52) hx hb d_Equality_leader_36 (by decide) (fun c6 => ?_) (fun c6 => ?_)
  · rw [if_pos c6] at h
    exact hk2_52 w2_f_f_Q_links _ _ _ h (hP.sub [0, 1] rfl) (hD.sub [0, 1] (by decide) rfl) hS (lv_sub hl [0, 1, 2, 3, 4] rfl)
  · rw [if_neg c6] at h
    refine lv_aload_n hx hb d_Equality_leader_39 rfl (lv_at hl 3 rfl) ?_
    refine va_get (D := (dC, dI)) (ci := 5) (v := .ref r_Q_links) (C := R_Equality) (T := F_Equality) (N := 4) hx hb hg i_Equality hown hK hP 0 rfl rfl 1 (by decide) (hg _ k262) (fun _ h9 => h9) rfl d_Equality_leader_40 ?_
    refine lv_iload_n hx hb d_Equality_leader_43 rfl (lv_at hl 2 rfl) ?_
    refine lv_aload_n hx hb d_Equality_leader_44 rfl (lv_at hl 3 rfl) ?_
    refine va_get (D := (dC, dI)) (ci := 5) (v := .ref r_Q_links) (C := R_Equality) (T := F_Equality) (N := 4) hx hb hg i_Equality hown hK hP 0 rfl rfl 1 (by decide) (hg _ k262) (fun _ h9 => h9) rfl d_Equality_leader_45 ?_
    refine lv_iload hx hb d_Equality_leader_48 (lv_at hl 0 rfl) ?_
    obtain ⟨i7, h⟩ := dz_oi h
    refine va_iald (D := (dC, dI)) hx hb hK hP 1 0 rfl rfl i7 d_Equality_leader_50 ?_
    obtain ⟨i8, h⟩ := dz_oi h
    refine va_iast (D := (dC, dI)) hx hb hK hP hD hS 1 0 rfl rfl i8 d_Equality_leader_51 (fun H locs hP hD hS => ?_)
    obtain ⟨g9, eg9, h⟩ := dz_lt h
    rw [← eg9] at hP hD
    have hP : va_P (dC, dI) classes [(o_Equality, .inr (5, [.ref o_Heap, .ref r_Q_links, .ref r_Q_pairs, .int Q_size])), (r_Q_links, .inl (cI, n_Q_links, .inl g9))] H := hP
    have hD : va_D A [(o_Equality, .inr (5, [.ref o_Heap, .ref r_Q_links, .ref r_Q_pairs, .int Q_size])), (r_Q_links, .inl (cI, n_Q_links, .inl g9))] := hD
    exact hk2_52 g9 _ _ _ h (hP.sub [0, 1] rfl) (hD.sub [0, 1] (by decide) rfl) hS (lv_sub hl [0, 1, 2, 3, 4] rfl)
set_option maxHeartbeats 4000000 in
set_option maxRecDepth 100000 in
theorem l_Equality_leader_1 {p : Program} {l : Launch} {e : Env} {s : State} {m : MethodId} {args : Array Value} {below : List Frame} {meth : Method} {c : Code} {Q : State → Prop} {A : Nat → Prop} (dC : Nat → ClassId) (dI : Nat → Nat → Nat) (N : Nat) (cI : ClassId) (o_Equality : Nat) (o_Heap : Nat) (r_Q_links : Nat) (r_Q_pairs : Nat) (Q_size : Int32) (n_Q_links : Nat) (p0 : Int32) {ζ : Type} {z : ζ} (hx : p.tables.exec = Jvm.exec) (hb : c.code = b_Equality_leader) (hml : c.maxLocals = 5) (hown : s.vm.findClass R_Equality = some m.cls) (hg : ∀ w ∈ lw_g, w.before args s = true) (hN : dz_N s) (hK : va_K (dC, dI) classes [(cI, .int)] s) (hA : ∀ q : Nat, s.heap.size ≤ q → A q) {k1_61 : Int32 → Int32 → (Nat → Int32) → Option (ζ)} (hk1_61 : ∀ (v1_2 : Int32) (v1_3 : Int32) (w1_f_f_Q_links : (Nat → Int32))    (H : Heap) (locs : List Loc) (ls : Array Slot), k1_61 v1_2 v1_3 w1_f_f_Q_links = some z → va_P (dC, dI) classes [(o_Equality, .inr (5, [.ref o_Heap, .ref r_Q_links, .ref r_Q_pairs, .int Q_size])), (r_Q_links, .inl (cI, n_Q_links, .inl w1_f_f_Q_links))] H → va_D A [(o_Equality, .inr (5, [.ref o_Heap, .ref r_Q_links, .ref r_Q_pairs, .int Q_size])), (r_Q_links, .inl (cI, n_Q_links, .inl w1_f_f_Q_links))] → va_S A s.heap H locs → lv_has ls 5 [(3, .int v1_3), (2, .int v1_2), (0, .ref o_Equality), (1, .int p0)] → W p l e ({ frames := 0, cells := 0, slots := 0, locals := 0 } : Room) s m args below meth c H locs 0 0 Q (F0 m 61 ls [])) : ∀ (n1 : Nat) (v1_2 : Int32) (v1_3 : Int32) (w1_f_f_Q_links : (Nat → Int32))   (H : Heap) (locs : List Loc) (ls : Array Slot), lm_Equality_leader_1 N n_Q_links k1_61 n1 v1_2 v1_3 w1_f_f_Q_links = some z → va_P (dC, dI) classes [(o_Equality, .inr (5, [.ref o_Heap, .ref r_Q_links, .ref r_Q_pairs, .int Q_size])), (r_Q_links, .inl (cI, n_Q_links, .inl w1_f_f_Q_links))] H → va_D A [(o_Equality, .inr (5, [.ref o_Heap, .ref r_Q_links, .ref r_Q_pairs, .int Q_size])), (r_Q_links, .inl (cI, n_Q_links, .inl w1_f_f_Q_links))] → va_S A s.heap H locs → lv_has ls 5 [(3, .int v1_3), (2, .int v1_2), (0, .ref o_Equality), (1, .int p0)] → W p l e ({ frames := 0, cells := 0, slots := 0, locals := 0 } : Room) s m args below meth c H locs 0 0 Q (F0 m 4 ls []) := by
  intro n1
  induction n1 with
  | zero =>
    intro v1_2 v1_3 w1_f_f_Q_links H locs ls h hP hD hS hl
    rw [lm_Equality_leader_1] at h
    cases h
  | succ n1 ih1 =>
    intro v1_2 v1_3 w1_f_f_Q_links H locs ls h hP hD hS hl
    rw [lm_Equality_leader_1] at h
    refine lv_iload_n hx hb d_Equality_leader_4 rfl (lv_at hl 0 rfl) ?_
    refine lv_ldc (v := 131072) hx hb hown (hg _ k261) d_Equality_leader_5 ?_
    refine lv_icmp_ge (tgt := 61) hx hb d_Equality_leader_7 (by decide) (fun c1 => ?_) (fun c1 => ?_)
    · rw [if_pos c1] at h
      exact hk1_61 v1_2 v1_3 w1_f_f_Q_links _ _ _ h (hP.sub [0, 1] rfl) (hD.sub [0, 1] (by decide) rfl) hS (lv_sub hl [0, 1, 2, 3] rfl)
    · rw [if_neg c1] at h
      refine lv_aload_n hx hb d_Equality_leader_10 rfl (lv_at hl 2 rfl) ?_
      refine va_get (D := (dC, dI)) (ci := 5) (v := .ref r_Q_links) (C := R_Equality) (T := F_Equality) (N := 4) hx hb hg i_Equality hown hK hP 0 rfl rfl 1 (by decide) (hg _ k262) (fun _ h9 => h9) rfl d_Equality_leader_11 ?_
      refine lv_iload_n hx hb d_Equality_leader_14 rfl (lv_at hl 1 rfl) ?_
      obtain ⟨i2, h⟩ := dz_oi h
      refine va_iald (D := (dC, dI)) hx hb hK hP 1 0 rfl rfl i2 d_Equality_leader_15 ?_
      refine lv_if_eq (tgt := 61) hx hb d_Equality_leader_16 (by decide) (fun c3 => ?_) (fun c3 => ?_)
      · rw [if_pos c3] at h
        exact hk1_61 v1_2 v1_3 w1_f_f_Q_links _ _ _ h (hP.sub [0, 1] rfl) (hD.sub [0, 1] (by decide) rfl) hS (lv_sub hl [0, 1, 2, 3] rfl)
      · rw [if_neg c3] at h
        refine lv_aload_n hx hb d_Equality_leader_19 rfl (lv_at hl 2 rfl) ?_
        refine va_get (D := (dC, dI)) (ci := 5) (v := .ref r_Q_links) (C := R_Equality) (T := F_Equality) (N := 4) hx hb hg i_Equality hown hK hP 0 rfl rfl 1 (by decide) (hg _ k262) (fun _ h9 => h9) rfl d_Equality_leader_20 ?_
        refine lv_iload_n hx hb d_Equality_leader_23 rfl (lv_at hl 1 rfl) ?_
        obtain ⟨i4, h⟩ := dz_oi h
        refine va_iald (D := (dC, dI)) hx hb hK hP 1 0 rfl rfl i4 d_Equality_leader_24 ?_
        refine lv_iconst (v := 1) hx hb d_Equality_leader_25 (by decide) ?_
        refine lv_isub hx hb d_Equality_leader_26 ?_
        refine lv_istore (lv' := [(4, .int ((w1_f_f_Q_links v1_2.toNatClampNeg) - 1)), (3, .int v1_3), (2, .int v1_2), (0, .ref o_Equality), (1, .int p0)]) hx hb d_Equality_leader_27 hl (by decide) rfl (fun ls hl => ?_)
        refine l_Equality_leader_2 dC dI N cI o_Equality o_Heap r_Q_links r_Q_pairs Q_size n_Q_links p0 v1_3 v1_2 w1_f_f_Q_links hx hb hml hown hg hN hK hA (fun w2_f_f_Q_links H locs ls h hP hD hS hl => ?_) w1_f_f_Q_links _ _ _ h (hP.sub [0, 1] rfl) (hD.sub [0, 1] (by decide) rfl) hS (lv_sub hl [0, 1, 2, 3, 4] rfl)
        refine lv_iload hx hb d_Equality_leader_52 (lv_at hl 0 rfl) ?_
        refine lv_istore_n (lv' := [(2, .int ((w1_f_f_Q_links v1_2.toNatClampNeg) - 1)), (4, .int ((w1_f_f_Q_links v1_2.toNatClampNeg) - 1)), (3, .int v1_3), (0, .ref o_Equality), (1, .int p0)]) hx hb d_Equality_leader_54 rfl hl (by decide) rfl (fun ls hl => ?_)
        refine lv_iinc (v := v1_3 + 1) (lv' := [(3, .int (v1_3 + 1)), (2, .int ((w1_f_f_Q_links v1_2.toNatClampNeg) - 1)), (4, .int ((w1_f_f_Q_links v1_2.toNatClampNeg) - 1)), (0, .ref o_Equality), (1, .int p0)]) hx hb d_Equality_leader_55 hl (k := 2) rfl rfl (by decide) rfl (fun ls hl => ?_)
        refine lv_goto (tgt := 4) hx hb d_Equality_leader_58 (by decide) ?_
        exact ih1 ((w1_f_f_Q_links v1_2.toNatClampNeg) - 1) (v1_3 + 1) w2_f_f_Q_links _ _ _ h (hP.sub [0, 1] rfl) (hD.sub [0, 1] (by decide) rfl) hS (lv_sub hl [0, 1, 3, 4] rfl)
set_option maxHeartbeats 4000000 in
set_option maxRecDepth 100000 in
theorem c_Equality_leader (l : Launch) (dC : Nat → ClassId) (dI : Nat → Nat → Nat) (N : Nat) (cI : ClassId) (o_Equality : Nat) (o_Heap : Nat) (r_Q_links : Nat) (r_Q_pairs : Nat) (Q_size : Int32) (n_Q_links : Nat) (f_Q_links : Nat → Int32) (p0 : Int32) (sz : Nat) (z : Int32 × (Nat → Int32)) (h : m_Equality_leader N Q_size n_Q_links f_Q_links p0 = some z) : Met l y_Equality_leader (.code y_Equality_leader b_Equality_leader 5 (some .int) :: lw_g) ({ frames := 0, cells := 0, slots := 0, locals := 0 }) (va_Pc [.ref o_Equality, .int p0] (fun U => dz_N U ∧ U.heap.size = sz ∧ va_P (dC, dI) classes [(o_Equality, .inr (5, [.ref o_Heap, .ref r_Q_links, .ref r_Q_pairs, .int Q_size])), (r_Q_links, .inl (cI, n_Q_links, .inl f_Q_links))] U.heap ∧ va_K (dC, dI) classes [(cI, .int)] U ∧ va_D (fun _ => True) [(o_Equality, .inr (5, [.ref o_Heap, .ref r_Q_links, .ref r_Q_pairs, .int Q_size])), (r_Q_links, .inl (cI, n_Q_links, .inl f_Q_links))])) (va_Qi (fun (r : Int32) (_ : Unit) => r = z.1) (fun (u : Unit) t => va_P (dC, dI) classes [(o_Equality, .inr (5, [.ref o_Heap, .ref r_Q_links, .ref r_Q_pairs, .int Q_size])), (r_Q_links, .inl (cI, n_Q_links, .inl z.2))] t.heap ∧ va_K (dC, dI) classes [(cI, .int)] t ∧ va_D (va_A [(o_Equality, .inr (5, [.ref o_Heap, .ref r_Q_links, .ref r_Q_pairs, .int Q_size])), (r_Q_links, .inl (cI, n_Q_links, .inl f_Q_links))] sz) [(o_Equality, .inr (5, [.ref o_Heap, .ref r_Q_links, .ref r_Q_pairs, .int Q_size])), (r_Q_links, .inl (cI, n_Q_links, .inl z.2))]) (va_A [(o_Equality, .inr (5, [.ref o_Heap, .ref r_Q_links, .ref r_Q_pairs, .int Q_size])), (r_Q_links, .inl (cI, n_Q_links, .inl f_Q_links))] sz)) 0 0 (va_A [(o_Equality, .inr (5, [.ref o_Heap, .ref r_Q_links, .ref r_Q_pairs, .int Q_size])), (r_Q_links, .inl (cI, n_Q_links, .inl f_Q_links))] sz) := by
  refine Met.ofW (cc := b_Equality_leader) (maxL := 5) (ret := (some .int)) (by decide +kernel) rfl ?_
  intro p e s m args below meth c s₁ B hml hv
  obtain ⟨rfl, hN, hsz, hP, hK, hD0⟩ := hv
  have hx := B.exec
  have hb := B.bytes
  have hr := B.returns
  have hg : ∀ w ∈ lw_g, w.before _ s = true := fun w hw => atoms_spec (ws := .code y_Equality_leader b_Equality_leader 5 (some .int) :: lw_g) B.pre w (List.mem_cons_of_mem _ hw)
  have hown : s.vm.findClass R_Equality = some m.cls := findClass_of_methodNamed B.named
  have hlocks := B.notSynchronized
  clear B
  subst hsz
  have hD := hD0.self (sz := s.heap.size)
  generalize hAe : va_A [(o_Equality, .inr (5, [.ref o_Heap, .ref r_Q_links, .ref r_Q_pairs, .int Q_size])), (r_Q_links, .inl (cI, n_Q_links, .inl f_Q_links))] s.heap.size = A at hD ⊢
  have hA : ∀ q : Nat, s.heap.size ≤ q → A q := fun q h => by rw [← hAe]; exact Or.inr h
  have hS : va_S A s.heap s.heap [] := va_S.rf
  have hP : va_P (dC, dI) classes [(o_Equality, .inr (5, [.ref o_Heap, .ref r_Q_links, .ref r_Q_pairs, .int Q_size])), (r_Q_links, .inl (cI, n_Q_links, .inl f_Q_links))] s.heap := hP
  have hl := lv_entry ([.ref o_Equality, .int p0]) (n := 5) (Nat.le_of_ble_eq_true rfl)
  rw [lg_entry_eq]
  generalize (lg_sl ([.ref o_Equality, .int p0]) ++ List.replicate (5 - (lg_sl ([.ref o_Equality, .int p0])).length) Slot.unset).toArray = ls at hl ⊢
  have hl : lv_has ls 5 [(0, .ref o_Equality), (1, .int p0)] := hl
  unfold m_Equality_leader at h
  refine lv_iload_n hx hb d_Equality_leader_0 rfl (lv_at hl 1 rfl) ?_
  refine lv_istore_n (lv' := [(2, .int p0), (0, .ref o_Equality), (1, .int p0)]) hx hb d_Equality_leader_1 rfl hl (by decide) rfl (fun ls hl => ?_)
  refine lv_iconst (v := 0) hx hb d_Equality_leader_2 (by decide) ?_
  refine lv_istore_n (lv' := [(3, .int 0), (2, .int p0), (0, .ref o_Equality), (1, .int p0)]) hx hb d_Equality_leader_3 rfl hl (by decide) rfl (fun ls hl => ?_)
  refine l_Equality_leader_1 dC dI N cI o_Equality o_Heap r_Q_links r_Q_pairs Q_size n_Q_links p0 hx hb hml hown hg hN hK hA (fun v1_2 v1_3 w1_f_f_Q_links H locs ls h hP hD hS hl => ?_) N p0 (0 : Int32) f_Q_links _ _ _ h (hP.sub [0, 1] rfl) (hD.sub [0, 1] (by decide) rfl) hS (lv_sub hl [0, 1, 2, 3] rfl)
  refine lv_iload_n hx hb d_Equality_leader_61 rfl (lv_at hl 1 rfl) ?_
  obtain rfl := Option.some.inj h
  have hP9 := hP.sub (ws' := [(o_Equality, .inr (5, [.ref o_Heap, .ref r_Q_links, .ref r_Q_pairs, .int Q_size])), (r_Q_links, .inl (cI, n_Q_links, .inl w1_f_f_Q_links))]) [0, 1] rfl
  have hD9 := hD.sub (ws' := [(o_Equality, .inr (5, [.ref o_Heap, .ref r_Q_links, .ref r_Q_pairs, .int Q_size])), (r_Q_links, .inl (cI, n_Q_links, .inl w1_f_f_Q_links))]) [0, 1] (by decide) rfl
  have hK9 := hK.sub (tys' := [(cI, .int)]) [0] rfl
  exact W.iret (v := v1_2) hx hb hr (fun t ht hW => ⟨⟨v1_2, (), rfl, rfl, by rw [ht]; exact hP9, va_K.moved hW.alike hK9, hD9⟩, hS.F ht⟩) hS.2.2 d_Equality_leader_62

set_option maxHeartbeats 4000000 in
set_option maxRecDepth 100000 in
theorem l_Equality_addPair_1 {p : Program} {l : Launch} {e : Env} {s : State} {m : MethodId} {args : Array Value} {below : List Frame} {meth : Method} {c : Code} {Q : State → Prop} {A : Nat → Prop} (dC : Nat → ClassId) (dI : Nat → Nat → Nat) (N : Nat) (cL : ClassId) (o_Equality : Nat) (o_Heap : Nat) (r_Q_links : Nat) (Q_size : Int32) (p0 : Int32) (p1 : Int32) {α : Type} {Z1 : α} {Zc Zs : Nat} (hx : p.tables.exec = Jvm.exec) (hb : c.code = b_Equality_addPair) (hml : c.maxLocals = 3) (hown : s.vm.findClass R_Equality = some m.cls) (hg : ∀ w ∈ lw_g, w.before args s = true) (hN : dz_N s) (hK : va_K (dC, dI) classes [(cL, .long)] s) (hA : ∀ q : Nat, s.heap.size ≤ q → A q) {k1_39 : Nat → (Nat → Int64) → Option (α × Nat × Nat)} (hk1_39 : ∀ (w1_n_f_Q_pairs : Nat) (w1_f_f_Q_pairs : (Nat → Int64)) (w1_a_f_Q_pairs : Nat)  (z : α × Nat × Nat) (cc cs : Nat) (H : Heap) (locs : List Loc) (ls : Array Slot), k1_39 w1_n_f_Q_pairs w1_f_f_Q_pairs = some z → dz_G Z1 Zc Zs z cc cs → va_P (dC, dI) classes [(o_Equality, .inr (5, [.ref o_Heap, .ref r_Q_links, .ref w1_a_f_Q_pairs, .int Q_size])), (w1_a_f_Q_pairs, .inl (cL, w1_n_f_Q_pairs, .inr (.inl w1_f_f_Q_pairs)))] H → va_D A [(o_Equality, .inr (5, [.ref o_Heap, .ref r_Q_links, .ref w1_a_f_Q_pairs, .int Q_size])), (w1_a_f_Q_pairs, .inl (cL, w1_n_f_Q_pairs, .inr (.inl w1_f_f_Q_pairs)))] → va_S A s.heap H locs → lv_has ls 3 [(0, .ref o_Equality), (1, .int p0), (2, .int p1)] → W p l e ({ frames := 2, cells := Zc, slots := Zs, locals := 82 } : Room) s m args below meth c H locs cc cs Q (F0 m 39 ls [])) : ∀ (w1_n_f_Q_pairs : Nat) (w1_f_f_Q_pairs : (Nat → Int64)) (w1_a_f_Q_pairs : Nat) (z : α × Nat × Nat) (cc cs : Nat) (H : Heap) (locs : List Loc) (ls : Array Slot), lm_Equality_addPair_1 N Q_size k1_39 w1_n_f_Q_pairs w1_f_f_Q_pairs = some z → dz_G Z1 Zc Zs z cc cs → va_P (dC, dI) classes [(o_Equality, .inr (5, [.ref o_Heap, .ref r_Q_links, .ref w1_a_f_Q_pairs, .int Q_size])), (w1_a_f_Q_pairs, .inl (cL, w1_n_f_Q_pairs, .inr (.inl w1_f_f_Q_pairs)))] H → va_D A [(o_Equality, .inr (5, [.ref o_Heap, .ref r_Q_links, .ref w1_a_f_Q_pairs, .int Q_size])), (w1_a_f_Q_pairs, .inl (cL, w1_n_f_Q_pairs, .inr (.inl w1_f_f_Q_pairs)))] → va_S A s.heap H locs → lv_has ls 3 [(0, .ref o_Equality), (1, .int p0), (2, .int p1)] → W p l e ({ frames := 2, cells := Zc, slots := Zs, locals := 82 } : Room) s m args below meth c H locs cc cs Q (F0 m 0 ls []) := by
  intro w1_n_f_Q_pairs w1_f_f_Q_pairs w1_a_f_Q_pairs z cc cs H locs ls h hG hP hD hS hl
  unfold lm_Equality_addPair_1 at h
  refine lv_aload_n hx hb d_Equality_addPair_0 rfl (lv_at hl 0 rfl) ?_
  refine va_get (D := (dC, dI)) (ci := 5) (v := .int Q_size) (C := R_Equality) (T := F_Equality) (N := 4) hx hb hg i_Equality hown hK hP 0 rfl rfl 3 (by decide) (hg _ k263) (fun _ h9 => h9) rfl d_Equality_addPair_1 ?_
  refine lv_aload_n hx hb d_Equality_addPair_4 rfl (lv_at hl 0 rfl) ?_
  refine va_get (D := (dC, dI)) (ci := 5) (v := .ref w1_a_f_Q_pairs) (C := R_Equality) (T := F_Equality) (N := 4) hx hb hg i_Equality hown hK hP 0 rfl rfl 2 (by decide) (hg _ k264) (fun _ h9 => h9) rfl d_Equality_addPair_5 ?_
  refine va_alen (D := (dC, dI)) (v := Int32.ofNat w1_n_f_Q_pairs) hx hb hK hP 1 0 rfl rfl rfl d_Equality_addPair_8 ?_
  refine lv_icmp_lt (tgt := 39) hx hb d_Equality_addPair_9 (by decide) (fun c1 => ?_) (fun c1 => ?_)
  · rw [if_pos c1] at h
    exact hk1_39 w1_n_f_Q_pairs w1_f_f_Q_pairs w1_a_f_Q_pairs _ _ _ _ _ _ h hG (hP.sub [0, 1] rfl) (hD.sub [0, 1] (by decide) rfl) hS (lv_sub hl [0, 1, 2] rfl)
  · rw [if_neg c1] at h
    refine lv_aload_n hx hb d_Equality_addPair_12 rfl (lv_at hl 0 rfl) ?_
    refine lv_aload_n hx hb d_Equality_addPair_13 rfl (lv_at hl 0 rfl) ?_
    refine va_get (D := (dC, dI)) (ci := 5) (v := .ref w1_a_f_Q_pairs) (C := R_Equality) (T := F_Equality) (N := 4) hx hb hg i_Equality hown hK hP 0 rfl rfl 2 (by decide) (hg _ k264) (fun _ h9 => h9) rfl d_Equality_addPair_14 ?_
    refine lv_aload_n hx hb d_Equality_addPair_17 rfl (lv_at hl 0 rfl) ?_
    refine va_get (D := (dC, dI)) (ci := 5) (v := .ref w1_a_f_Q_pairs) (C := R_Equality) (T := F_Equality) (N := 4) hx hb hg i_Equality hown hK hP 0 rfl rfl 2 (by decide) (hg _ k264) (fun _ h9 => h9) rfl d_Equality_addPair_18 ?_
    refine va_alen (D := (dC, dI)) (v := Int32.ofNat w1_n_f_Q_pairs) hx hb hK hP 1 0 rfl rfl rfl d_Equality_addPair_21 ?_
    refine lv_aload_n hx hb d_Equality_addPair_22 rfl (lv_at hl 0 rfl) ?_
    refine va_get (D := (dC, dI)) (ci := 5) (v := .int Q_size) (C := R_Equality) (T := F_Equality) (N := 4) hx hb hg i_Equality hown hK hP 0 rfl rfl 3 (by decide) (hg _ k263) (fun _ h9 => h9) rfl d_Equality_addPair_23 ?_
    refine lv_iconst (v := 1) hx hb d_Equality_addPair_26 (by decide) ?_
    refine lv_iadd hx hb d_Equality_addPair_27 ?_
    refine lv_ldc (v := 131072) hx hb hown (hg _ k261) d_Equality_addPair_28 ?_
    obtain ⟨z2_1, hc2, h⟩ := dz_ob h
    try dsimp only at h
    have hPc := hP.sub (ws' := []) [] rfl
    have hKc := hK.sub (tys' := []) [] rfl
    refine vp_callSi (va_Run.run (va_runSN (As := [.int (Int32.ofNat w1_n_f_Q_pairs), .int (Q_size + 1), .int 131072]) (rest := [.ref w1_a_f_Q_pairs, .ref o_Equality]) ⟨hx, hb, hml, hown, hg⟩ (c_Engine_longer l dC dI N (Int32.ofNat w1_n_f_Q_pairs) (Q_size + 1) (131072 : Int32) z2_1 hc2) ⟨va_cnB 3 hg (gd_N k26) rfl rfl rfl hN.1 (hg _ k27) (by decide +kernel) ⟨Nat.le_of_ble_eq_true rfl, Nat.le_of_ble_eq_true rfl⟩, hg _ k28, trivial⟩ ⟨dz_blindR, fun U hU hW => ⟨rfl, dz_Nw hW hN, by rw [hU]; exact hPc, va_K.moved hW.alike hKc⟩⟩ rfl rfl hl.1 rfl (lv_room (Nat.le_of_ble_eq_true rfl)) d_Equality_addPair_30 ⟨dz_Gc hG, dz_Gs hG⟩)) (fun r2 hw => ?_)
    have hw : z2_1 = r2 := hw.symm
    subst hw
    obtain ⟨⟨⟨z3_1, z3_2⟩, zc3, zs3⟩, hc3, h⟩ := dz_ob h
    try dsimp only at h
    obtain ⟨z, h, hG⟩ := dz_tkG h hG
    have hPc := hP.sub (ws' := [(w1_a_f_Q_pairs, .inl (cL, w1_n_f_Q_pairs, .inr (.inl w1_f_f_Q_pairs)))]) [1] rfl
    have hKc := hK.sub (tys' := [(cL, .long)]) [0] rfl
    have hDc := hD.sub (ws' := [(w1_a_f_Q_pairs, .inl (cL, w1_n_f_Q_pairs, .inr (.inl w1_f_f_Q_pairs)))]) [1] (by decide) rfl
    have hFc := va_free (wc := [(w1_a_f_Q_pairs, .inl (cL, w1_n_f_Q_pairs, .inr (.inl w1_f_f_Q_pairs)))]) hD hS hA [1] rfl
    refine va_callr (va_runS (As := [.ref w1_a_f_Q_pairs, .int z2_1]) (rest := [.ref o_Equality]) ⟨hx, hb, hml, hown, hg⟩ (c_Arrays_copyOfJ l dC dI N cL w1_a_f_Q_pairs w1_n_f_Q_pairs w1_f_f_Q_pairs z2_1 H.size (z3_1, z3_2) zc3 zs3 hc3) (va_cwS 2 hg (gd_S k265 k69 k22 k67) rfl rfl rfl (by decide +kernel) ⟨Nat.le_of_ble_eq_true rfl, Nat.le_of_ble_eq_true rfl⟩) ⟨dz_blind, fun U hU hW => ⟨rfl, dz_Nw hW hN, by rw [hU], by rw [hU]; exact hPc, va_K.moved hW.alike hKc, hDc.weaken (fun _ _ _ _ => trivial)⟩⟩ rfl rfl hl.1 rfl (lv_room (Nat.le_of_ble_eq_true rfl)) d_Equality_addPair_33 ⟨dz_Gc hG, dz_Gs hG⟩) hS (fun q _ h => hFc q h) hFc (fun u3 a3_r t3 H1 locs ht hvm hw hB hz1 hk1 hS => ?_)
    obtain ⟨hP1, hK1, hD1⟩ := hB
    rw [ht] at hP1
    obtain ⟨hP, hD⟩ := va_join (wr := [(o_Equality, .inr (5, [.ref o_Heap, .ref r_Q_links, .ref w1_a_f_Q_pairs, .int Q_size]))]) (w1 := [(w1_a_f_Q_pairs, .inl (cL, w1_n_f_Q_pairs, .inr (.inl w1_f_f_Q_pairs))), (a3_r, .inl (cL, z3_1, .inr (.inl z3_2)))]) hP hD [1] [0] rfl rfl (by decide) (by decide) hk1 hFc hP1 hD1
    generalize H1 = H at hP hS ⊢
    have hP : va_P (dC, dI) classes [(o_Equality, .inr (5, [.ref o_Heap, .ref r_Q_links, .ref w1_a_f_Q_pairs, .int Q_size])), (w1_a_f_Q_pairs, .inl (cL, w1_n_f_Q_pairs, .inr (.inl w1_f_f_Q_pairs))), (a3_r, .inl (cL, z3_1, .inr (.inl z3_2)))] H := hP
    have hD : va_D A [(o_Equality, .inr (5, [.ref o_Heap, .ref r_Q_links, .ref w1_a_f_Q_pairs, .int Q_size])), (w1_a_f_Q_pairs, .inl (cL, w1_n_f_Q_pairs, .inr (.inl w1_f_f_Q_pairs))), (a3_r, .inl (cL, z3_1, .inr (.inl z3_2)))] := hD
    refine va_put (D := (dC, dI)) (ci := 5) (v := .ref a3_r) (ty := .array .long) (C := R_Equality) (T := F_Equality) (N := 4) hx hb hg i_Equality t_Equality t_Equality_ok n_Equality hown hK hP hD hS 0 rfl rfl 2 (by decide) (hg _ k264) (fun _ h9 => h9) rfl (by decide +kernel) rfl rfl (Nat.le_of_ble_eq_true rfl) d_Equality_addPair_36 (fun H locs hP hD hS => ?_)
    have hP : va_P (dC, dI) classes [(o_Equality, .inr (5, [.ref o_Heap, .ref r_Q_links, .ref a3_r, .int Q_size])), (w1_a_f_Q_pairs, .inl (cL, w1_n_f_Q_pairs, .inr (.inl w1_f_f_Q_pairs))), (a3_r, .inl (cL, z3_1, .inr (.inl z3_2)))] H := hP
    have hD : va_D A [(o_Equality, .inr (5, [.ref o_Heap, .ref r_Q_links, .ref a3_r, .int Q_size])), (w1_a_f_Q_pairs, .inl (cL, w1_n_f_Q_pairs, .inr (.inl w1_f_f_Q_pairs))), (a3_r, .inl (cL, z3_1, .inr (.inl z3_2)))] := hD
    exact hk1_39 z3_1 z3_2 a3_r _ _ _ _ _ _ h hG (hP.sub [0, 2] rfl) (hD.sub [0, 2] (by decide) rfl) hS (lv_sub hl [0, 1, 2] rfl)
set_option maxHeartbeats 4000000 in
set_option maxRecDepth 100000 in
theorem c_Equality_addPair (l : Launch) (dC : Nat → ClassId) (dI : Nat → Nat → Nat) (N : Nat) (cL : ClassId) (o_Equality : Nat) (o_Heap : Nat) (r_Q_links : Nat) (r_Q_pairs : Nat) (Q_size : Int32) (n_Q_pairs : Nat) (f_Q_pairs : Nat → Int64) (p0 : Int32) (p1 : Int32) (sz : Nat) (Z1 : Int32 × Nat × (Nat → Int64)) (Zc Zs : Nat) (h : m_Equality_addPair N Q_size n_Q_pairs f_Q_pairs p0 p1 = some (Z1, Zc, Zs)) : Met l y_Equality_addPair (.code y_Equality_addPair b_Equality_addPair 3 none :: lw_g) ({ frames := 2, cells := Zc, slots := Zs, locals := 82 }) (va_Pc [.ref o_Equality, .int p0, .int p1] (fun U => dz_N U ∧ U.heap.size = sz ∧ va_P (dC, dI) classes [(o_Equality, .inr (5, [.ref o_Heap, .ref r_Q_links, .ref r_Q_pairs, .int Q_size])), (r_Q_pairs, .inl (cL, n_Q_pairs, .inr (.inl f_Q_pairs)))] U.heap ∧ va_K (dC, dI) classes [(cL, .long)] U ∧ va_D (fun _ => True) [(o_Equality, .inr (5, [.ref o_Heap, .ref r_Q_links, .ref r_Q_pairs, .int Q_size])), (r_Q_pairs, .inl (cL, n_Q_pairs, .inr (.inl f_Q_pairs)))])) (va_Qv (fun (_ : Nat) => True) (fun (u : Nat) t => va_P (dC, dI) classes [(o_Equality, .inr (5, [.ref o_Heap, .ref r_Q_links, .ref u, .int Z1.1])), (u, .inl (cL, Z1.2.1, .inr (.inl Z1.2.2)))] t.heap ∧ va_K (dC, dI) classes [(cL, .long)] t ∧ va_D (va_A [(o_Equality, .inr (5, [.ref o_Heap, .ref r_Q_links, .ref r_Q_pairs, .int Q_size])), (r_Q_pairs, .inl (cL, n_Q_pairs, .inr (.inl f_Q_pairs)))] sz) [(o_Equality, .inr (5, [.ref o_Heap, .ref r_Q_links, .ref u, .int Z1.1])), (u, .inl (cL, Z1.2.1, .inr (.inl Z1.2.2)))]) (va_A [(o_Equality, .inr (5, [.ref o_Heap, .ref r_Q_links, .ref r_Q_pairs, .int Q_size])), (r_Q_pairs, .inl (cL, n_Q_pairs, .inr (.inl f_Q_pairs)))] sz)) Zc Zs (va_A [(o_Equality, .inr (5, [.ref o_Heap, .ref r_Q_links, .ref r_Q_pairs, .int Q_size])), (r_Q_pairs, .inl (cL, n_Q_pairs, .inr (.inl f_Q_pairs)))] sz) := by
  refine Met.ofW (cc := b_Equality_addPair) (maxL := 3) (ret := none) (by decide +kernel) rfl ?_
  intro p e s m args below meth c s₁ B hml hv
  obtain ⟨rfl, hN, hsz, hP, hK, hD0⟩ := hv
  have hx := B.exec
  have hb := B.bytes
  have hr := B.returns
  have hg : ∀ w ∈ lw_g, w.before _ s = true := fun w hw => atoms_spec (ws := .code y_Equality_addPair b_Equality_addPair 3 none :: lw_g) B.pre w (List.mem_cons_of_mem _ hw)
  have hown : s.vm.findClass R_Equality = some m.cls := findClass_of_methodNamed B.named
  have hlocks := B.notSynchronized
  clear B
  subst hsz
  have hD := hD0.self (sz := s.heap.size)
  generalize hAe : va_A [(o_Equality, .inr (5, [.ref o_Heap, .ref r_Q_links, .ref r_Q_pairs, .int Q_size])), (r_Q_pairs, .inl (cL, n_Q_pairs, .inr (.inl f_Q_pairs)))] s.heap.size = A at hD ⊢
  have hA : ∀ q : Nat, s.heap.size ≤ q → A q := fun q h => by rw [← hAe]; exact Or.inr h
  have hS : va_S A s.heap s.heap [] := va_S.rf
  have hP : va_P (dC, dI) classes [(o_Equality, .inr (5, [.ref o_Heap, .ref r_Q_links, .ref r_Q_pairs, .int Q_size])), (r_Q_pairs, .inl (cL, n_Q_pairs, .inr (.inl f_Q_pairs)))] s.heap := hP
  have hl := lv_entry ([.ref o_Equality, .int p0, .int p1]) (n := 3) (Nat.le_of_ble_eq_true rfl)
  rw [lg_entry_eq]
  generalize (lg_sl ([.ref o_Equality, .int p0, .int p1]) ++ List.replicate (3 - (lg_sl ([.ref o_Equality, .int p0, .int p1])).length) Slot.unset).toArray = ls at hl ⊢
  have hl : lv_has ls 3 [(0, .ref o_Equality), (1, .int p0), (2, .int p1)] := hl
  unfold m_Equality_addPair at h
  have hG : dz_G Z1 Zc Zs (Z1, Zc, Zs) 0 0 := ⟨rfl, (Nat.zero_add _).symm, (Nat.zero_add _).symm⟩
  generalize (Z1, Zc, Zs) = z at h hG
  refine l_Equality_addPair_1 dC dI N cL o_Equality o_Heap r_Q_links Q_size p0 p1 hx hb hml hown hg hN hK hA (fun w1_n_f_Q_pairs w1_f_f_Q_pairs w1_a_f_Q_pairs z cc cs H locs ls h hG hP hD hS hl => ?_) n_Q_pairs f_Q_pairs r_Q_pairs _ _ _ _ _ _ h hG (hP.sub [0, 1] rfl) (hD.sub [0, 1] (by decide) rfl) hS (lv_sub hl [0, 1, 2] rfl)
  refine lv_aload_n hx hb d_Equality_addPair_39 rfl (lv_at hl 0 rfl) ?_
  refine va_get (D := (dC, dI)) (ci := 5) (v := .ref w1_a_f_Q_pairs) (C := R_Equality) (T := F_Equality) (N := 4) hx hb hg i_Equality hown hK hP 0 rfl rfl 2 (by decide) (hg _ k264) (fun _ h9 => h9) rfl d_Equality_addPair_40 ?_
  refine lv_aload_n hx hb d_Equality_addPair_43 rfl (lv_at hl 0 rfl) ?_
  refine lv_dup hx hb d_Equality_addPair_44 rfl ?_
  refine va_get (D := (dC, dI)) (ci := 5) (v := .int Q_size) (C := R_Equality) (T := F_Equality) (N := 4) hx hb hg i_Equality hown hK hP 0 rfl rfl 3 (by decide) (hg _ k263) (fun _ h9 => h9) rfl d_Equality_addPair_45 ?_
  refine lv_dup_x1 hx hb d_Equality_addPair_48 rfl rfl ?_
  refine lv_iconst (v := 1) hx hb d_Equality_addPair_49 (by decide) ?_
  refine lv_iadd hx hb d_Equality_addPair_50 ?_
  refine va_put (D := (dC, dI)) (ci := 5) (v := .int (Q_size + 1)) (ty := .int) (C := R_Equality) (T := F_Equality) (N := 4) hx hb hg i_Equality t_Equality t_Equality_ok n_Equality hown hK hP hD hS 0 rfl rfl 3 (by decide) (hg _ k263) (fun _ h9 => h9) rfl (by decide +kernel) rfl rfl (Nat.le_of_ble_eq_true rfl) d_Equality_addPair_51 (fun H locs hP hD hS => ?_)
  have hP : va_P (dC, dI) classes [(o_Equality, .inr (5, [.ref o_Heap, .ref r_Q_links, .ref w1_a_f_Q_pairs, .int (Q_size + 1)])), (w1_a_f_Q_pairs, .inl (cL, w1_n_f_Q_pairs, .inr (.inl w1_f_f_Q_pairs)))] H := hP
  have hD : va_D A [(o_Equality, .inr (5, [.ref o_Heap, .ref r_Q_links, .ref w1_a_f_Q_pairs, .int (Q_size + 1)])), (w1_a_f_Q_pairs, .inl (cL, w1_n_f_Q_pairs, .inr (.inl w1_f_f_Q_pairs)))] := hD
  refine lv_iload_n hx hb d_Equality_addPair_54 rfl (lv_at hl 1 rfl) ?_
  refine lv_i2l (v := p0.toInt64) hx hb d_Equality_addPair_55 rfl ?_
  refine lv_bipush (v := 32) hx hb d_Equality_addPair_56 (by decide) ?_
  refine lv_lshl (v := p0.toInt64 <<< ((32 : Int32).toInt64 &&& 63)) hx hb d_Equality_addPair_58 rfl ?_
  refine lv_iload_n hx hb d_Equality_addPair_59 rfl (lv_at hl 2 rfl) ?_
  refine lv_i2l (v := p1.toInt64) hx hb d_Equality_addPair_60 rfl ?_
  refine lv_lor hx hb d_Equality_addPair_61 ?_
  obtain ⟨i4, h⟩ := dz_oi h
  refine va_last (D := (dC, dI)) hx hb hK hP hD hS 1 0 rfl rfl i4 d_Equality_addPair_62 (fun H locs hP hD hS => ?_)
  obtain ⟨g5, eg5, h⟩ := dz_lt h
  rw [← eg5] at hP hD
  have hP : va_P (dC, dI) classes [(o_Equality, .inr (5, [.ref o_Heap, .ref r_Q_links, .ref w1_a_f_Q_pairs, .int (Q_size + 1)])), (w1_a_f_Q_pairs, .inl (cL, w1_n_f_Q_pairs, .inr (.inl g5)))] H := hP
  have hD : va_D A [(o_Equality, .inr (5, [.ref o_Heap, .ref r_Q_links, .ref w1_a_f_Q_pairs, .int (Q_size + 1)])), (w1_a_f_Q_pairs, .inl (cL, w1_n_f_Q_pairs, .inr (.inl g5)))] := hD
  obtain rfl := Option.some.inj h
  have hP9 := hP.sub (ws' := [(o_Equality, .inr (5, [.ref o_Heap, .ref r_Q_links, .ref w1_a_f_Q_pairs, .int (Q_size + 1)])), (w1_a_f_Q_pairs, .inl (cL, w1_n_f_Q_pairs, .inr (.inl g5)))]) [0, 1] rfl
  have hD9 := hD.sub (ws' := [(o_Equality, .inr (5, [.ref o_Heap, .ref r_Q_links, .ref w1_a_f_Q_pairs, .int (Q_size + 1)])), (w1_a_f_Q_pairs, .inl (cL, w1_n_f_Q_pairs, .inr (.inl g5)))]) [0, 1] (by decide) rfl
  have hK9 := hK.sub (tys' := [(cL, .long)]) [0] rfl
  refine W.widen (dz_Gc hG) (dz_Gs hG) ?_
  obtain ⟨rfl, -, -⟩ := hG
  exact W.vret hx hb hr (fun t ht hW => ⟨⟨w1_a_f_Q_pairs, rfl, trivial, by rw [ht]; exact hP9, va_K.moved hW.alike hK9, hD9⟩, hS.F ht⟩) hS.2.2 d_Equality_addPair_63

set_option maxHeartbeats 4000000 in
set_option maxRecDepth 100000 in
theorem c_Equality_join (l : Launch) (dC : Nat → ClassId) (dI : Nat → Nat → Nat) (N : Nat) (cI : ClassId) (cL : ClassId) (o_Heap : Nat) (o_Stacks : Nat) (o_Equality : Nat) (r_H_globals : Nat) (r_H_cells : Nat) (r_H_spare : Nat) (r_H_keptGlobals : Nat) (r_H_keptCells : Nat) (r_Q_links : Nat) (r_Q_pairs : Nat) (H_globalsUsed : Int32) (H_used : Int32) (H_spareUsed : Int32) (H_old : Int32) (H_oldLeadsToNew : Int32) (H_limit : Int32) (H_every : Int32) (H_fresh : Int32) (H_made : Int32) (H_madeLimit : Int32) (H_reachedFromGlobals : Int32) (H_reachedInAll : Int32) (H_keptGlobalsUsed : Int32) (H_kept : Int32) (Q_size : Int32) (n_H_cells : Nat) (f_H_cells : Nat → Int64) (n_Q_links : Nat) (f_Q_links : Nat → Int32) (n_Q_pairs : Nat) (f_Q_pairs : Nat → Int64) (p0 : Int64) (p1 : Int64) (sz : Nat) (Z1 : Int32 × (Nat → Int32) × Int32 × Nat × (Nat → Int64)) (Zc Zs : Nat) (h : m_Equality_join N H_globalsUsed H_used H_spareUsed H_old H_oldLeadsToNew H_limit H_every H_fresh H_made H_madeLimit H_reachedFromGlobals H_reachedInAll H_keptGlobalsUsed H_kept Q_size n_H_cells f_H_cells n_Q_links f_Q_links n_Q_pairs f_Q_pairs p0 p1 = some (Z1, Zc, Zs)) : Met l y_Equality_join (.code y_Equality_join b_Equality_join 10 (some .boolean) :: lw_g) ({ frames := 3, cells := Zc, slots := Zs, locals := 104 }) (va_Pc [.ref o_Equality, .long p0, .long p1] (fun U => dz_N U ∧ U.heap.size = sz ∧ va_P (dC, dI) classes [(o_Heap, .inr (3, [.ref o_Stacks, .ref r_H_globals, .int H_globalsUsed, .ref r_H_cells, .int H_used, .ref r_H_spare, .int H_spareUsed, .int H_old, .int H_oldLeadsToNew, .int H_limit, .int H_every, .int H_fresh, .int H_made, .int H_madeLimit, .int H_reachedFromGlobals, .int H_reachedInAll, .ref r_H_keptGlobals, .int H_keptGlobalsUsed, .ref r_H_keptCells, .int H_kept])), (o_Equality, .inr (5, [.ref o_Heap, .ref r_Q_links, .ref r_Q_pairs, .int Q_size])), (r_H_cells, .inl (cL, n_H_cells, .inr (.inl f_H_cells))), (r_Q_links, .inl (cI, n_Q_links, .inl f_Q_links)), (r_Q_pairs, .inl (cL, n_Q_pairs, .inr (.inl f_Q_pairs)))] U.heap ∧ va_K (dC, dI) classes [(cI, .int), (cL, .long)] U ∧ va_D (fun _ => True) [(o_Heap, .inr (3, [.ref o_Stacks, .ref r_H_globals, .int H_globalsUsed, .ref r_H_cells, .int H_used, .ref r_H_spare, .int H_spareUsed, .int H_old, .int H_oldLeadsToNew, .int H_limit, .int H_every, .int H_fresh, .int H_made, .int H_madeLimit, .int H_reachedFromGlobals, .int H_reachedInAll, .ref r_H_keptGlobals, .int H_keptGlobalsUsed, .ref r_H_keptCells, .int H_kept])), (o_Equality, .inr (5, [.ref o_Heap, .ref r_Q_links, .ref r_Q_pairs, .int Q_size])), (r_H_cells, .inl (cL, n_H_cells, .inr (.inl f_H_cells))), (r_Q_links, .inl (cI, n_Q_links, .inl f_Q_links)), (r_Q_pairs, .inl (cL, n_Q_pairs, .inr (.inl f_Q_pairs)))])) (va_Qi (fun (r : Int32) (_ : Nat) => r = Z1.1 ∧ narrow .boolean (.int Z1.1) = .int Z1.1 ∧ fits .boolean (.int Z1.1) = true) (fun (u : Nat) t => va_P (dC, dI) classes [(o_Heap, .inr (3, [.ref o_Stacks, .ref r_H_globals, .int H_globalsUsed, .ref r_H_cells, .int H_used, .ref r_H_spare, .int H_spareUsed, .int H_old, .int H_oldLeadsToNew, .int H_limit, .int H_every, .int H_fresh, .int H_made, .int H_madeLimit, .int H_reachedFromGlobals, .int H_reachedInAll, .ref r_H_keptGlobals, .int H_keptGlobalsUsed, .ref r_H_keptCells, .int H_kept])), (o_Equality, .inr (5, [.ref o_Heap, .ref r_Q_links, .ref u, .int Z1.2.2.1])), (r_H_cells, .inl (cL, n_H_cells, .inr (.inl f_H_cells))), (r_Q_links, .inl (cI, n_Q_links, .inl Z1.2.1)), (u, .inl (cL, Z1.2.2.2.1, .inr (.inl Z1.2.2.2.2)))] t.heap ∧ va_K (dC, dI) classes [(cI, .int), (cL, .long)] t ∧ va_D (va_A [(o_Heap, .inr (3, [.ref o_Stacks, .ref r_H_globals, .int H_globalsUsed, .ref r_H_cells, .int H_used, .ref r_H_spare, .int H_spareUsed, .int H_old, .int H_oldLeadsToNew, .int H_limit, .int H_every, .int H_fresh, .int H_made, .int H_madeLimit, .int H_reachedFromGlobals, .int H_reachedInAll, .ref r_H_keptGlobals, .int H_keptGlobalsUsed, .ref r_H_keptCells, .int H_kept])), (o_Equality, .inr (5, [.ref o_Heap, .ref r_Q_links, .ref r_Q_pairs, .int Q_size])), (r_H_cells, .inl (cL, n_H_cells, .inr (.inl f_H_cells))), (r_Q_links, .inl (cI, n_Q_links, .inl f_Q_links)), (r_Q_pairs, .inl (cL, n_Q_pairs, .inr (.inl f_Q_pairs)))] sz) [(o_Heap, .inr (3, [.ref o_Stacks, .ref r_H_globals, .int H_globalsUsed, .ref r_H_cells, .int H_used, .ref r_H_spare, .int H_spareUsed, .int H_old, .int H_oldLeadsToNew, .int H_limit, .int H_every, .int H_fresh, .int H_made, .int H_madeLimit, .int H_reachedFromGlobals, .int H_reachedInAll, .ref r_H_keptGlobals, .int H_keptGlobalsUsed, .ref r_H_keptCells, .int H_kept])), (o_Equality, .inr (5, [.ref o_Heap, .ref r_Q_links, .ref u, .int Z1.2.2.1])), (r_H_cells, .inl (cL, n_H_cells, .inr (.inl f_H_cells))), (r_Q_links, .inl (cI, n_Q_links, .inl Z1.2.1)), (u, .inl (cL, Z1.2.2.2.1, .inr (.inl Z1.2.2.2.2)))]) (va_A [(o_Heap, .inr (3, [.ref o_Stacks, .ref r_H_globals, .int H_globalsUsed, .ref r_H_cells, .int H_used, .ref r_H_spare, .int H_spareUsed, .int H_old, .int H_oldLeadsToNew, .int H_limit, .int H_every, .int H_fresh, .int H_made, .int H_madeLimit, .int H_reachedFromGlobals, .int H_reachedInAll, .ref r_H_keptGlobals, .int H_keptGlobalsUsed, .ref r_H_keptCells, .int H_kept])), (o_Equality, .inr (5, [.ref o_Heap, .ref r_Q_links, .ref r_Q_pairs, .int Q_size])), (r_H_cells, .inl (cL, n_H_cells, .inr (.inl f_H_cells))), (r_Q_links, .inl (cI, n_Q_links, .inl f_Q_links)), (r_Q_pairs, .inl (cL, n_Q_pairs, .inr (.inl f_Q_pairs)))] sz)) Zc Zs (va_A [(o_Heap, .inr (3, [.ref o_Stacks, .ref r_H_globals, .int H_globalsUsed, .ref r_H_cells, .int H_used, .ref r_H_spare, .int H_spareUsed, .int H_old, .int H_oldLeadsToNew, .int H_limit, .int H_every, .int H_fresh, .int H_made, .int H_madeLimit, .int H_reachedFromGlobals, .int H_reachedInAll, .ref r_H_keptGlobals, .int H_keptGlobalsUsed, .ref r_H_keptCells, .int H_kept])), (o_Equality, .inr (5, [.ref o_Heap, .ref r_Q_links, .ref r_Q_pairs, .int Q_size])), (r_H_cells, .inl (cL, n_H_cells, .inr (.inl f_H_cells))), (r_Q_links, .inl (cI, n_Q_links, .inl f_Q_links)), (r_Q_pairs, .inl (cL, n_Q_pairs, .inr (.inl f_Q_pairs)))] sz) := by
  refine Met.ofW (cc := b_Equality_join) (maxL := 10) (ret := (some .boolean)) (by decide +kernel) rfl ?_
  intro p e s m args below meth c s₁ B hml hv
  obtain ⟨rfl, hN, hsz, hP, hK, hD0⟩ := hv
  have hx := B.exec
  have hb := B.bytes
  have hr := B.returns
  have hg : ∀ w ∈ lw_g, w.before _ s = true := fun w hw => atoms_spec (ws := .code y_Equality_join b_Equality_join 10 (some .boolean) :: lw_g) B.pre w (List.mem_cons_of_mem _ hw)
  have hown : s.vm.findClass R_Equality = some m.cls := findClass_of_methodNamed B.named
  have hlocks := B.notSynchronized
  clear B
  subst hsz
  have hD := hD0.self (sz := s.heap.size)
  generalize hAe : va_A [(o_Heap, .inr (3, [.ref o_Stacks, .ref r_H_globals, .int H_globalsUsed, .ref r_H_cells, .int H_used, .ref r_H_spare, .int H_spareUsed, .int H_old, .int H_oldLeadsToNew, .int H_limit, .int H_every, .int H_fresh, .int H_made, .int H_madeLimit, .int H_reachedFromGlobals, .int H_reachedInAll, .ref r_H_keptGlobals, .int H_keptGlobalsUsed, .ref r_H_keptCells, .int H_kept])), (o_Equality, .inr (5, [.ref o_Heap, .ref r_Q_links, .ref r_Q_pairs, .int Q_size])), (r_H_cells, .inl (cL, n_H_cells, .inr (.inl f_H_cells))), (r_Q_links, .inl (cI, n_Q_links, .inl f_Q_links)), (r_Q_pairs, .inl (cL, n_Q_pairs, .inr (.inl f_Q_pairs)))] s.heap.size = A at hD ⊢
  have hA : ∀ q : Nat, s.heap.size ≤ q → A q := fun q h => by rw [← hAe]; exact Or.inr h
  have hS : va_S A s.heap s.heap [] := va_S.rf
  have hP : va_P (dC, dI) classes [(o_Heap, .inr (3, [.ref o_Stacks, .ref r_H_globals, .int H_globalsUsed, .ref r_H_cells, .int H_used, .ref r_H_spare, .int H_spareUsed, .int H_old, .int H_oldLeadsToNew, .int H_limit, .int H_every, .int H_fresh, .int H_made, .int H_madeLimit, .int H_reachedFromGlobals, .int H_reachedInAll, .ref r_H_keptGlobals, .int H_keptGlobalsUsed, .ref r_H_keptCells, .int H_kept])), (o_Equality, .inr (5, [.ref o_Heap, .ref r_Q_links, .ref r_Q_pairs, .int Q_size])), (r_H_cells, .inl (cL, n_H_cells, .inr (.inl f_H_cells))), (r_Q_links, .inl (cI, n_Q_links, .inl f_Q_links)), (r_Q_pairs, .inl (cL, n_Q_pairs, .inr (.inl f_Q_pairs)))] s.heap := hP
  have hl := lv_entry ([.ref o_Equality, .long p0, .long p1]) (n := 10) (Nat.le_of_ble_eq_true rfl)
  rw [lg_entry_eq]
  generalize (lg_sl ([.ref o_Equality, .long p0, .long p1]) ++ List.replicate (10 - (lg_sl ([.ref o_Equality, .long p0, .long p1])).length) Slot.unset).toArray = ls at hl ⊢
  have hl : lv_has ls 10 [(0, .ref o_Equality), (1, .long p0), (3, .long p1)] := hl
  unfold m_Equality_join at h
  have hG : dz_G Z1 Zc Zs (Z1, Zc, Zs) 0 0 := ⟨rfl, (Nat.zero_add _).symm, (Nat.zero_add _).symm⟩
  generalize (Z1, Zc, Zs) = z at h hG
  refine lv_lload_n hx hb d_Equality_join_0 rfl (lv_at hl 1 rfl) ?_
  refine lv_lload_n hx hb d_Equality_join_1 rfl (lv_at hl 2 rfl) ?_
  refine W.lcmp hx hb d_Equality_join_2 ?_
  refine lv_if_ne (tgt := 8) hx hb d_Equality_join_3 (by decide) (fun c1 => ?_) (fun c1 => ?_)
  · rw [if_neg c1] at h
    refine lv_lload_n hx hb d_Equality_join_8 rfl (lv_at hl 1 rfl) ?_
    obtain ⟨z2_1, hc2, h⟩ := dz_ob h
    try dsimp only at h
    have hPc := hP.sub (ws' := []) [] rfl
    have hKc := hK.sub (tys' := []) [] rfl
    refine vp_callSi (va_Run.run (va_runS (As := [.long p0]) (rest := []) ⟨hx, hb, hml, hown, hg⟩ (c_Value_kind l dC dI N p0 z2_1 hc2) (va_cwS 1 hg (gd_S k268 k136 k122 k134) rfl rfl rfl (by decide +kernel) ⟨Nat.le_of_ble_eq_true rfl, Nat.le_of_ble_eq_true rfl⟩) ⟨dz_blindR, fun U hU hW => ⟨rfl, dz_Nw hW hN, by rw [hU]; exact hPc, va_K.moved hW.alike hKc⟩⟩ rfl rfl hl.1 rfl (lv_room (Nat.le_of_ble_eq_true rfl)) d_Equality_join_9 ⟨dz_Gc hG, dz_Gs hG⟩)) (fun r2 hw => ?_)
    have hw : z2_1 = r2 := hw.symm
    subst hw
    refine lv_istore (lv' := [(5, .int z2_1), (0, .ref o_Equality), (1, .long p0), (3, .long p1)]) hx hb d_Equality_join_12 hl (by decide) rfl (fun ls hl => ?_)
    refine lv_iload hx hb d_Equality_join_14 (lv_at hl 0 rfl) ?_
    refine lv_lload_n hx hb d_Equality_join_16 rfl (lv_at hl 3 rfl) ?_
    obtain ⟨z3_1, hc3, h⟩ := dz_ob h
    try dsimp only at h
    have hPc := hP.sub (ws' := []) [] rfl
    have hKc := hK.sub (tys' := []) [] rfl
    refine vp_callSi (va_Run.run (va_runS (As := [.long p1]) (rest := [.int z2_1]) ⟨hx, hb, hml, hown, hg⟩ (c_Value_kind l dC dI N p1 z3_1 hc3) (va_cwS 1 hg (gd_S k268 k136 k122 k134) rfl rfl rfl (by decide +kernel) ⟨Nat.le_of_ble_eq_true rfl, Nat.le_of_ble_eq_true rfl⟩) ⟨dz_blindR, fun U hU hW => ⟨rfl, dz_Nw hW hN, by rw [hU]; exact hPc, va_K.moved hW.alike hKc⟩⟩ rfl rfl hl.1 rfl (lv_room (Nat.le_of_ble_eq_true rfl)) d_Equality_join_17 ⟨dz_Gc hG, dz_Gs hG⟩)) (fun r3 hw => ?_)
    have hw : z3_1 = r3 := hw.symm
    subst hw
    refine lv_icmp_ne (tgt := 42) hx hb d_Equality_join_20 (by decide) (fun c4 => ?_) (fun c4 => ?_)
    · rw [if_neg c4] at h
      refine lv_iconst (v := 0) hx hb d_Equality_join_42 (by decide) ?_
      obtain rfl := Option.some.inj h
      have hP9 := hP.sub (ws' := [(o_Heap, .inr (3, [.ref o_Stacks, .ref r_H_globals, .int H_globalsUsed, .ref r_H_cells, .int H_used, .ref r_H_spare, .int H_spareUsed, .int H_old, .int H_oldLeadsToNew, .int H_limit, .int H_every, .int H_fresh, .int H_made, .int H_madeLimit, .int H_reachedFromGlobals, .int H_reachedInAll, .ref r_H_keptGlobals, .int H_keptGlobalsUsed, .ref r_H_keptCells, .int H_kept])), (o_Equality, .inr (5, [.ref o_Heap, .ref r_Q_links, .ref r_Q_pairs, .int Q_size])), (r_H_cells, .inl (cL, n_H_cells, .inr (.inl f_H_cells))), (r_Q_links, .inl (cI, n_Q_links, .inl f_Q_links)), (r_Q_pairs, .inl (cL, n_Q_pairs, .inr (.inl f_Q_pairs)))]) [0, 1, 2, 3, 4] rfl
      have hD9 := hD.sub (ws' := [(o_Heap, .inr (3, [.ref o_Stacks, .ref r_H_globals, .int H_globalsUsed, .ref r_H_cells, .int H_used, .ref r_H_spare, .int H_spareUsed, .int H_old, .int H_oldLeadsToNew, .int H_limit, .int H_every, .int H_fresh, .int H_made, .int H_madeLimit, .int H_reachedFromGlobals, .int H_reachedInAll, .ref r_H_keptGlobals, .int H_keptGlobalsUsed, .ref r_H_keptCells, .int H_kept])), (o_Equality, .inr (5, [.ref o_Heap, .ref r_Q_links, .ref r_Q_pairs, .int Q_size])), (r_H_cells, .inl (cL, n_H_cells, .inr (.inl f_H_cells))), (r_Q_links, .inl (cI, n_Q_links, .inl f_Q_links)), (r_Q_pairs, .inl (cL, n_Q_pairs, .inr (.inl f_Q_pairs)))]) [0, 1, 2, 3, 4] (by decide) rfl
      have hK9 := hK.sub (tys' := [(cI, .int), (cL, .long)]) [0, 1] rfl
      refine W.widen (dz_Gc hG) (dz_Gs hG) ?_
      obtain ⟨rfl, -, -⟩ := hG
      exact W.zret (v := 0) (ty := .boolean) hx hb hr (show narrow .boolean (.int 0) = .int 0 from rfl) (fun t ht hW => ⟨⟨0, r_Q_pairs, rfl, ⟨rfl, (show narrow .boolean (.int 0) = .int 0 from rfl), (show fits .boolean (.int 0) = true from rfl)⟩, by rw [ht]; exact hP9, va_K.moved hW.alike hK9, hD9⟩, hS.F ht⟩) hS.2.2 d_Equality_join_43
    · rw [if_pos c4] at h
      refine lv_iload hx hb d_Equality_join_23 (lv_at hl 0 rfl) ?_
      refine lv_iconst (v := 2) hx hb d_Equality_join_25 (by decide) ?_
      refine lv_icmp_eq (tgt := 44) hx hb d_Equality_join_26 (by decide) (fun c5 => ?_) (fun c5 => ?_)
      · rw [if_pos c5] at h
        refine lv_lload_n hx hb d_Equality_join_44 rfl (lv_at hl 2 rfl) ?_
        obtain ⟨z6_1, hc6, h⟩ := dz_ob h
        try dsimp only at h
        have hPc := hP.sub (ws' := []) [] rfl
        have hKc := hK.sub (tys' := []) [] rfl
        refine vp_callSi (va_Run.run (va_runS (As := [.long p0]) (rest := []) ⟨hx, hb, hml, hown, hg⟩ (c_Value_number l dC dI N p0 z6_1 hc6) (va_cwS 1 hg (gd_S k269 k139 k122 k137) rfl rfl rfl (by decide +kernel) ⟨Nat.le_of_ble_eq_true rfl, Nat.le_of_ble_eq_true rfl⟩) ⟨dz_blindR, fun U hU hW => ⟨rfl, dz_Nw hW hN, by rw [hU]; exact hPc, va_K.moved hW.alike hKc⟩⟩ rfl rfl hl.1 rfl (lv_room (Nat.le_of_ble_eq_true rfl)) d_Equality_join_45 ⟨dz_Gc hG, dz_Gs hG⟩)) (fun r6 hw => ?_)
        have hw : z6_1 = r6 := hw.symm
        subst hw
        refine lv_istore (lv' := [(6, .int z6_1), (5, .int z2_1), (0, .ref o_Equality), (1, .long p0), (3, .long p1)]) hx hb d_Equality_join_48 hl (by decide) rfl (fun ls hl => ?_)
        refine lv_lload_n hx hb d_Equality_join_50 rfl (lv_at hl 4 rfl) ?_
        obtain ⟨z7_1, hc7, h⟩ := dz_ob h
        try dsimp only at h
        have hPc := hP.sub (ws' := []) [] rfl
        have hKc := hK.sub (tys' := []) [] rfl
        refine vp_callSi (va_Run.run (va_runS (As := [.long p1]) (rest := []) ⟨hx, hb, hml, hown, hg⟩ (c_Value_number l dC dI N p1 z7_1 hc7) (va_cwS 1 hg (gd_S k269 k139 k122 k137) rfl rfl rfl (by decide +kernel) ⟨Nat.le_of_ble_eq_true rfl, Nat.le_of_ble_eq_true rfl⟩) ⟨dz_blindR, fun U hU hW => ⟨rfl, dz_Nw hW hN, by rw [hU]; exact hPc, va_K.moved hW.alike hKc⟩⟩ rfl rfl hl.1 rfl (lv_room (Nat.le_of_ble_eq_true rfl)) d_Equality_join_51 ⟨dz_Gc hG, dz_Gs hG⟩)) (fun r7 hw => ?_)
        have hw : z7_1 = r7 := hw.symm
        subst hw
        refine lv_istore (lv' := [(7, .int z7_1), (6, .int z6_1), (5, .int z2_1), (0, .ref o_Equality), (1, .long p0), (3, .long p1)]) hx hb d_Equality_join_54 hl (by decide) rfl (fun ls hl => ?_)
        refine lv_aload_n hx hb d_Equality_join_56 rfl (lv_at hl 3 rfl) ?_
        refine va_get (D := (dC, dI)) (ci := 5) (v := .ref o_Heap) (C := R_Equality) (T := F_Equality) (N := 4) hx hb hg i_Equality hown hK hP 1 rfl rfl 0 (by decide) (hg _ k266) (fun _ h9 => h9) rfl d_Equality_join_57 ?_
        refine va_get (D := (dC, dI)) (ci := 3) (v := .ref r_H_cells) (C := R_Heap) (T := F_Heap) (N := 20) hx hb hg i_Heap hown hK hP 0 rfl rfl 3 (by decide) (hg _ k267) (fun _ h9 => h9) rfl d_Equality_join_60 ?_
        refine lv_iload hx hb d_Equality_join_63 (lv_at hl 1 rfl) ?_
        obtain ⟨i8, h⟩ := dz_oi h
        refine va_lald (D := (dC, dI)) hx hb hK hP 2 1 rfl rfl i8 d_Equality_join_65 ?_
        refine lv_aload_n hx hb d_Equality_join_66 rfl (lv_at hl 3 rfl) ?_
        refine va_get (D := (dC, dI)) (ci := 5) (v := .ref o_Heap) (C := R_Equality) (T := F_Equality) (N := 4) hx hb hg i_Equality hown hK hP 1 rfl rfl 0 (by decide) (hg _ k266) (fun _ h9 => h9) rfl d_Equality_join_67 ?_
        refine va_get (D := (dC, dI)) (ci := 3) (v := .ref r_H_cells) (C := R_Heap) (T := F_Heap) (N := 20) hx hb hg i_Heap hown hK hP 0 rfl rfl 3 (by decide) (hg _ k267) (fun _ h9 => h9) rfl d_Equality_join_70 ?_
        refine lv_iload hx hb d_Equality_join_73 (lv_at hl 0 rfl) ?_
        obtain ⟨i9, h⟩ := dz_oi h
        refine va_lald (D := (dC, dI)) hx hb hK hP 2 1 rfl rfl i9 d_Equality_join_75 ?_
        refine W.lcmp hx hb d_Equality_join_76 ?_
        refine lv_if_eq (tgt := 82) hx hb d_Equality_join_77 (by decide) (fun c10 => ?_) (fun c10 => ?_)
        · rw [if_pos c10] at h
          refine lv_aload_n hx hb d_Equality_join_82 rfl (lv_at hl 3 rfl) ?_
          refine lv_iload hx hb d_Equality_join_83 (lv_at hl 1 rfl) ?_
          obtain ⟨⟨z11_1, z11_2⟩, hc11, h⟩ := dz_ob h
          try dsimp only at h
          have hPc := hP.sub (ws' := [(o_Equality, .inr (5, [.ref o_Heap, .ref r_Q_links, .ref r_Q_pairs, .int Q_size])), (r_Q_links, .inl (cI, n_Q_links, .inl f_Q_links))]) [1, 3] rfl
          have hKc := hK.sub (tys' := [(cI, .int)]) [0] rfl
          have hDc := hD.sub (ws' := [(o_Equality, .inr (5, [.ref o_Heap, .ref r_Q_links, .ref r_Q_pairs, .int Q_size])), (r_Q_links, .inl (cI, n_Q_links, .inl f_Q_links))]) [1, 3] (by decide) rfl
          have hFc := va_free (wc := [(o_Equality, .inr (5, [.ref o_Heap, .ref r_Q_links, .ref r_Q_pairs, .int Q_size])), (r_Q_links, .inl (cI, n_Q_links, .inl f_Q_links))]) hD hS hA [1, 3] rfl
          refine va_calli (va_runV (As := [.int z6_1]) (rest := []) ⟨hx, hb, hml, hown, hg⟩ (c_Equality_leader l dC dI N cI o_Equality o_Heap r_Q_links r_Q_pairs Q_size n_Q_links f_Q_links z6_1 s.heap.size (z11_1, z11_2) hc11) (cwV 1 hg (gd_V k271 k272 k273 k274 k270) rfl rfl rfl (by decide +kernel) ⟨Nat.le_of_ble_eq_true rfl, Nat.le_of_ble_eq_true rfl⟩) ⟨dz_blind, va_recv hKc hPc (ci := 5) (q0 := 0) rfl rfl, fun U hU hW => ⟨rfl, dz_Nw hW hN, by rw [hU], by rw [hU]; exact hPc, va_K.moved hW.alike hKc, hDc.weaken (fun _ _ _ _ => trivial)⟩⟩ rfl rfl hl.1 rfl (lv_room (Nat.le_of_ble_eq_true rfl)) d_Equality_join_85 ⟨dz_Gc hG, dz_Gs hG⟩) hS (fun q _ h => hFc q h) hFc (fun r11 u11 t11 H1 locs ht hvm hw hB hz1 hk1 hS => ?_)
          obtain ⟨hP1, hK1, hD1⟩ := hB
          rw [ht] at hP1
          obtain ⟨hP, hD⟩ := va_join (wr := [(o_Heap, .inr (3, [.ref o_Stacks, .ref r_H_globals, .int H_globalsUsed, .ref r_H_cells, .int H_used, .ref r_H_spare, .int H_spareUsed, .int H_old, .int H_oldLeadsToNew, .int H_limit, .int H_every, .int H_fresh, .int H_made, .int H_madeLimit, .int H_reachedFromGlobals, .int H_reachedInAll, .ref r_H_keptGlobals, .int H_keptGlobalsUsed, .ref r_H_keptCells, .int H_kept])), (r_H_cells, .inl (cL, n_H_cells, .inr (.inl f_H_cells))), (r_Q_pairs, .inl (cL, n_Q_pairs, .inr (.inl f_Q_pairs)))]) (w1 := [(o_Equality, .inr (5, [.ref o_Heap, .ref r_Q_links, .ref r_Q_pairs, .int Q_size])), (r_Q_links, .inl (cI, n_Q_links, .inl z11_2))]) hP hD [1, 3] [0, 2, 4] rfl rfl (by decide) (by decide) hk1 hFc hP1 hD1
          have hw : z11_1 = r11 := hw.symm
          subst hw
          generalize H1 = H at hP hS ⊢
          have hP : va_P (dC, dI) classes [(o_Heap, .inr (3, [.ref o_Stacks, .ref r_H_globals, .int H_globalsUsed, .ref r_H_cells, .int H_used, .ref r_H_spare, .int H_spareUsed, .int H_old, .int H_oldLeadsToNew, .int H_limit, .int H_every, .int H_fresh, .int H_made, .int H_madeLimit, .int H_reachedFromGlobals, .int H_reachedInAll, .ref r_H_keptGlobals, .int H_keptGlobalsUsed, .ref r_H_keptCells, .int H_kept])), (r_H_cells, .inl (cL, n_H_cells, .inr (.inl f_H_cells))), (r_Q_pairs, .inl (cL, n_Q_pairs, .inr (.inl f_Q_pairs))), (o_Equality, .inr (5, [.ref o_Heap, .ref r_Q_links, .ref r_Q_pairs, .int Q_size])), (r_Q_links, .inl (cI, n_Q_links, .inl z11_2))] H := hP
          have hD : va_D A [(o_Heap, .inr (3, [.ref o_Stacks, .ref r_H_globals, .int H_globalsUsed, .ref r_H_cells, .int H_used, .ref r_H_spare, .int H_spareUsed, .int H_old, .int H_oldLeadsToNew, .int H_limit, .int H_every, .int H_fresh, .int H_made, .int H_madeLimit, .int H_reachedFromGlobals, .int H_reachedInAll, .ref r_H_keptGlobals, .int H_keptGlobalsUsed, .ref r_H_keptCells, .int H_kept])), (r_H_cells, .inl (cL, n_H_cells, .inr (.inl f_H_cells))), (r_Q_pairs, .inl (cL, n_Q_pairs, .inr (.inl f_Q_pairs))), (o_Equality, .inr (5, [.ref o_Heap, .ref r_Q_links, .ref r_Q_pairs, .int Q_size])), (r_Q_links, .inl (cI, n_Q_links, .inl z11_2))] := hD
          refine lv_istore (lv' := [(8, .int z11_1), (7, .int z7_1), (6, .int z6_1), (5, .int z2_1), (0, .ref o_Equality), (1, .long p0), (3, .long p1)]) hx hb d_Equality_join_88 hl (by decide) rfl (fun ls hl => ?_)
          refine lv_aload_n hx hb d_Equality_join_90 rfl (lv_at hl 4 rfl) ?_
          refine lv_iload hx hb d_Equality_join_91 (lv_at hl 1 rfl) ?_
          obtain ⟨⟨z12_1, z12_2⟩, hc12, h⟩ := dz_ob h
          try dsimp only at h
          have hPc := hP.sub (ws' := [(o_Equality, .inr (5, [.ref o_Heap, .ref r_Q_links, .ref r_Q_pairs, .int Q_size])), (r_Q_links, .inl (cI, n_Q_links, .inl z11_2))]) [3, 4] rfl
          have hKc := hK.sub (tys' := [(cI, .int)]) [0] rfl
          have hDc := hD.sub (ws' := [(o_Equality, .inr (5, [.ref o_Heap, .ref r_Q_links, .ref r_Q_pairs, .int Q_size])), (r_Q_links, .inl (cI, n_Q_links, .inl z11_2))]) [3, 4] (by decide) rfl
          have hFc := va_free (wc := [(o_Equality, .inr (5, [.ref o_Heap, .ref r_Q_links, .ref r_Q_pairs, .int Q_size])), (r_Q_links, .inl (cI, n_Q_links, .inl z11_2))]) hD hS hA [3, 4] rfl
          refine va_calli (va_runV (As := [.int z7_1]) (rest := []) ⟨hx, hb, hml, hown, hg⟩ (c_Equality_leader l dC dI N cI o_Equality o_Heap r_Q_links r_Q_pairs Q_size n_Q_links z11_2 z7_1 H.size (z12_1, z12_2) hc12) (cwV 1 hg (gd_V k271 k272 k273 k274 k270) rfl rfl rfl (by decide +kernel) ⟨Nat.le_of_ble_eq_true rfl, Nat.le_of_ble_eq_true rfl⟩) ⟨dz_blind, va_recv hKc hPc (ci := 5) (q0 := 0) rfl rfl, fun U hU hW => ⟨rfl, dz_Nw hW hN, by rw [hU], by rw [hU]; exact hPc, va_K.moved hW.alike hKc, hDc.weaken (fun _ _ _ _ => trivial)⟩⟩ rfl rfl hl.1 rfl (lv_room (Nat.le_of_ble_eq_true rfl)) d_Equality_join_93 ⟨dz_Gc hG, dz_Gs hG⟩) hS (fun q _ h => hFc q h) hFc (fun r12 u12 t12 H1 locs ht hvm hw hB hz1 hk1 hS => ?_)
          obtain ⟨hP1, hK1, hD1⟩ := hB
          rw [ht] at hP1
          obtain ⟨hP, hD⟩ := va_join (wr := [(o_Heap, .inr (3, [.ref o_Stacks, .ref r_H_globals, .int H_globalsUsed, .ref r_H_cells, .int H_used, .ref r_H_spare, .int H_spareUsed, .int H_old, .int H_oldLeadsToNew, .int H_limit, .int H_every, .int H_fresh, .int H_made, .int H_madeLimit, .int H_reachedFromGlobals, .int H_reachedInAll, .ref r_H_keptGlobals, .int H_keptGlobalsUsed, .ref r_H_keptCells, .int H_kept])), (r_H_cells, .inl (cL, n_H_cells, .inr (.inl f_H_cells))), (r_Q_pairs, .inl (cL, n_Q_pairs, .inr (.inl f_Q_pairs)))]) (w1 := [(o_Equality, .inr (5, [.ref o_Heap, .ref r_Q_links, .ref r_Q_pairs, .int Q_size])), (r_Q_links, .inl (cI, n_Q_links, .inl z12_2))]) hP hD [3, 4] [0, 1, 2] rfl rfl (by decide) (by decide) hk1 hFc hP1 hD1
          have hw : z12_1 = r12 := hw.symm
          subst hw
          generalize H1 = H at hP hS ⊢
          have hP : va_P (dC, dI) classes [(o_Heap, .inr (3, [.ref o_Stacks, .ref r_H_globals, .int H_globalsUsed, .ref r_H_cells, .int H_used, .ref r_H_spare, .int H_spareUsed, .int H_old, .int H_oldLeadsToNew, .int H_limit, .int H_every, .int H_fresh, .int H_made, .int H_madeLimit, .int H_reachedFromGlobals, .int H_reachedInAll, .ref r_H_keptGlobals, .int H_keptGlobalsUsed, .ref r_H_keptCells, .int H_kept])), (r_H_cells, .inl (cL, n_H_cells, .inr (.inl f_H_cells))), (r_Q_pairs, .inl (cL, n_Q_pairs, .inr (.inl f_Q_pairs))), (o_Equality, .inr (5, [.ref o_Heap, .ref r_Q_links, .ref r_Q_pairs, .int Q_size])), (r_Q_links, .inl (cI, n_Q_links, .inl z12_2))] H := hP
          have hD : va_D A [(o_Heap, .inr (3, [.ref o_Stacks, .ref r_H_globals, .int H_globalsUsed, .ref r_H_cells, .int H_used, .ref r_H_spare, .int H_spareUsed, .int H_old, .int H_oldLeadsToNew, .int H_limit, .int H_every, .int H_fresh, .int H_made, .int H_madeLimit, .int H_reachedFromGlobals, .int H_reachedInAll, .ref r_H_keptGlobals, .int H_keptGlobalsUsed, .ref r_H_keptCells, .int H_kept])), (r_H_cells, .inl (cL, n_H_cells, .inr (.inl f_H_cells))), (r_Q_pairs, .inl (cL, n_Q_pairs, .inr (.inl f_Q_pairs))), (o_Equality, .inr (5, [.ref o_Heap, .ref r_Q_links, .ref r_Q_pairs, .int Q_size])), (r_Q_links, .inl (cI, n_Q_links, .inl z12_2))] := hD
          refine lv_istore (lv' := [(9, .int z12_1), (8, .int z11_1), (7, .int z7_1), (6, .int z6_1), (5, .int z2_1), (0, .ref o_Equality), (1, .long p0), (3, .long p1)]) hx hb d_Equality_join_96 hl (by decide) rfl (fun ls hl => ?_)
          refine lv_iload hx hb d_Equality_join_98 (lv_at hl 1 rfl) ?_
          refine lv_iload hx hb d_Equality_join_100 (lv_at hl 0 rfl) ?_
          refine lv_icmp_eq (tgt := 124) hx hb d_Equality_join_102 (by decide) (fun c13 => ?_) (fun c13 => ?_)
          · rw [if_pos c13] at h
            refine lv_iconst (v := 1) hx hb d_Equality_join_124 (by decide) ?_
            obtain rfl := Option.some.inj h
            have hP9 := hP.sub (ws' := [(o_Heap, .inr (3, [.ref o_Stacks, .ref r_H_globals, .int H_globalsUsed, .ref r_H_cells, .int H_used, .ref r_H_spare, .int H_spareUsed, .int H_old, .int H_oldLeadsToNew, .int H_limit, .int H_every, .int H_fresh, .int H_made, .int H_madeLimit, .int H_reachedFromGlobals, .int H_reachedInAll, .ref r_H_keptGlobals, .int H_keptGlobalsUsed, .ref r_H_keptCells, .int H_kept])), (o_Equality, .inr (5, [.ref o_Heap, .ref r_Q_links, .ref r_Q_pairs, .int Q_size])), (r_H_cells, .inl (cL, n_H_cells, .inr (.inl f_H_cells))), (r_Q_links, .inl (cI, n_Q_links, .inl z12_2)), (r_Q_pairs, .inl (cL, n_Q_pairs, .inr (.inl f_Q_pairs)))]) [0, 3, 1, 4, 2] rfl
            have hD9 := hD.sub (ws' := [(o_Heap, .inr (3, [.ref o_Stacks, .ref r_H_globals, .int H_globalsUsed, .ref r_H_cells, .int H_used, .ref r_H_spare, .int H_spareUsed, .int H_old, .int H_oldLeadsToNew, .int H_limit, .int H_every, .int H_fresh, .int H_made, .int H_madeLimit, .int H_reachedFromGlobals, .int H_reachedInAll, .ref r_H_keptGlobals, .int H_keptGlobalsUsed, .ref r_H_keptCells, .int H_kept])), (o_Equality, .inr (5, [.ref o_Heap, .ref r_Q_links, .ref r_Q_pairs, .int Q_size])), (r_H_cells, .inl (cL, n_H_cells, .inr (.inl f_H_cells))), (r_Q_links, .inl (cI, n_Q_links, .inl z12_2)), (r_Q_pairs, .inl (cL, n_Q_pairs, .inr (.inl f_Q_pairs)))]) [0, 3, 1, 4, 2] (by decide) rfl
            have hK9 := hK.sub (tys' := [(cI, .int), (cL, .long)]) [0, 1] rfl
            refine W.widen (dz_Gc hG) (dz_Gs hG) ?_
            obtain ⟨rfl, -, -⟩ := hG
            exact W.zret (v := 1) (ty := .boolean) hx hb hr (show narrow .boolean (.int 1) = .int 1 from rfl) (fun t ht hW => ⟨⟨1, r_Q_pairs, rfl, ⟨rfl, (show narrow .boolean (.int 1) = .int 1 from rfl), (show fits .boolean (.int 1) = true from rfl)⟩, by rw [ht]; exact hP9, va_K.moved hW.alike hK9, hD9⟩, hS.F ht⟩) hS.2.2 d_Equality_join_125
          · rw [if_neg c13] at h
            refine lv_aload_n hx hb d_Equality_join_105 rfl (lv_at hl 5 rfl) ?_
            refine va_get (D := (dC, dI)) (ci := 5) (v := .ref r_Q_links) (C := R_Equality) (T := F_Equality) (N := 4) hx hb hg i_Equality hown hK hP 3 rfl rfl 1 (by decide) (hg _ k262) (fun _ h9 => h9) rfl d_Equality_join_106 ?_
            refine lv_iload hx hb d_Equality_join_109 (lv_at hl 1 rfl) ?_
            refine lv_iload hx hb d_Equality_join_111 (lv_at hl 0 rfl) ?_
            refine lv_iconst (v := 1) hx hb d_Equality_join_113 (by decide) ?_
            refine lv_iadd hx hb d_Equality_join_114 ?_
            obtain ⟨i14, h⟩ := dz_oi h
            refine va_iast (D := (dC, dI)) hx hb hK hP hD hS 4 0 rfl rfl i14 d_Equality_join_115 (fun H locs hP hD hS => ?_)
            have hP : va_P (dC, dI) classes [(o_Heap, .inr (3, [.ref o_Stacks, .ref r_H_globals, .int H_globalsUsed, .ref r_H_cells, .int H_used, .ref r_H_spare, .int H_spareUsed, .int H_old, .int H_oldLeadsToNew, .int H_limit, .int H_every, .int H_fresh, .int H_made, .int H_madeLimit, .int H_reachedFromGlobals, .int H_reachedInAll, .ref r_H_keptGlobals, .int H_keptGlobalsUsed, .ref r_H_keptCells, .int H_kept])), (r_H_cells, .inl (cL, n_H_cells, .inr (.inl f_H_cells))), (r_Q_pairs, .inl (cL, n_Q_pairs, .inr (.inl f_Q_pairs))), (o_Equality, .inr (5, [.ref o_Heap, .ref r_Q_links, .ref r_Q_pairs, .int Q_size])), (r_Q_links, .inl (cI, n_Q_links, .inl (upd z12_2 z11_1.toNatClampNeg (z12_1 + 1))))] H := hP
            have hD : va_D A [(o_Heap, .inr (3, [.ref o_Stacks, .ref r_H_globals, .int H_globalsUsed, .ref r_H_cells, .int H_used, .ref r_H_spare, .int H_spareUsed, .int H_old, .int H_oldLeadsToNew, .int H_limit, .int H_every, .int H_fresh, .int H_made, .int H_madeLimit, .int H_reachedFromGlobals, .int H_reachedInAll, .ref r_H_keptGlobals, .int H_keptGlobalsUsed, .ref r_H_keptCells, .int H_kept])), (r_H_cells, .inl (cL, n_H_cells, .inr (.inl f_H_cells))), (r_Q_pairs, .inl (cL, n_Q_pairs, .inr (.inl f_Q_pairs))), (o_Equality, .inr (5, [.ref o_Heap, .ref r_Q_links, .ref r_Q_pairs, .int Q_size])), (r_Q_links, .inl (cI, n_Q_links, .inl (upd z12_2 z11_1.toNatClampNeg (z12_1 + 1))))] := hD
            refine lv_aload_n hx hb d_Equality_join_116 rfl (lv_at hl 5 rfl) ?_
            refine lv_iload hx hb d_Equality_join_117 (lv_at hl 3 rfl) ?_
            refine lv_iload hx hb d_Equality_join_119 (lv_at hl 2 rfl) ?_
            obtain ⟨⟨⟨z15_1, z15_2, z15_3⟩, zc15, zs15⟩, hc15, h⟩ := dz_ob h
            try dsimp only at h
            obtain ⟨z, h, hG⟩ := dz_tkG h hG
            have hPc := hP.sub (ws' := [(o_Equality, .inr (5, [.ref o_Heap, .ref r_Q_links, .ref r_Q_pairs, .int Q_size])), (r_Q_pairs, .inl (cL, n_Q_pairs, .inr (.inl f_Q_pairs)))]) [3, 2] rfl
            have hKc := hK.sub (tys' := [(cL, .long)]) [1] rfl
            have hDc := hD.sub (ws' := [(o_Equality, .inr (5, [.ref o_Heap, .ref r_Q_links, .ref r_Q_pairs, .int Q_size])), (r_Q_pairs, .inl (cL, n_Q_pairs, .inr (.inl f_Q_pairs)))]) [3, 2] (by decide) rfl
            have hFc := va_free (wc := [(o_Equality, .inr (5, [.ref o_Heap, .ref r_Q_links, .ref r_Q_pairs, .int Q_size])), (r_Q_pairs, .inl (cL, n_Q_pairs, .inr (.inl f_Q_pairs)))]) hD hS hA [3, 2] rfl
            refine va_callv (va_runV (As := [.int z6_1, .int z7_1]) (rest := []) ⟨hx, hb, hml, hown, hg⟩ (c_Equality_addPair l dC dI N cL o_Equality o_Heap r_Q_links r_Q_pairs Q_size n_Q_pairs f_Q_pairs z6_1 z7_1 H.size (z15_1, z15_2, z15_3) zc15 zs15 hc15) (cwV 2 hg (gd_V k276 k277 k278 k274 k275) rfl rfl rfl (by decide +kernel) ⟨Nat.le_of_ble_eq_true rfl, Nat.le_of_ble_eq_true rfl⟩) ⟨dz_blind, va_recv hKc hPc (ci := 5) (q0 := 0) rfl rfl, fun U hU hW => ⟨rfl, dz_Nw hW hN, by rw [hU], by rw [hU]; exact hPc, va_K.moved hW.alike hKc, hDc.weaken (fun _ _ _ _ => trivial)⟩⟩ rfl rfl hl.1 rfl (lv_room (Nat.le_of_ble_eq_true rfl)) d_Equality_join_121 ⟨dz_Gc hG, dz_Gs hG⟩) hS (fun q _ h => hFc q h) hFc (fun u15 t15 H1 locs ht hvm hw hB hz1 hk1 hS => ?_)
            obtain ⟨a15_0, rfl⟩ : ∃ z, z = u15 := ⟨_, rfl⟩
            obtain ⟨hP1, hK1, hD1⟩ := hB
            rw [ht] at hP1
            obtain ⟨hP, hD⟩ := va_join (wr := [(o_Heap, .inr (3, [.ref o_Stacks, .ref r_H_globals, .int H_globalsUsed, .ref r_H_cells, .int H_used, .ref r_H_spare, .int H_spareUsed, .int H_old, .int H_oldLeadsToNew, .int H_limit, .int H_every, .int H_fresh, .int H_made, .int H_madeLimit, .int H_reachedFromGlobals, .int H_reachedInAll, .ref r_H_keptGlobals, .int H_keptGlobalsUsed, .ref r_H_keptCells, .int H_kept])), (r_H_cells, .inl (cL, n_H_cells, .inr (.inl f_H_cells))), (r_Q_links, .inl (cI, n_Q_links, .inl (upd z12_2 z11_1.toNatClampNeg (z12_1 + 1))))]) (w1 := [(o_Equality, .inr (5, [.ref o_Heap, .ref r_Q_links, .ref a15_0, .int z15_1])), (a15_0, .inl (cL, z15_2, .inr (.inl z15_3)))]) hP hD [3, 2] [0, 1, 4] rfl rfl (by decide) (by decide) hk1 hFc hP1 hD1
            generalize H1 = H at hP hS ⊢
            have hP : va_P (dC, dI) classes [(o_Heap, .inr (3, [.ref o_Stacks, .ref r_H_globals, .int H_globalsUsed, .ref r_H_cells, .int H_used, .ref r_H_spare, .int H_spareUsed, .int H_old, .int H_oldLeadsToNew, .int H_limit, .int H_every, .int H_fresh, .int H_made, .int H_madeLimit, .int H_reachedFromGlobals, .int H_reachedInAll, .ref r_H_keptGlobals, .int H_keptGlobalsUsed, .ref r_H_keptCells, .int H_kept])), (r_H_cells, .inl (cL, n_H_cells, .inr (.inl f_H_cells))), (r_Q_links, .inl (cI, n_Q_links, .inl (upd z12_2 z11_1.toNatClampNeg (z12_1 + 1)))), (o_Equality, .inr (5, [.ref o_Heap, .ref r_Q_links, .ref a15_0, .int z15_1])), (a15_0, .inl (cL, z15_2, .inr (.inl z15_3)))] H := hP
            have hD : va_D A [(o_Heap, .inr (3, [.ref o_Stacks, .ref r_H_globals, .int H_globalsUsed, .ref r_H_cells, .int H_used, .ref r_H_spare, .int H_spareUsed, .int H_old, .int H_oldLeadsToNew, .int H_limit, .int H_every, .int H_fresh, .int H_made, .int H_madeLimit, .int H_reachedFromGlobals, .int H_reachedInAll, .ref r_H_keptGlobals, .int H_keptGlobalsUsed, .ref r_H_keptCells, .int H_kept])), (r_H_cells, .inl (cL, n_H_cells, .inr (.inl f_H_cells))), (r_Q_links, .inl (cI, n_Q_links, .inl (upd z12_2 z11_1.toNatClampNeg (z12_1 + 1)))), (o_Equality, .inr (5, [.ref o_Heap, .ref r_Q_links, .ref a15_0, .int z15_1])), (a15_0, .inl (cL, z15_2, .inr (.inl z15_3)))] := hD
            refine lv_iconst (v := 1) hx hb d_Equality_join_124 (by decide) ?_
            obtain rfl := Option.some.inj h
            have hP9 := hP.sub (ws' := [(o_Heap, .inr (3, [.ref o_Stacks, .ref r_H_globals, .int H_globalsUsed, .ref r_H_cells, .int H_used, .ref r_H_spare, .int H_spareUsed, .int H_old, .int H_oldLeadsToNew, .int H_limit, .int H_every, .int H_fresh, .int H_made, .int H_madeLimit, .int H_reachedFromGlobals, .int H_reachedInAll, .ref r_H_keptGlobals, .int H_keptGlobalsUsed, .ref r_H_keptCells, .int H_kept])), (o_Equality, .inr (5, [.ref o_Heap, .ref r_Q_links, .ref a15_0, .int z15_1])), (r_H_cells, .inl (cL, n_H_cells, .inr (.inl f_H_cells))), (r_Q_links, .inl (cI, n_Q_links, .inl (upd z12_2 z11_1.toNatClampNeg (z12_1 + 1)))), (a15_0, .inl (cL, z15_2, .inr (.inl z15_3)))]) [0, 3, 1, 2, 4] rfl
            have hD9 := hD.sub (ws' := [(o_Heap, .inr (3, [.ref o_Stacks, .ref r_H_globals, .int H_globalsUsed, .ref r_H_cells, .int H_used, .ref r_H_spare, .int H_spareUsed, .int H_old, .int H_oldLeadsToNew, .int H_limit, .int H_every, .int H_fresh, .int H_made, .int H_madeLimit, .int H_reachedFromGlobals, .int H_reachedInAll, .ref r_H_keptGlobals, .int H_keptGlobalsUsed, .ref r_H_keptCells, .int H_kept])), (o_Equality, .inr (5, [.ref o_Heap, .ref r_Q_links, .ref a15_0, .int z15_1])), (r_H_cells, .inl (cL, n_H_cells, .inr (.inl f_H_cells))), (r_Q_links, .inl (cI, n_Q_links, .inl (upd z12_2 z11_1.toNatClampNeg (z12_1 + 1)))), (a15_0, .inl (cL, z15_2, .inr (.inl z15_3)))]) [0, 3, 1, 2, 4] (by decide) rfl
            have hK9 := hK.sub (tys' := [(cI, .int), (cL, .long)]) [0, 1] rfl
            refine W.widen (dz_Gc hG) (dz_Gs hG) ?_
            obtain ⟨rfl, -, -⟩ := hG
            exact W.zret (v := 1) (ty := .boolean) hx hb hr (show narrow .boolean (.int 1) = .int 1 from rfl) (fun t ht hW => ⟨⟨1, a15_0, rfl, ⟨rfl, (show narrow .boolean (.int 1) = .int 1 from rfl), (show fits .boolean (.int 1) = true from rfl)⟩, by rw [ht]; exact hP9, va_K.moved hW.alike hK9, hD9⟩, hS.F ht⟩) hS.2.2 d_Equality_join_125
        · rw [if_neg c10] at h
          refine lv_iconst (v := 0) hx hb d_Equality_join_80 (by decide) ?_
          obtain rfl := Option.some.inj h
          have hP9 := hP.sub (ws' := [(o_Heap, .inr (3, [.ref o_Stacks, .ref r_H_globals, .int H_globalsUsed, .ref r_H_cells, .int H_used, .ref r_H_spare, .int H_spareUsed, .int H_old, .int H_oldLeadsToNew, .int H_limit, .int H_every, .int H_fresh, .int H_made, .int H_madeLimit, .int H_reachedFromGlobals, .int H_reachedInAll, .ref r_H_keptGlobals, .int H_keptGlobalsUsed, .ref r_H_keptCells, .int H_kept])), (o_Equality, .inr (5, [.ref o_Heap, .ref r_Q_links, .ref r_Q_pairs, .int Q_size])), (r_H_cells, .inl (cL, n_H_cells, .inr (.inl f_H_cells))), (r_Q_links, .inl (cI, n_Q_links, .inl f_Q_links)), (r_Q_pairs, .inl (cL, n_Q_pairs, .inr (.inl f_Q_pairs)))]) [0, 1, 2, 3, 4] rfl
          have hD9 := hD.sub (ws' := [(o_Heap, .inr (3, [.ref o_Stacks, .ref r_H_globals, .int H_globalsUsed, .ref r_H_cells, .int H_used, .ref r_H_spare, .int H_spareUsed, .int H_old, .int H_oldLeadsToNew, .int H_limit, .int H_every, .int H_fresh, .int H_made, .int H_madeLimit, .int H_reachedFromGlobals, .int H_reachedInAll, .ref r_H_keptGlobals, .int H_keptGlobalsUsed, .ref r_H_keptCells, .int H_kept])), (o_Equality, .inr (5, [.ref o_Heap, .ref r_Q_links, .ref r_Q_pairs, .int Q_size])), (r_H_cells, .inl (cL, n_H_cells, .inr (.inl f_H_cells))), (r_Q_links, .inl (cI, n_Q_links, .inl f_Q_links)), (r_Q_pairs, .inl (cL, n_Q_pairs, .inr (.inl f_Q_pairs)))]) [0, 1, 2, 3, 4] (by decide) rfl
          have hK9 := hK.sub (tys' := [(cI, .int), (cL, .long)]) [0, 1] rfl
          refine W.widen (dz_Gc hG) (dz_Gs hG) ?_
          obtain ⟨rfl, -, -⟩ := hG
          exact W.zret (v := 0) (ty := .boolean) hx hb hr (show narrow .boolean (.int 0) = .int 0 from rfl) (fun t ht hW => ⟨⟨0, r_Q_pairs, rfl, ⟨rfl, (show narrow .boolean (.int 0) = .int 0 from rfl), (show fits .boolean (.int 0) = true from rfl)⟩, by rw [ht]; exact hP9, va_K.moved hW.alike hK9, hD9⟩, hS.F ht⟩) hS.2.2 d_Equality_join_81
      · rw [if_neg c5] at h
        refine lv_iload hx hb d_Equality_join_29 (lv_at hl 0 rfl) ?_
        refine lv_iconst (v := 3) hx hb d_Equality_join_31 (by decide) ?_
        refine lv_icmp_eq (tgt := 44) hx hb d_Equality_join_32 (by decide) (fun c16 => ?_) (fun c16 => ?_)
        · rw [if_pos c16] at h
          refine lv_lload_n hx hb d_Equality_join_44 rfl (lv_at hl 2 rfl) ?_
          obtain ⟨z17_1, hc17, h⟩ := dz_ob h
          try dsimp only at h
          have hPc := hP.sub (ws' := []) [] rfl
          have hKc := hK.sub (tys' := []) [] rfl
          refine vp_callSi (va_Run.run (va_runS (As := [.long p0]) (rest := []) ⟨hx, hb, hml, hown, hg⟩ (c_Value_number l dC dI N p0 z17_1 hc17) (va_cwS 1 hg (gd_S k269 k139 k122 k137) rfl rfl rfl (by decide +kernel) ⟨Nat.le_of_ble_eq_true rfl, Nat.le_of_ble_eq_true rfl⟩) ⟨dz_blindR, fun U hU hW => ⟨rfl, dz_Nw hW hN, by rw [hU]; exact hPc, va_K.moved hW.alike hKc⟩⟩ rfl rfl hl.1 rfl (lv_room (Nat.le_of_ble_eq_true rfl)) d_Equality_join_45 ⟨dz_Gc hG, dz_Gs hG⟩)) (fun r17 hw => ?_)
          have hw : z17_1 = r17 := hw.symm
          subst hw
          refine lv_istore (lv' := [(6, .int z17_1), (5, .int z2_1), (0, .ref o_Equality), (1, .long p0), (3, .long p1)]) hx hb d_Equality_join_48 hl (by decide) rfl (fun ls hl => ?_)
          refine lv_lload_n hx hb d_Equality_join_50 rfl (lv_at hl 4 rfl) ?_
          obtain ⟨z18_1, hc18, h⟩ := dz_ob h
          try dsimp only at h
          have hPc := hP.sub (ws' := []) [] rfl
          have hKc := hK.sub (tys' := []) [] rfl
          refine vp_callSi (va_Run.run (va_runS (As := [.long p1]) (rest := []) ⟨hx, hb, hml, hown, hg⟩ (c_Value_number l dC dI N p1 z18_1 hc18) (va_cwS 1 hg (gd_S k269 k139 k122 k137) rfl rfl rfl (by decide +kernel) ⟨Nat.le_of_ble_eq_true rfl, Nat.le_of_ble_eq_true rfl⟩) ⟨dz_blindR, fun U hU hW => ⟨rfl, dz_Nw hW hN, by rw [hU]; exact hPc, va_K.moved hW.alike hKc⟩⟩ rfl rfl hl.1 rfl (lv_room (Nat.le_of_ble_eq_true rfl)) d_Equality_join_51 ⟨dz_Gc hG, dz_Gs hG⟩)) (fun r18 hw => ?_)
          have hw : z18_1 = r18 := hw.symm
          subst hw
          refine lv_istore (lv' := [(7, .int z18_1), (6, .int z17_1), (5, .int z2_1), (0, .ref o_Equality), (1, .long p0), (3, .long p1)]) hx hb d_Equality_join_54 hl (by decide) rfl (fun ls hl => ?_)
          refine lv_aload_n hx hb d_Equality_join_56 rfl (lv_at hl 3 rfl) ?_
          refine va_get (D := (dC, dI)) (ci := 5) (v := .ref o_Heap) (C := R_Equality) (T := F_Equality) (N := 4) hx hb hg i_Equality hown hK hP 1 rfl rfl 0 (by decide) (hg _ k266) (fun _ h9 => h9) rfl d_Equality_join_57 ?_
          refine va_get (D := (dC, dI)) (ci := 3) (v := .ref r_H_cells) (C := R_Heap) (T := F_Heap) (N := 20) hx hb hg i_Heap hown hK hP 0 rfl rfl 3 (by decide) (hg _ k267) (fun _ h9 => h9) rfl d_Equality_join_60 ?_
          refine lv_iload hx hb d_Equality_join_63 (lv_at hl 1 rfl) ?_
          obtain ⟨i19, h⟩ := dz_oi h
          refine va_lald (D := (dC, dI)) hx hb hK hP 2 1 rfl rfl i19 d_Equality_join_65 ?_
          refine lv_aload_n hx hb d_Equality_join_66 rfl (lv_at hl 3 rfl) ?_
          refine va_get (D := (dC, dI)) (ci := 5) (v := .ref o_Heap) (C := R_Equality) (T := F_Equality) (N := 4) hx hb hg i_Equality hown hK hP 1 rfl rfl 0 (by decide) (hg _ k266) (fun _ h9 => h9) rfl d_Equality_join_67 ?_
          refine va_get (D := (dC, dI)) (ci := 3) (v := .ref r_H_cells) (C := R_Heap) (T := F_Heap) (N := 20) hx hb hg i_Heap hown hK hP 0 rfl rfl 3 (by decide) (hg _ k267) (fun _ h9 => h9) rfl d_Equality_join_70 ?_
          refine lv_iload hx hb d_Equality_join_73 (lv_at hl 0 rfl) ?_
          obtain ⟨i20, h⟩ := dz_oi h
          refine va_lald (D := (dC, dI)) hx hb hK hP 2 1 rfl rfl i20 d_Equality_join_75 ?_
          refine W.lcmp hx hb d_Equality_join_76 ?_
          refine lv_if_eq (tgt := 82) hx hb d_Equality_join_77 (by decide) (fun c21 => ?_) (fun c21 => ?_)
          · rw [if_pos c21] at h
            refine lv_aload_n hx hb d_Equality_join_82 rfl (lv_at hl 3 rfl) ?_
            refine lv_iload hx hb d_Equality_join_83 (lv_at hl 1 rfl) ?_
            obtain ⟨⟨z22_1, z22_2⟩, hc22, h⟩ := dz_ob h
            try dsimp only at h
            have hPc := hP.sub (ws' := [(o_Equality, .inr (5, [.ref o_Heap, .ref r_Q_links, .ref r_Q_pairs, .int Q_size])), (r_Q_links, .inl (cI, n_Q_links, .inl f_Q_links))]) [1, 3] rfl
            have hKc := hK.sub (tys' := [(cI, .int)]) [0] rfl
            have hDc := hD.sub (ws' := [(o_Equality, .inr (5, [.ref o_Heap, .ref r_Q_links, .ref r_Q_pairs, .int Q_size])), (r_Q_links, .inl (cI, n_Q_links, .inl f_Q_links))]) [1, 3] (by decide) rfl
            have hFc := va_free (wc := [(o_Equality, .inr (5, [.ref o_Heap, .ref r_Q_links, .ref r_Q_pairs, .int Q_size])), (r_Q_links, .inl (cI, n_Q_links, .inl f_Q_links))]) hD hS hA [1, 3] rfl
            refine va_calli (va_runV (As := [.int z17_1]) (rest := []) ⟨hx, hb, hml, hown, hg⟩ (c_Equality_leader l dC dI N cI o_Equality o_Heap r_Q_links r_Q_pairs Q_size n_Q_links f_Q_links z17_1 s.heap.size (z22_1, z22_2) hc22) (cwV 1 hg (gd_V k271 k272 k273 k274 k270) rfl rfl rfl (by decide +kernel) ⟨Nat.le_of_ble_eq_true rfl, Nat.le_of_ble_eq_true rfl⟩) ⟨dz_blind, va_recv hKc hPc (ci := 5) (q0 := 0) rfl rfl, fun U hU hW => ⟨rfl, dz_Nw hW hN, by rw [hU], by rw [hU]; exact hPc, va_K.moved hW.alike hKc, hDc.weaken (fun _ _ _ _ => trivial)⟩⟩ rfl rfl hl.1 rfl (lv_room (Nat.le_of_ble_eq_true rfl)) d_Equality_join_85 ⟨dz_Gc hG, dz_Gs hG⟩) hS (fun q _ h => hFc q h) hFc (fun r22 u22 t22 H1 locs ht hvm hw hB hz1 hk1 hS => ?_)
            obtain ⟨hP1, hK1, hD1⟩ := hB
            rw [ht] at hP1
            obtain ⟨hP, hD⟩ := va_join (wr := [(o_Heap, .inr (3, [.ref o_Stacks, .ref r_H_globals, .int H_globalsUsed, .ref r_H_cells, .int H_used, .ref r_H_spare, .int H_spareUsed, .int H_old, .int H_oldLeadsToNew, .int H_limit, .int H_every, .int H_fresh, .int H_made, .int H_madeLimit, .int H_reachedFromGlobals, .int H_reachedInAll, .ref r_H_keptGlobals, .int H_keptGlobalsUsed, .ref r_H_keptCells, .int H_kept])), (r_H_cells, .inl (cL, n_H_cells, .inr (.inl f_H_cells))), (r_Q_pairs, .inl (cL, n_Q_pairs, .inr (.inl f_Q_pairs)))]) (w1 := [(o_Equality, .inr (5, [.ref o_Heap, .ref r_Q_links, .ref r_Q_pairs, .int Q_size])), (r_Q_links, .inl (cI, n_Q_links, .inl z22_2))]) hP hD [1, 3] [0, 2, 4] rfl rfl (by decide) (by decide) hk1 hFc hP1 hD1
            have hw : z22_1 = r22 := hw.symm
            subst hw
            generalize H1 = H at hP hS ⊢
            have hP : va_P (dC, dI) classes [(o_Heap, .inr (3, [.ref o_Stacks, .ref r_H_globals, .int H_globalsUsed, .ref r_H_cells, .int H_used, .ref r_H_spare, .int H_spareUsed, .int H_old, .int H_oldLeadsToNew, .int H_limit, .int H_every, .int H_fresh, .int H_made, .int H_madeLimit, .int H_reachedFromGlobals, .int H_reachedInAll, .ref r_H_keptGlobals, .int H_keptGlobalsUsed, .ref r_H_keptCells, .int H_kept])), (r_H_cells, .inl (cL, n_H_cells, .inr (.inl f_H_cells))), (r_Q_pairs, .inl (cL, n_Q_pairs, .inr (.inl f_Q_pairs))), (o_Equality, .inr (5, [.ref o_Heap, .ref r_Q_links, .ref r_Q_pairs, .int Q_size])), (r_Q_links, .inl (cI, n_Q_links, .inl z22_2))] H := hP
            have hD : va_D A [(o_Heap, .inr (3, [.ref o_Stacks, .ref r_H_globals, .int H_globalsUsed, .ref r_H_cells, .int H_used, .ref r_H_spare, .int H_spareUsed, .int H_old, .int H_oldLeadsToNew, .int H_limit, .int H_every, .int H_fresh, .int H_made, .int H_madeLimit, .int H_reachedFromGlobals, .int H_reachedInAll, .ref r_H_keptGlobals, .int H_keptGlobalsUsed, .ref r_H_keptCells, .int H_kept])), (r_H_cells, .inl (cL, n_H_cells, .inr (.inl f_H_cells))), (r_Q_pairs, .inl (cL, n_Q_pairs, .inr (.inl f_Q_pairs))), (o_Equality, .inr (5, [.ref o_Heap, .ref r_Q_links, .ref r_Q_pairs, .int Q_size])), (r_Q_links, .inl (cI, n_Q_links, .inl z22_2))] := hD
            refine lv_istore (lv' := [(8, .int z22_1), (7, .int z18_1), (6, .int z17_1), (5, .int z2_1), (0, .ref o_Equality), (1, .long p0), (3, .long p1)]) hx hb d_Equality_join_88 hl (by decide) rfl (fun ls hl => ?_)
            refine lv_aload_n hx hb d_Equality_join_90 rfl (lv_at hl 4 rfl) ?_
            refine lv_iload hx hb d_Equality_join_91 (lv_at hl 1 rfl) ?_
            obtain ⟨⟨z23_1, z23_2⟩, hc23, h⟩ := dz_ob h
            try dsimp only at h
            have hPc := hP.sub (ws' := [(o_Equality, .inr (5, [.ref o_Heap, .ref r_Q_links, .ref r_Q_pairs, .int Q_size])), (r_Q_links, .inl (cI, n_Q_links, .inl z22_2))]) [3, 4] rfl
            have hKc := hK.sub (tys' := [(cI, .int)]) [0] rfl
            have hDc := hD.sub (ws' := [(o_Equality, .inr (5, [.ref o_Heap, .ref r_Q_links, .ref r_Q_pairs, .int Q_size])), (r_Q_links, .inl (cI, n_Q_links, .inl z22_2))]) [3, 4] (by decide) rfl
            have hFc := va_free (wc := [(o_Equality, .inr (5, [.ref o_Heap, .ref r_Q_links, .ref r_Q_pairs, .int Q_size])), (r_Q_links, .inl (cI, n_Q_links, .inl z22_2))]) hD hS hA [3, 4] rfl
            refine va_calli (va_runV (As := [.int z18_1]) (rest := []) ⟨hx, hb, hml, hown, hg⟩ (c_Equality_leader l dC dI N cI o_Equality o_Heap r_Q_links r_Q_pairs Q_size n_Q_links z22_2 z18_1 H.size (z23_1, z23_2) hc23) (cwV 1 hg (gd_V k271 k272 k273 k274 k270) rfl rfl rfl (by decide +kernel) ⟨Nat.le_of_ble_eq_true rfl, Nat.le_of_ble_eq_true rfl⟩) ⟨dz_blind, va_recv hKc hPc (ci := 5) (q0 := 0) rfl rfl, fun U hU hW => ⟨rfl, dz_Nw hW hN, by rw [hU], by rw [hU]; exact hPc, va_K.moved hW.alike hKc, hDc.weaken (fun _ _ _ _ => trivial)⟩⟩ rfl rfl hl.1 rfl (lv_room (Nat.le_of_ble_eq_true rfl)) d_Equality_join_93 ⟨dz_Gc hG, dz_Gs hG⟩) hS (fun q _ h => hFc q h) hFc (fun r23 u23 t23 H1 locs ht hvm hw hB hz1 hk1 hS => ?_)
            obtain ⟨hP1, hK1, hD1⟩ := hB
            rw [ht] at hP1
            obtain ⟨hP, hD⟩ := va_join (wr := [(o_Heap, .inr (3, [.ref o_Stacks, .ref r_H_globals, .int H_globalsUsed, .ref r_H_cells, .int H_used, .ref r_H_spare, .int H_spareUsed, .int H_old, .int H_oldLeadsToNew, .int H_limit, .int H_every, .int H_fresh, .int H_made, .int H_madeLimit, .int H_reachedFromGlobals, .int H_reachedInAll, .ref r_H_keptGlobals, .int H_keptGlobalsUsed, .ref r_H_keptCells, .int H_kept])), (r_H_cells, .inl (cL, n_H_cells, .inr (.inl f_H_cells))), (r_Q_pairs, .inl (cL, n_Q_pairs, .inr (.inl f_Q_pairs)))]) (w1 := [(o_Equality, .inr (5, [.ref o_Heap, .ref r_Q_links, .ref r_Q_pairs, .int Q_size])), (r_Q_links, .inl (cI, n_Q_links, .inl z23_2))]) hP hD [3, 4] [0, 1, 2] rfl rfl (by decide) (by decide) hk1 hFc hP1 hD1
            have hw : z23_1 = r23 := hw.symm
            subst hw
            generalize H1 = H at hP hS ⊢
            have hP : va_P (dC, dI) classes [(o_Heap, .inr (3, [.ref o_Stacks, .ref r_H_globals, .int H_globalsUsed, .ref r_H_cells, .int H_used, .ref r_H_spare, .int H_spareUsed, .int H_old, .int H_oldLeadsToNew, .int H_limit, .int H_every, .int H_fresh, .int H_made, .int H_madeLimit, .int H_reachedFromGlobals, .int H_reachedInAll, .ref r_H_keptGlobals, .int H_keptGlobalsUsed, .ref r_H_keptCells, .int H_kept])), (r_H_cells, .inl (cL, n_H_cells, .inr (.inl f_H_cells))), (r_Q_pairs, .inl (cL, n_Q_pairs, .inr (.inl f_Q_pairs))), (o_Equality, .inr (5, [.ref o_Heap, .ref r_Q_links, .ref r_Q_pairs, .int Q_size])), (r_Q_links, .inl (cI, n_Q_links, .inl z23_2))] H := hP
            have hD : va_D A [(o_Heap, .inr (3, [.ref o_Stacks, .ref r_H_globals, .int H_globalsUsed, .ref r_H_cells, .int H_used, .ref r_H_spare, .int H_spareUsed, .int H_old, .int H_oldLeadsToNew, .int H_limit, .int H_every, .int H_fresh, .int H_made, .int H_madeLimit, .int H_reachedFromGlobals, .int H_reachedInAll, .ref r_H_keptGlobals, .int H_keptGlobalsUsed, .ref r_H_keptCells, .int H_kept])), (r_H_cells, .inl (cL, n_H_cells, .inr (.inl f_H_cells))), (r_Q_pairs, .inl (cL, n_Q_pairs, .inr (.inl f_Q_pairs))), (o_Equality, .inr (5, [.ref o_Heap, .ref r_Q_links, .ref r_Q_pairs, .int Q_size])), (r_Q_links, .inl (cI, n_Q_links, .inl z23_2))] := hD
            refine lv_istore (lv' := [(9, .int z23_1), (8, .int z22_1), (7, .int z18_1), (6, .int z17_1), (5, .int z2_1), (0, .ref o_Equality), (1, .long p0), (3, .long p1)]) hx hb d_Equality_join_96 hl (by decide) rfl (fun ls hl => ?_)
            refine lv_iload hx hb d_Equality_join_98 (lv_at hl 1 rfl) ?_
            refine lv_iload hx hb d_Equality_join_100 (lv_at hl 0 rfl) ?_
            refine lv_icmp_eq (tgt := 124) hx hb d_Equality_join_102 (by decide) (fun c24 => ?_) (fun c24 => ?_)
            · rw [if_pos c24] at h
              refine lv_iconst (v := 1) hx hb d_Equality_join_124 (by decide) ?_
              obtain rfl := Option.some.inj h
              have hP9 := hP.sub (ws' := [(o_Heap, .inr (3, [.ref o_Stacks, .ref r_H_globals, .int H_globalsUsed, .ref r_H_cells, .int H_used, .ref r_H_spare, .int H_spareUsed, .int H_old, .int H_oldLeadsToNew, .int H_limit, .int H_every, .int H_fresh, .int H_made, .int H_madeLimit, .int H_reachedFromGlobals, .int H_reachedInAll, .ref r_H_keptGlobals, .int H_keptGlobalsUsed, .ref r_H_keptCells, .int H_kept])), (o_Equality, .inr (5, [.ref o_Heap, .ref r_Q_links, .ref r_Q_pairs, .int Q_size])), (r_H_cells, .inl (cL, n_H_cells, .inr (.inl f_H_cells))), (r_Q_links, .inl (cI, n_Q_links, .inl z23_2)), (r_Q_pairs, .inl (cL, n_Q_pairs, .inr (.inl f_Q_pairs)))]) [0, 3, 1, 4, 2] rfl
              have hD9 := hD.sub (ws' := [(o_Heap, .inr (3, [.ref o_Stacks, .ref r_H_globals, .int H_globalsUsed, .ref r_H_cells, .int H_used, .ref r_H_spare, .int H_spareUsed, .int H_old, .int H_oldLeadsToNew, .int H_limit, .int H_every, .int H_fresh, .int H_made, .int H_madeLimit, .int H_reachedFromGlobals, .int H_reachedInAll, .ref r_H_keptGlobals, .int H_keptGlobalsUsed, .ref r_H_keptCells, .int H_kept])), (o_Equality, .inr (5, [.ref o_Heap, .ref r_Q_links, .ref r_Q_pairs, .int Q_size])), (r_H_cells, .inl (cL, n_H_cells, .inr (.inl f_H_cells))), (r_Q_links, .inl (cI, n_Q_links, .inl z23_2)), (r_Q_pairs, .inl (cL, n_Q_pairs, .inr (.inl f_Q_pairs)))]) [0, 3, 1, 4, 2] (by decide) rfl
              have hK9 := hK.sub (tys' := [(cI, .int), (cL, .long)]) [0, 1] rfl
              refine W.widen (dz_Gc hG) (dz_Gs hG) ?_
              obtain ⟨rfl, -, -⟩ := hG
              exact W.zret (v := 1) (ty := .boolean) hx hb hr (show narrow .boolean (.int 1) = .int 1 from rfl) (fun t ht hW => ⟨⟨1, r_Q_pairs, rfl, ⟨rfl, (show narrow .boolean (.int 1) = .int 1 from rfl), (show fits .boolean (.int 1) = true from rfl)⟩, by rw [ht]; exact hP9, va_K.moved hW.alike hK9, hD9⟩, hS.F ht⟩) hS.2.2 d_Equality_join_125
            · rw [if_neg c24] at h
              refine lv_aload_n hx hb d_Equality_join_105 rfl (lv_at hl 5 rfl) ?_
              refine va_get (D := (dC, dI)) (ci := 5) (v := .ref r_Q_links) (C := R_Equality) (T := F_Equality) (N := 4) hx hb hg i_Equality hown hK hP 3 rfl rfl 1 (by decide) (hg _ k262) (fun _ h9 => h9) rfl d_Equality_join_106 ?_
              refine lv_iload hx hb d_Equality_join_109 (lv_at hl 1 rfl) ?_
              refine lv_iload hx hb d_Equality_join_111 (lv_at hl 0 rfl) ?_
              refine lv_iconst (v := 1) hx hb d_Equality_join_113 (by decide) ?_
              refine lv_iadd hx hb d_Equality_join_114 ?_
              obtain ⟨i25, h⟩ := dz_oi h
              refine va_iast (D := (dC, dI)) hx hb hK hP hD hS 4 0 rfl rfl i25 d_Equality_join_115 (fun H locs hP hD hS => ?_)
              have hP : va_P (dC, dI) classes [(o_Heap, .inr (3, [.ref o_Stacks, .ref r_H_globals, .int H_globalsUsed, .ref r_H_cells, .int H_used, .ref r_H_spare, .int H_spareUsed, .int H_old, .int H_oldLeadsToNew, .int H_limit, .int H_every, .int H_fresh, .int H_made, .int H_madeLimit, .int H_reachedFromGlobals, .int H_reachedInAll, .ref r_H_keptGlobals, .int H_keptGlobalsUsed, .ref r_H_keptCells, .int H_kept])), (r_H_cells, .inl (cL, n_H_cells, .inr (.inl f_H_cells))), (r_Q_pairs, .inl (cL, n_Q_pairs, .inr (.inl f_Q_pairs))), (o_Equality, .inr (5, [.ref o_Heap, .ref r_Q_links, .ref r_Q_pairs, .int Q_size])), (r_Q_links, .inl (cI, n_Q_links, .inl (upd z23_2 z22_1.toNatClampNeg (z23_1 + 1))))] H := hP
              have hD : va_D A [(o_Heap, .inr (3, [.ref o_Stacks, .ref r_H_globals, .int H_globalsUsed, .ref r_H_cells, .int H_used, .ref r_H_spare, .int H_spareUsed, .int H_old, .int H_oldLeadsToNew, .int H_limit, .int H_every, .int H_fresh, .int H_made, .int H_madeLimit, .int H_reachedFromGlobals, .int H_reachedInAll, .ref r_H_keptGlobals, .int H_keptGlobalsUsed, .ref r_H_keptCells, .int H_kept])), (r_H_cells, .inl (cL, n_H_cells, .inr (.inl f_H_cells))), (r_Q_pairs, .inl (cL, n_Q_pairs, .inr (.inl f_Q_pairs))), (o_Equality, .inr (5, [.ref o_Heap, .ref r_Q_links, .ref r_Q_pairs, .int Q_size])), (r_Q_links, .inl (cI, n_Q_links, .inl (upd z23_2 z22_1.toNatClampNeg (z23_1 + 1))))] := hD
              refine lv_aload_n hx hb d_Equality_join_116 rfl (lv_at hl 5 rfl) ?_
              refine lv_iload hx hb d_Equality_join_117 (lv_at hl 3 rfl) ?_
              refine lv_iload hx hb d_Equality_join_119 (lv_at hl 2 rfl) ?_
              obtain ⟨⟨⟨z26_1, z26_2, z26_3⟩, zc26, zs26⟩, hc26, h⟩ := dz_ob h
              try dsimp only at h
              obtain ⟨z, h, hG⟩ := dz_tkG h hG
              have hPc := hP.sub (ws' := [(o_Equality, .inr (5, [.ref o_Heap, .ref r_Q_links, .ref r_Q_pairs, .int Q_size])), (r_Q_pairs, .inl (cL, n_Q_pairs, .inr (.inl f_Q_pairs)))]) [3, 2] rfl
              have hKc := hK.sub (tys' := [(cL, .long)]) [1] rfl
              have hDc := hD.sub (ws' := [(o_Equality, .inr (5, [.ref o_Heap, .ref r_Q_links, .ref r_Q_pairs, .int Q_size])), (r_Q_pairs, .inl (cL, n_Q_pairs, .inr (.inl f_Q_pairs)))]) [3, 2] (by decide) rfl
              have hFc := va_free (wc := [(o_Equality, .inr (5, [.ref o_Heap, .ref r_Q_links, .ref r_Q_pairs, .int Q_size])), (r_Q_pairs, .inl (cL, n_Q_pairs, .inr (.inl f_Q_pairs)))]) hD hS hA [3, 2] rfl
              refine va_callv (va_runV (As := [.int z17_1, .int z18_1]) (rest := []) ⟨hx, hb, hml, hown, hg⟩ (c_Equality_addPair l dC dI N cL o_Equality o_Heap r_Q_links r_Q_pairs Q_size n_Q_pairs f_Q_pairs z17_1 z18_1 H.size (z26_1, z26_2, z26_3) zc26 zs26 hc26) (cwV 2 hg (gd_V k276 k277 k278 k274 k275) rfl rfl rfl (by decide +kernel) ⟨Nat.le_of_ble_eq_true rfl, Nat.le_of_ble_eq_true rfl⟩) ⟨dz_blind, va_recv hKc hPc (ci := 5) (q0 := 0) rfl rfl, fun U hU hW => ⟨rfl, dz_Nw hW hN, by rw [hU], by rw [hU]; exact hPc, va_K.moved hW.alike hKc, hDc.weaken (fun _ _ _ _ => trivial)⟩⟩ rfl rfl hl.1 rfl (lv_room (Nat.le_of_ble_eq_true rfl)) d_Equality_join_121 ⟨dz_Gc hG, dz_Gs hG⟩) hS (fun q _ h => hFc q h) hFc (fun u26 t26 H1 locs ht hvm hw hB hz1 hk1 hS => ?_)
              obtain ⟨a26_0, rfl⟩ : ∃ z, z = u26 := ⟨_, rfl⟩
              obtain ⟨hP1, hK1, hD1⟩ := hB
              rw [ht] at hP1
              obtain ⟨hP, hD⟩ := va_join (wr := [(o_Heap, .inr (3, [.ref o_Stacks, .ref r_H_globals, .int H_globalsUsed, .ref r_H_cells, .int H_used, .ref r_H_spare, .int H_spareUsed, .int H_old, .int H_oldLeadsToNew, .int H_limit, .int H_every, .int H_fresh, .int H_made, .int H_madeLimit, .int H_reachedFromGlobals, .int H_reachedInAll, .ref r_H_keptGlobals, .int H_keptGlobalsUsed, .ref r_H_keptCells, .int H_kept])), (r_H_cells, .inl (cL, n_H_cells, .inr (.inl f_H_cells))), (r_Q_links, .inl (cI, n_Q_links, .inl (upd z23_2 z22_1.toNatClampNeg (z23_1 + 1))))]) (w1 := [(o_Equality, .inr (5, [.ref o_Heap, .ref r_Q_links, .ref a26_0, .int z26_1])), (a26_0, .inl (cL, z26_2, .inr (.inl z26_3)))]) hP hD [3, 2] [0, 1, 4] rfl rfl (by decide) (by decide) hk1 hFc hP1 hD1
              generalize H1 = H at hP hS ⊢
              have hP : va_P (dC, dI) classes [(o_Heap, .inr (3, [.ref o_Stacks, .ref r_H_globals, .int H_globalsUsed, .ref r_H_cells, .int H_used, .ref r_H_spare, .int H_spareUsed, .int H_old, .int H_oldLeadsToNew, .int H_limit, .int H_every, .int H_fresh, .int H_made, .int H_madeLimit, .int H_reachedFromGlobals, .int H_reachedInAll, .ref r_H_keptGlobals, .int H_keptGlobalsUsed, .ref r_H_keptCells, .int H_kept])), (r_H_cells, .inl (cL, n_H_cells, .inr (.inl f_H_cells))), (r_Q_links, .inl (cI, n_Q_links, .inl (upd z23_2 z22_1.toNatClampNeg (z23_1 + 1)))), (o_Equality, .inr (5, [.ref o_Heap, .ref r_Q_links, .ref a26_0, .int z26_1])), (a26_0, .inl (cL, z26_2, .inr (.inl z26_3)))] H := hP
              have hD : va_D A [(o_Heap, .inr (3, [.ref o_Stacks, .ref r_H_globals, .int H_globalsUsed, .ref r_H_cells, .int H_used, .ref r_H_spare, .int H_spareUsed, .int H_old, .int H_oldLeadsToNew, .int H_limit, .int H_every, .int H_fresh, .int H_made, .int H_madeLimit, .int H_reachedFromGlobals, .int H_reachedInAll, .ref r_H_keptGlobals, .int H_keptGlobalsUsed, .ref r_H_keptCells, .int H_kept])), (r_H_cells, .inl (cL, n_H_cells, .inr (.inl f_H_cells))), (r_Q_links, .inl (cI, n_Q_links, .inl (upd z23_2 z22_1.toNatClampNeg (z23_1 + 1)))), (o_Equality, .inr (5, [.ref o_Heap, .ref r_Q_links, .ref a26_0, .int z26_1])), (a26_0, .inl (cL, z26_2, .inr (.inl z26_3)))] := hD
              refine lv_iconst (v := 1) hx hb d_Equality_join_124 (by decide) ?_
              obtain rfl := Option.some.inj h
              have hP9 := hP.sub (ws' := [(o_Heap, .inr (3, [.ref o_Stacks, .ref r_H_globals, .int H_globalsUsed, .ref r_H_cells, .int H_used, .ref r_H_spare, .int H_spareUsed, .int H_old, .int H_oldLeadsToNew, .int H_limit, .int H_every, .int H_fresh, .int H_made, .int H_madeLimit, .int H_reachedFromGlobals, .int H_reachedInAll, .ref r_H_keptGlobals, .int H_keptGlobalsUsed, .ref r_H_keptCells, .int H_kept])), (o_Equality, .inr (5, [.ref o_Heap, .ref r_Q_links, .ref a26_0, .int z26_1])), (r_H_cells, .inl (cL, n_H_cells, .inr (.inl f_H_cells))), (r_Q_links, .inl (cI, n_Q_links, .inl (upd z23_2 z22_1.toNatClampNeg (z23_1 + 1)))), (a26_0, .inl (cL, z26_2, .inr (.inl z26_3)))]) [0, 3, 1, 2, 4] rfl
              have hD9 := hD.sub (ws' := [(o_Heap, .inr (3, [.ref o_Stacks, .ref r_H_globals, .int H_globalsUsed, .ref r_H_cells, .int H_used, .ref r_H_spare, .int H_spareUsed, .int H_old, .int H_oldLeadsToNew, .int H_limit, .int H_every, .int H_fresh, .int H_made, .int H_madeLimit, .int H_reachedFromGlobals, .int H_reachedInAll, .ref r_H_keptGlobals, .int H_keptGlobalsUsed, .ref r_H_keptCells, .int H_kept])), (o_Equality, .inr (5, [.ref o_Heap, .ref r_Q_links, .ref a26_0, .int z26_1])), (r_H_cells, .inl (cL, n_H_cells, .inr (.inl f_H_cells))), (r_Q_links, .inl (cI, n_Q_links, .inl (upd z23_2 z22_1.toNatClampNeg (z23_1 + 1)))), (a26_0, .inl (cL, z26_2, .inr (.inl z26_3)))]) [0, 3, 1, 2, 4] (by decide) rfl
              have hK9 := hK.sub (tys' := [(cI, .int), (cL, .long)]) [0, 1] rfl
              refine W.widen (dz_Gc hG) (dz_Gs hG) ?_
              obtain ⟨rfl, -, -⟩ := hG
              exact W.zret (v := 1) (ty := .boolean) hx hb hr (show narrow .boolean (.int 1) = .int 1 from rfl) (fun t ht hW => ⟨⟨1, a26_0, rfl, ⟨rfl, (show narrow .boolean (.int 1) = .int 1 from rfl), (show fits .boolean (.int 1) = true from rfl)⟩, by rw [ht]; exact hP9, va_K.moved hW.alike hK9, hD9⟩, hS.F ht⟩) hS.2.2 d_Equality_join_125
          · rw [if_neg c21] at h
            refine lv_iconst (v := 0) hx hb d_Equality_join_80 (by decide) ?_
            obtain rfl := Option.some.inj h
            have hP9 := hP.sub (ws' := [(o_Heap, .inr (3, [.ref o_Stacks, .ref r_H_globals, .int H_globalsUsed, .ref r_H_cells, .int H_used, .ref r_H_spare, .int H_spareUsed, .int H_old, .int H_oldLeadsToNew, .int H_limit, .int H_every, .int H_fresh, .int H_made, .int H_madeLimit, .int H_reachedFromGlobals, .int H_reachedInAll, .ref r_H_keptGlobals, .int H_keptGlobalsUsed, .ref r_H_keptCells, .int H_kept])), (o_Equality, .inr (5, [.ref o_Heap, .ref r_Q_links, .ref r_Q_pairs, .int Q_size])), (r_H_cells, .inl (cL, n_H_cells, .inr (.inl f_H_cells))), (r_Q_links, .inl (cI, n_Q_links, .inl f_Q_links)), (r_Q_pairs, .inl (cL, n_Q_pairs, .inr (.inl f_Q_pairs)))]) [0, 1, 2, 3, 4] rfl
            have hD9 := hD.sub (ws' := [(o_Heap, .inr (3, [.ref o_Stacks, .ref r_H_globals, .int H_globalsUsed, .ref r_H_cells, .int H_used, .ref r_H_spare, .int H_spareUsed, .int H_old, .int H_oldLeadsToNew, .int H_limit, .int H_every, .int H_fresh, .int H_made, .int H_madeLimit, .int H_reachedFromGlobals, .int H_reachedInAll, .ref r_H_keptGlobals, .int H_keptGlobalsUsed, .ref r_H_keptCells, .int H_kept])), (o_Equality, .inr (5, [.ref o_Heap, .ref r_Q_links, .ref r_Q_pairs, .int Q_size])), (r_H_cells, .inl (cL, n_H_cells, .inr (.inl f_H_cells))), (r_Q_links, .inl (cI, n_Q_links, .inl f_Q_links)), (r_Q_pairs, .inl (cL, n_Q_pairs, .inr (.inl f_Q_pairs)))]) [0, 1, 2, 3, 4] (by decide) rfl
            have hK9 := hK.sub (tys' := [(cI, .int), (cL, .long)]) [0, 1] rfl
            refine W.widen (dz_Gc hG) (dz_Gs hG) ?_
            obtain ⟨rfl, -, -⟩ := hG
            exact W.zret (v := 0) (ty := .boolean) hx hb hr (show narrow .boolean (.int 0) = .int 0 from rfl) (fun t ht hW => ⟨⟨0, r_Q_pairs, rfl, ⟨rfl, (show narrow .boolean (.int 0) = .int 0 from rfl), (show fits .boolean (.int 0) = true from rfl)⟩, by rw [ht]; exact hP9, va_K.moved hW.alike hK9, hD9⟩, hS.F ht⟩) hS.2.2 d_Equality_join_81
        · rw [if_neg c16] at h
          refine lv_iload hx hb d_Equality_join_35 (lv_at hl 0 rfl) ?_
          refine lv_bipush (v := 6) hx hb d_Equality_join_37 (by decide) ?_
          refine lv_icmp_eq (tgt := 44) hx hb d_Equality_join_39 (by decide) (fun c27 => ?_) (fun c27 => ?_)
          · rw [if_pos c27] at h
            refine lv_lload_n hx hb d_Equality_join_44 rfl (lv_at hl 2 rfl) ?_
            obtain ⟨z28_1, hc28, h⟩ := dz_ob h
            try dsimp only at h
            have hPc := hP.sub (ws' := []) [] rfl
            have hKc := hK.sub (tys' := []) [] rfl
            refine vp_callSi (va_Run.run (va_runS (As := [.long p0]) (rest := []) ⟨hx, hb, hml, hown, hg⟩ (c_Value_number l dC dI N p0 z28_1 hc28) (va_cwS 1 hg (gd_S k269 k139 k122 k137) rfl rfl rfl (by decide +kernel) ⟨Nat.le_of_ble_eq_true rfl, Nat.le_of_ble_eq_true rfl⟩) ⟨dz_blindR, fun U hU hW => ⟨rfl, dz_Nw hW hN, by rw [hU]; exact hPc, va_K.moved hW.alike hKc⟩⟩ rfl rfl hl.1 rfl (lv_room (Nat.le_of_ble_eq_true rfl)) d_Equality_join_45 ⟨dz_Gc hG, dz_Gs hG⟩)) (fun r28 hw => ?_)
            have hw : z28_1 = r28 := hw.symm
            subst hw
            refine lv_istore (lv' := [(6, .int z28_1), (5, .int z2_1), (0, .ref o_Equality), (1, .long p0), (3, .long p1)]) hx hb d_Equality_join_48 hl (by decide) rfl (fun ls hl => ?_)
            refine lv_lload_n hx hb d_Equality_join_50 rfl (lv_at hl 4 rfl) ?_
            obtain ⟨z29_1, hc29, h⟩ := dz_ob h
            try dsimp only at h
            have hPc := hP.sub (ws' := []) [] rfl
            have hKc := hK.sub (tys' := []) [] rfl
            refine vp_callSi (va_Run.run (va_runS (As := [.long p1]) (rest := []) ⟨hx, hb, hml, hown, hg⟩ (c_Value_number l dC dI N p1 z29_1 hc29) (va_cwS 1 hg (gd_S k269 k139 k122 k137) rfl rfl rfl (by decide +kernel) ⟨Nat.le_of_ble_eq_true rfl, Nat.le_of_ble_eq_true rfl⟩) ⟨dz_blindR, fun U hU hW => ⟨rfl, dz_Nw hW hN, by rw [hU]; exact hPc, va_K.moved hW.alike hKc⟩⟩ rfl rfl hl.1 rfl (lv_room (Nat.le_of_ble_eq_true rfl)) d_Equality_join_51 ⟨dz_Gc hG, dz_Gs hG⟩)) (fun r29 hw => ?_)
            have hw : z29_1 = r29 := hw.symm
            subst hw
            refine lv_istore (lv' := [(7, .int z29_1), (6, .int z28_1), (5, .int z2_1), (0, .ref o_Equality), (1, .long p0), (3, .long p1)]) hx hb d_Equality_join_54 hl (by decide) rfl (fun ls hl => ?_)
            refine lv_aload_n hx hb d_Equality_join_56 rfl (lv_at hl 3 rfl) ?_
            refine va_get (D := (dC, dI)) (ci := 5) (v := .ref o_Heap) (C := R_Equality) (T := F_Equality) (N := 4) hx hb hg i_Equality hown hK hP 1 rfl rfl 0 (by decide) (hg _ k266) (fun _ h9 => h9) rfl d_Equality_join_57 ?_
            refine va_get (D := (dC, dI)) (ci := 3) (v := .ref r_H_cells) (C := R_Heap) (T := F_Heap) (N := 20) hx hb hg i_Heap hown hK hP 0 rfl rfl 3 (by decide) (hg _ k267) (fun _ h9 => h9) rfl d_Equality_join_60 ?_
            refine lv_iload hx hb d_Equality_join_63 (lv_at hl 1 rfl) ?_
            obtain ⟨i30, h⟩ := dz_oi h
            refine va_lald (D := (dC, dI)) hx hb hK hP 2 1 rfl rfl i30 d_Equality_join_65 ?_
            refine lv_aload_n hx hb d_Equality_join_66 rfl (lv_at hl 3 rfl) ?_
            refine va_get (D := (dC, dI)) (ci := 5) (v := .ref o_Heap) (C := R_Equality) (T := F_Equality) (N := 4) hx hb hg i_Equality hown hK hP 1 rfl rfl 0 (by decide) (hg _ k266) (fun _ h9 => h9) rfl d_Equality_join_67 ?_
            refine va_get (D := (dC, dI)) (ci := 3) (v := .ref r_H_cells) (C := R_Heap) (T := F_Heap) (N := 20) hx hb hg i_Heap hown hK hP 0 rfl rfl 3 (by decide) (hg _ k267) (fun _ h9 => h9) rfl d_Equality_join_70 ?_
            refine lv_iload hx hb d_Equality_join_73 (lv_at hl 0 rfl) ?_
            obtain ⟨i31, h⟩ := dz_oi h
            refine va_lald (D := (dC, dI)) hx hb hK hP 2 1 rfl rfl i31 d_Equality_join_75 ?_
            refine W.lcmp hx hb d_Equality_join_76 ?_
            refine lv_if_eq (tgt := 82) hx hb d_Equality_join_77 (by decide) (fun c32 => ?_) (fun c32 => ?_)
            · rw [if_pos c32] at h
              refine lv_aload_n hx hb d_Equality_join_82 rfl (lv_at hl 3 rfl) ?_
              refine lv_iload hx hb d_Equality_join_83 (lv_at hl 1 rfl) ?_
              obtain ⟨⟨z33_1, z33_2⟩, hc33, h⟩ := dz_ob h
              try dsimp only at h
              have hPc := hP.sub (ws' := [(o_Equality, .inr (5, [.ref o_Heap, .ref r_Q_links, .ref r_Q_pairs, .int Q_size])), (r_Q_links, .inl (cI, n_Q_links, .inl f_Q_links))]) [1, 3] rfl
              have hKc := hK.sub (tys' := [(cI, .int)]) [0] rfl
              have hDc := hD.sub (ws' := [(o_Equality, .inr (5, [.ref o_Heap, .ref r_Q_links, .ref r_Q_pairs, .int Q_size])), (r_Q_links, .inl (cI, n_Q_links, .inl f_Q_links))]) [1, 3] (by decide) rfl
              have hFc := va_free (wc := [(o_Equality, .inr (5, [.ref o_Heap, .ref r_Q_links, .ref r_Q_pairs, .int Q_size])), (r_Q_links, .inl (cI, n_Q_links, .inl f_Q_links))]) hD hS hA [1, 3] rfl
              refine va_calli (va_runV (As := [.int z28_1]) (rest := []) ⟨hx, hb, hml, hown, hg⟩ (c_Equality_leader l dC dI N cI o_Equality o_Heap r_Q_links r_Q_pairs Q_size n_Q_links f_Q_links z28_1 s.heap.size (z33_1, z33_2) hc33) (cwV 1 hg (gd_V k271 k272 k273 k274 k270) rfl rfl rfl (by decide +kernel) ⟨Nat.le_of_ble_eq_true rfl, Nat.le_of_ble_eq_true rfl⟩) ⟨dz_blind, va_recv hKc hPc (ci := 5) (q0 := 0) rfl rfl, fun U hU hW => ⟨rfl, dz_Nw hW hN, by rw [hU], by rw [hU]; exact hPc, va_K.moved hW.alike hKc, hDc.weaken (fun _ _ _ _ => trivial)⟩⟩ rfl rfl hl.1 rfl (lv_room (Nat.le_of_ble_eq_true rfl)) d_Equality_join_85 ⟨dz_Gc hG, dz_Gs hG⟩) hS (fun q _ h => hFc q h) hFc (fun r33 u33 t33 H1 locs ht hvm hw hB hz1 hk1 hS => ?_)
              obtain ⟨hP1, hK1, hD1⟩ := hB
              rw [ht] at hP1
              obtain ⟨hP, hD⟩ := va_join (wr := [(o_Heap, .inr (3, [.ref o_Stacks, .ref r_H_globals, .int H_globalsUsed, .ref r_H_cells, .int H_used, .ref r_H_spare, .int H_spareUsed, .int H_old, .int H_oldLeadsToNew, .int H_limit, .int H_every, .int H_fresh, .int H_made, .int H_madeLimit, .int H_reachedFromGlobals, .int H_reachedInAll, .ref r_H_keptGlobals, .int H_keptGlobalsUsed, .ref r_H_keptCells, .int H_kept])), (r_H_cells, .inl (cL, n_H_cells, .inr (.inl f_H_cells))), (r_Q_pairs, .inl (cL, n_Q_pairs, .inr (.inl f_Q_pairs)))]) (w1 := [(o_Equality, .inr (5, [.ref o_Heap, .ref r_Q_links, .ref r_Q_pairs, .int Q_size])), (r_Q_links, .inl (cI, n_Q_links, .inl z33_2))]) hP hD [1, 3] [0, 2, 4] rfl rfl (by decide) (by decide) hk1 hFc hP1 hD1
              have hw : z33_1 = r33 := hw.symm
              subst hw
              generalize H1 = H at hP hS ⊢
              have hP : va_P (dC, dI) classes [(o_Heap, .inr (3, [.ref o_Stacks, .ref r_H_globals, .int H_globalsUsed, .ref r_H_cells, .int H_used, .ref r_H_spare, .int H_spareUsed, .int H_old, .int H_oldLeadsToNew, .int H_limit, .int H_every, .int H_fresh, .int H_made, .int H_madeLimit, .int H_reachedFromGlobals, .int H_reachedInAll, .ref r_H_keptGlobals, .int H_keptGlobalsUsed, .ref r_H_keptCells, .int H_kept])), (r_H_cells, .inl (cL, n_H_cells, .inr (.inl f_H_cells))), (r_Q_pairs, .inl (cL, n_Q_pairs, .inr (.inl f_Q_pairs))), (o_Equality, .inr (5, [.ref o_Heap, .ref r_Q_links, .ref r_Q_pairs, .int Q_size])), (r_Q_links, .inl (cI, n_Q_links, .inl z33_2))] H := hP
              have hD : va_D A [(o_Heap, .inr (3, [.ref o_Stacks, .ref r_H_globals, .int H_globalsUsed, .ref r_H_cells, .int H_used, .ref r_H_spare, .int H_spareUsed, .int H_old, .int H_oldLeadsToNew, .int H_limit, .int H_every, .int H_fresh, .int H_made, .int H_madeLimit, .int H_reachedFromGlobals, .int H_reachedInAll, .ref r_H_keptGlobals, .int H_keptGlobalsUsed, .ref r_H_keptCells, .int H_kept])), (r_H_cells, .inl (cL, n_H_cells, .inr (.inl f_H_cells))), (r_Q_pairs, .inl (cL, n_Q_pairs, .inr (.inl f_Q_pairs))), (o_Equality, .inr (5, [.ref o_Heap, .ref r_Q_links, .ref r_Q_pairs, .int Q_size])), (r_Q_links, .inl (cI, n_Q_links, .inl z33_2))] := hD
              refine lv_istore (lv' := [(8, .int z33_1), (7, .int z29_1), (6, .int z28_1), (5, .int z2_1), (0, .ref o_Equality), (1, .long p0), (3, .long p1)]) hx hb d_Equality_join_88 hl (by decide) rfl (fun ls hl => ?_)
              refine lv_aload_n hx hb d_Equality_join_90 rfl (lv_at hl 4 rfl) ?_
              refine lv_iload hx hb d_Equality_join_91 (lv_at hl 1 rfl) ?_
              obtain ⟨⟨z34_1, z34_2⟩, hc34, h⟩ := dz_ob h
              try dsimp only at h
              have hPc := hP.sub (ws' := [(o_Equality, .inr (5, [.ref o_Heap, .ref r_Q_links, .ref r_Q_pairs, .int Q_size])), (r_Q_links, .inl (cI, n_Q_links, .inl z33_2))]) [3, 4] rfl
              have hKc := hK.sub (tys' := [(cI, .int)]) [0] rfl
              have hDc := hD.sub (ws' := [(o_Equality, .inr (5, [.ref o_Heap, .ref r_Q_links, .ref r_Q_pairs, .int Q_size])), (r_Q_links, .inl (cI, n_Q_links, .inl z33_2))]) [3, 4] (by decide) rfl
              have hFc := va_free (wc := [(o_Equality, .inr (5, [.ref o_Heap, .ref r_Q_links, .ref r_Q_pairs, .int Q_size])), (r_Q_links, .inl (cI, n_Q_links, .inl z33_2))]) hD hS hA [3, 4] rfl
              refine va_calli (va_runV (As := [.int z29_1]) (rest := []) ⟨hx, hb, hml, hown, hg⟩ (c_Equality_leader l dC dI N cI o_Equality o_Heap r_Q_links r_Q_pairs Q_size n_Q_links z33_2 z29_1 H.size (z34_1, z34_2) hc34) (cwV 1 hg (gd_V k271 k272 k273 k274 k270) rfl rfl rfl (by decide +kernel) ⟨Nat.le_of_ble_eq_true rfl, Nat.le_of_ble_eq_true rfl⟩) ⟨dz_blind, va_recv hKc hPc (ci := 5) (q0 := 0) rfl rfl, fun U hU hW => ⟨rfl, dz_Nw hW hN, by rw [hU], by rw [hU]; exact hPc, va_K.moved hW.alike hKc, hDc.weaken (fun _ _ _ _ => trivial)⟩⟩ rfl rfl hl.1 rfl (lv_room (Nat.le_of_ble_eq_true rfl)) d_Equality_join_93 ⟨dz_Gc hG, dz_Gs hG⟩) hS (fun q _ h => hFc q h) hFc (fun r34 u34 t34 H1 locs ht hvm hw hB hz1 hk1 hS => ?_)
              obtain ⟨hP1, hK1, hD1⟩ := hB
              rw [ht] at hP1
              obtain ⟨hP, hD⟩ := va_join (wr := [(o_Heap, .inr (3, [.ref o_Stacks, .ref r_H_globals, .int H_globalsUsed, .ref r_H_cells, .int H_used, .ref r_H_spare, .int H_spareUsed, .int H_old, .int H_oldLeadsToNew, .int H_limit, .int H_every, .int H_fresh, .int H_made, .int H_madeLimit, .int H_reachedFromGlobals, .int H_reachedInAll, .ref r_H_keptGlobals, .int H_keptGlobalsUsed, .ref r_H_keptCells, .int H_kept])), (r_H_cells, .inl (cL, n_H_cells, .inr (.inl f_H_cells))), (r_Q_pairs, .inl (cL, n_Q_pairs, .inr (.inl f_Q_pairs)))]) (w1 := [(o_Equality, .inr (5, [.ref o_Heap, .ref r_Q_links, .ref r_Q_pairs, .int Q_size])), (r_Q_links, .inl (cI, n_Q_links, .inl z34_2))]) hP hD [3, 4] [0, 1, 2] rfl rfl (by decide) (by decide) hk1 hFc hP1 hD1
              have hw : z34_1 = r34 := hw.symm
              subst hw
              generalize H1 = H at hP hS ⊢
              have hP : va_P (dC, dI) classes [(o_Heap, .inr (3, [.ref o_Stacks, .ref r_H_globals, .int H_globalsUsed, .ref r_H_cells, .int H_used, .ref r_H_spare, .int H_spareUsed, .int H_old, .int H_oldLeadsToNew, .int H_limit, .int H_every, .int H_fresh, .int H_made, .int H_madeLimit, .int H_reachedFromGlobals, .int H_reachedInAll, .ref r_H_keptGlobals, .int H_keptGlobalsUsed, .ref r_H_keptCells, .int H_kept])), (r_H_cells, .inl (cL, n_H_cells, .inr (.inl f_H_cells))), (r_Q_pairs, .inl (cL, n_Q_pairs, .inr (.inl f_Q_pairs))), (o_Equality, .inr (5, [.ref o_Heap, .ref r_Q_links, .ref r_Q_pairs, .int Q_size])), (r_Q_links, .inl (cI, n_Q_links, .inl z34_2))] H := hP
              have hD : va_D A [(o_Heap, .inr (3, [.ref o_Stacks, .ref r_H_globals, .int H_globalsUsed, .ref r_H_cells, .int H_used, .ref r_H_spare, .int H_spareUsed, .int H_old, .int H_oldLeadsToNew, .int H_limit, .int H_every, .int H_fresh, .int H_made, .int H_madeLimit, .int H_reachedFromGlobals, .int H_reachedInAll, .ref r_H_keptGlobals, .int H_keptGlobalsUsed, .ref r_H_keptCells, .int H_kept])), (r_H_cells, .inl (cL, n_H_cells, .inr (.inl f_H_cells))), (r_Q_pairs, .inl (cL, n_Q_pairs, .inr (.inl f_Q_pairs))), (o_Equality, .inr (5, [.ref o_Heap, .ref r_Q_links, .ref r_Q_pairs, .int Q_size])), (r_Q_links, .inl (cI, n_Q_links, .inl z34_2))] := hD
              refine lv_istore (lv' := [(9, .int z34_1), (8, .int z33_1), (7, .int z29_1), (6, .int z28_1), (5, .int z2_1), (0, .ref o_Equality), (1, .long p0), (3, .long p1)]) hx hb d_Equality_join_96 hl (by decide) rfl (fun ls hl => ?_)
              refine lv_iload hx hb d_Equality_join_98 (lv_at hl 1 rfl) ?_
              refine lv_iload hx hb d_Equality_join_100 (lv_at hl 0 rfl) ?_
              refine lv_icmp_eq (tgt := 124) hx hb d_Equality_join_102 (by decide) (fun c35 => ?_) (fun c35 => ?_)
              · rw [if_pos c35] at h
                refine lv_iconst (v := 1) hx hb d_Equality_join_124 (by decide) ?_
                obtain rfl := Option.some.inj h
                have hP9 := hP.sub (ws' := [(o_Heap, .inr (3, [.ref o_Stacks, .ref r_H_globals, .int H_globalsUsed, .ref r_H_cells, .int H_used, .ref r_H_spare, .int H_spareUsed, .int H_old, .int H_oldLeadsToNew, .int H_limit, .int H_every, .int H_fresh, .int H_made, .int H_madeLimit, .int H_reachedFromGlobals, .int H_reachedInAll, .ref r_H_keptGlobals, .int H_keptGlobalsUsed, .ref r_H_keptCells, .int H_kept])), (o_Equality, .inr (5, [.ref o_Heap, .ref r_Q_links, .ref r_Q_pairs, .int Q_size])), (r_H_cells, .inl (cL, n_H_cells, .inr (.inl f_H_cells))), (r_Q_links, .inl (cI, n_Q_links, .inl z34_2)), (r_Q_pairs, .inl (cL, n_Q_pairs, .inr (.inl f_Q_pairs)))]) [0, 3, 1, 4, 2] rfl
                have hD9 := hD.sub (ws' := [(o_Heap, .inr (3, [.ref o_Stacks, .ref r_H_globals, .int H_globalsUsed, .ref r_H_cells, .int H_used, .ref r_H_spare, .int H_spareUsed, .int H_old, .int H_oldLeadsToNew, .int H_limit, .int H_every, .int H_fresh, .int H_made, .int H_madeLimit, .int H_reachedFromGlobals, .int H_reachedInAll, .ref r_H_keptGlobals, .int H_keptGlobalsUsed, .ref r_H_keptCells, .int H_kept])), (o_Equality, .inr (5, [.ref o_Heap, .ref r_Q_links, .ref r_Q_pairs, .int Q_size])), (r_H_cells, .inl (cL, n_H_cells, .inr (.inl f_H_cells))), (r_Q_links, .inl (cI, n_Q_links, .inl z34_2)), (r_Q_pairs, .inl (cL, n_Q_pairs, .inr (.inl f_Q_pairs)))]) [0, 3, 1, 4, 2] (by decide) rfl
                have hK9 := hK.sub (tys' := [(cI, .int), (cL, .long)]) [0, 1] rfl
                refine W.widen (dz_Gc hG) (dz_Gs hG) ?_
                obtain ⟨rfl, -, -⟩ := hG
                exact W.zret (v := 1) (ty := .boolean) hx hb hr (show narrow .boolean (.int 1) = .int 1 from rfl) (fun t ht hW => ⟨⟨1, r_Q_pairs, rfl, ⟨rfl, (show narrow .boolean (.int 1) = .int 1 from rfl), (show fits .boolean (.int 1) = true from rfl)⟩, by rw [ht]; exact hP9, va_K.moved hW.alike hK9, hD9⟩, hS.F ht⟩) hS.2.2 d_Equality_join_125
              · rw [if_neg c35] at h
                refine lv_aload_n hx hb d_Equality_join_105 rfl (lv_at hl 5 rfl) ?_
                refine va_get (D := (dC, dI)) (ci := 5) (v := .ref r_Q_links) (C := R_Equality) (T := F_Equality) (N := 4) hx hb hg i_Equality hown hK hP 3 rfl rfl 1 (by decide) (hg _ k262) (fun _ h9 => h9) rfl d_Equality_join_106 ?_
                refine lv_iload hx hb d_Equality_join_109 (lv_at hl 1 rfl) ?_
                refine lv_iload hx hb d_Equality_join_111 (lv_at hl 0 rfl) ?_
                refine lv_iconst (v := 1) hx hb d_Equality_join_113 (by decide) ?_
                refine lv_iadd hx hb d_Equality_join_114 ?_
                obtain ⟨i36, h⟩ := dz_oi h
                refine va_iast (D := (dC, dI)) hx hb hK hP hD hS 4 0 rfl rfl i36 d_Equality_join_115 (fun H locs hP hD hS => ?_)
                have hP : va_P (dC, dI) classes [(o_Heap, .inr (3, [.ref o_Stacks, .ref r_H_globals, .int H_globalsUsed, .ref r_H_cells, .int H_used, .ref r_H_spare, .int H_spareUsed, .int H_old, .int H_oldLeadsToNew, .int H_limit, .int H_every, .int H_fresh, .int H_made, .int H_madeLimit, .int H_reachedFromGlobals, .int H_reachedInAll, .ref r_H_keptGlobals, .int H_keptGlobalsUsed, .ref r_H_keptCells, .int H_kept])), (r_H_cells, .inl (cL, n_H_cells, .inr (.inl f_H_cells))), (r_Q_pairs, .inl (cL, n_Q_pairs, .inr (.inl f_Q_pairs))), (o_Equality, .inr (5, [.ref o_Heap, .ref r_Q_links, .ref r_Q_pairs, .int Q_size])), (r_Q_links, .inl (cI, n_Q_links, .inl (upd z34_2 z33_1.toNatClampNeg (z34_1 + 1))))] H := hP
                have hD : va_D A [(o_Heap, .inr (3, [.ref o_Stacks, .ref r_H_globals, .int H_globalsUsed, .ref r_H_cells, .int H_used, .ref r_H_spare, .int H_spareUsed, .int H_old, .int H_oldLeadsToNew, .int H_limit, .int H_every, .int H_fresh, .int H_made, .int H_madeLimit, .int H_reachedFromGlobals, .int H_reachedInAll, .ref r_H_keptGlobals, .int H_keptGlobalsUsed, .ref r_H_keptCells, .int H_kept])), (r_H_cells, .inl (cL, n_H_cells, .inr (.inl f_H_cells))), (r_Q_pairs, .inl (cL, n_Q_pairs, .inr (.inl f_Q_pairs))), (o_Equality, .inr (5, [.ref o_Heap, .ref r_Q_links, .ref r_Q_pairs, .int Q_size])), (r_Q_links, .inl (cI, n_Q_links, .inl (upd z34_2 z33_1.toNatClampNeg (z34_1 + 1))))] := hD
                refine lv_aload_n hx hb d_Equality_join_116 rfl (lv_at hl 5 rfl) ?_
                refine lv_iload hx hb d_Equality_join_117 (lv_at hl 3 rfl) ?_
                refine lv_iload hx hb d_Equality_join_119 (lv_at hl 2 rfl) ?_
                obtain ⟨⟨⟨z37_1, z37_2, z37_3⟩, zc37, zs37⟩, hc37, h⟩ := dz_ob h
                try dsimp only at h
                obtain ⟨z, h, hG⟩ := dz_tkG h hG
                have hPc := hP.sub (ws' := [(o_Equality, .inr (5, [.ref o_Heap, .ref r_Q_links, .ref r_Q_pairs, .int Q_size])), (r_Q_pairs, .inl (cL, n_Q_pairs, .inr (.inl f_Q_pairs)))]) [3, 2] rfl
                have hKc := hK.sub (tys' := [(cL, .long)]) [1] rfl
                have hDc := hD.sub (ws' := [(o_Equality, .inr (5, [.ref o_Heap, .ref r_Q_links, .ref r_Q_pairs, .int Q_size])), (r_Q_pairs, .inl (cL, n_Q_pairs, .inr (.inl f_Q_pairs)))]) [3, 2] (by decide) rfl
                have hFc := va_free (wc := [(o_Equality, .inr (5, [.ref o_Heap, .ref r_Q_links, .ref r_Q_pairs, .int Q_size])), (r_Q_pairs, .inl (cL, n_Q_pairs, .inr (.inl f_Q_pairs)))]) hD hS hA [3, 2] rfl
                refine va_callv (va_runV (As := [.int z28_1, .int z29_1]) (rest := []) ⟨hx, hb, hml, hown, hg⟩ (c_Equality_addPair l dC dI N cL o_Equality o_Heap r_Q_links r_Q_pairs Q_size n_Q_pairs f_Q_pairs z28_1 z29_1 H.size (z37_1, z37_2, z37_3) zc37 zs37 hc37) (cwV 2 hg (gd_V k276 k277 k278 k274 k275) rfl rfl rfl (by decide +kernel) ⟨Nat.le_of_ble_eq_true rfl, Nat.le_of_ble_eq_true rfl⟩) ⟨dz_blind, va_recv hKc hPc (ci := 5) (q0 := 0) rfl rfl, fun U hU hW => ⟨rfl, dz_Nw hW hN, by rw [hU], by rw [hU]; exact hPc, va_K.moved hW.alike hKc, hDc.weaken (fun _ _ _ _ => trivial)⟩⟩ rfl rfl hl.1 rfl (lv_room (Nat.le_of_ble_eq_true rfl)) d_Equality_join_121 ⟨dz_Gc hG, dz_Gs hG⟩) hS (fun q _ h => hFc q h) hFc (fun u37 t37 H1 locs ht hvm hw hB hz1 hk1 hS => ?_)
                obtain ⟨a37_0, rfl⟩ : ∃ z, z = u37 := ⟨_, rfl⟩
                obtain ⟨hP1, hK1, hD1⟩ := hB
                rw [ht] at hP1
                obtain ⟨hP, hD⟩ := va_join (wr := [(o_Heap, .inr (3, [.ref o_Stacks, .ref r_H_globals, .int H_globalsUsed, .ref r_H_cells, .int H_used, .ref r_H_spare, .int H_spareUsed, .int H_old, .int H_oldLeadsToNew, .int H_limit, .int H_every, .int H_fresh, .int H_made, .int H_madeLimit, .int H_reachedFromGlobals, .int H_reachedInAll, .ref r_H_keptGlobals, .int H_keptGlobalsUsed, .ref r_H_keptCells, .int H_kept])), (r_H_cells, .inl (cL, n_H_cells, .inr (.inl f_H_cells))), (r_Q_links, .inl (cI, n_Q_links, .inl (upd z34_2 z33_1.toNatClampNeg (z34_1 + 1))))]) (w1 := [(o_Equality, .inr (5, [.ref o_Heap, .ref r_Q_links, .ref a37_0, .int z37_1])), (a37_0, .inl (cL, z37_2, .inr (.inl z37_3)))]) hP hD [3, 2] [0, 1, 4] rfl rfl (by decide) (by decide) hk1 hFc hP1 hD1
                generalize H1 = H at hP hS ⊢
                have hP : va_P (dC, dI) classes [(o_Heap, .inr (3, [.ref o_Stacks, .ref r_H_globals, .int H_globalsUsed, .ref r_H_cells, .int H_used, .ref r_H_spare, .int H_spareUsed, .int H_old, .int H_oldLeadsToNew, .int H_limit, .int H_every, .int H_fresh, .int H_made, .int H_madeLimit, .int H_reachedFromGlobals, .int H_reachedInAll, .ref r_H_keptGlobals, .int H_keptGlobalsUsed, .ref r_H_keptCells, .int H_kept])), (r_H_cells, .inl (cL, n_H_cells, .inr (.inl f_H_cells))), (r_Q_links, .inl (cI, n_Q_links, .inl (upd z34_2 z33_1.toNatClampNeg (z34_1 + 1)))), (o_Equality, .inr (5, [.ref o_Heap, .ref r_Q_links, .ref a37_0, .int z37_1])), (a37_0, .inl (cL, z37_2, .inr (.inl z37_3)))] H := hP
                have hD : va_D A [(o_Heap, .inr (3, [.ref o_Stacks, .ref r_H_globals, .int H_globalsUsed, .ref r_H_cells, .int H_used, .ref r_H_spare, .int H_spareUsed, .int H_old, .int H_oldLeadsToNew, .int H_limit, .int H_every, .int H_fresh, .int H_made, .int H_madeLimit, .int H_reachedFromGlobals, .int H_reachedInAll, .ref r_H_keptGlobals, .int H_keptGlobalsUsed, .ref r_H_keptCells, .int H_kept])), (r_H_cells, .inl (cL, n_H_cells, .inr (.inl f_H_cells))), (r_Q_links, .inl (cI, n_Q_links, .inl (upd z34_2 z33_1.toNatClampNeg (z34_1 + 1)))), (o_Equality, .inr (5, [.ref o_Heap, .ref r_Q_links, .ref a37_0, .int z37_1])), (a37_0, .inl (cL, z37_2, .inr (.inl z37_3)))] := hD
                refine lv_iconst (v := 1) hx hb d_Equality_join_124 (by decide) ?_
                obtain rfl := Option.some.inj h
                have hP9 := hP.sub (ws' := [(o_Heap, .inr (3, [.ref o_Stacks, .ref r_H_globals, .int H_globalsUsed, .ref r_H_cells, .int H_used, .ref r_H_spare, .int H_spareUsed, .int H_old, .int H_oldLeadsToNew, .int H_limit, .int H_every, .int H_fresh, .int H_made, .int H_madeLimit, .int H_reachedFromGlobals, .int H_reachedInAll, .ref r_H_keptGlobals, .int H_keptGlobalsUsed, .ref r_H_keptCells, .int H_kept])), (o_Equality, .inr (5, [.ref o_Heap, .ref r_Q_links, .ref a37_0, .int z37_1])), (r_H_cells, .inl (cL, n_H_cells, .inr (.inl f_H_cells))), (r_Q_links, .inl (cI, n_Q_links, .inl (upd z34_2 z33_1.toNatClampNeg (z34_1 + 1)))), (a37_0, .inl (cL, z37_2, .inr (.inl z37_3)))]) [0, 3, 1, 2, 4] rfl
                have hD9 := hD.sub (ws' := [(o_Heap, .inr (3, [.ref o_Stacks, .ref r_H_globals, .int H_globalsUsed, .ref r_H_cells, .int H_used, .ref r_H_spare, .int H_spareUsed, .int H_old, .int H_oldLeadsToNew, .int H_limit, .int H_every, .int H_fresh, .int H_made, .int H_madeLimit, .int H_reachedFromGlobals, .int H_reachedInAll, .ref r_H_keptGlobals, .int H_keptGlobalsUsed, .ref r_H_keptCells, .int H_kept])), (o_Equality, .inr (5, [.ref o_Heap, .ref r_Q_links, .ref a37_0, .int z37_1])), (r_H_cells, .inl (cL, n_H_cells, .inr (.inl f_H_cells))), (r_Q_links, .inl (cI, n_Q_links, .inl (upd z34_2 z33_1.toNatClampNeg (z34_1 + 1)))), (a37_0, .inl (cL, z37_2, .inr (.inl z37_3)))]) [0, 3, 1, 2, 4] (by decide) rfl
                have hK9 := hK.sub (tys' := [(cI, .int), (cL, .long)]) [0, 1] rfl
                refine W.widen (dz_Gc hG) (dz_Gs hG) ?_
                obtain ⟨rfl, -, -⟩ := hG
                exact W.zret (v := 1) (ty := .boolean) hx hb hr (show narrow .boolean (.int 1) = .int 1 from rfl) (fun t ht hW => ⟨⟨1, a37_0, rfl, ⟨rfl, (show narrow .boolean (.int 1) = .int 1 from rfl), (show fits .boolean (.int 1) = true from rfl)⟩, by rw [ht]; exact hP9, va_K.moved hW.alike hK9, hD9⟩, hS.F ht⟩) hS.2.2 d_Equality_join_125
            · rw [if_neg c32] at h
              refine lv_iconst (v := 0) hx hb d_Equality_join_80 (by decide) ?_
              obtain rfl := Option.some.inj h
              have hP9 := hP.sub (ws' := [(o_Heap, .inr (3, [.ref o_Stacks, .ref r_H_globals, .int H_globalsUsed, .ref r_H_cells, .int H_used, .ref r_H_spare, .int H_spareUsed, .int H_old, .int H_oldLeadsToNew, .int H_limit, .int H_every, .int H_fresh, .int H_made, .int H_madeLimit, .int H_reachedFromGlobals, .int H_reachedInAll, .ref r_H_keptGlobals, .int H_keptGlobalsUsed, .ref r_H_keptCells, .int H_kept])), (o_Equality, .inr (5, [.ref o_Heap, .ref r_Q_links, .ref r_Q_pairs, .int Q_size])), (r_H_cells, .inl (cL, n_H_cells, .inr (.inl f_H_cells))), (r_Q_links, .inl (cI, n_Q_links, .inl f_Q_links)), (r_Q_pairs, .inl (cL, n_Q_pairs, .inr (.inl f_Q_pairs)))]) [0, 1, 2, 3, 4] rfl
              have hD9 := hD.sub (ws' := [(o_Heap, .inr (3, [.ref o_Stacks, .ref r_H_globals, .int H_globalsUsed, .ref r_H_cells, .int H_used, .ref r_H_spare, .int H_spareUsed, .int H_old, .int H_oldLeadsToNew, .int H_limit, .int H_every, .int H_fresh, .int H_made, .int H_madeLimit, .int H_reachedFromGlobals, .int H_reachedInAll, .ref r_H_keptGlobals, .int H_keptGlobalsUsed, .ref r_H_keptCells, .int H_kept])), (o_Equality, .inr (5, [.ref o_Heap, .ref r_Q_links, .ref r_Q_pairs, .int Q_size])), (r_H_cells, .inl (cL, n_H_cells, .inr (.inl f_H_cells))), (r_Q_links, .inl (cI, n_Q_links, .inl f_Q_links)), (r_Q_pairs, .inl (cL, n_Q_pairs, .inr (.inl f_Q_pairs)))]) [0, 1, 2, 3, 4] (by decide) rfl
              have hK9 := hK.sub (tys' := [(cI, .int), (cL, .long)]) [0, 1] rfl
              refine W.widen (dz_Gc hG) (dz_Gs hG) ?_
              obtain ⟨rfl, -, -⟩ := hG
              exact W.zret (v := 0) (ty := .boolean) hx hb hr (show narrow .boolean (.int 0) = .int 0 from rfl) (fun t ht hW => ⟨⟨0, r_Q_pairs, rfl, ⟨rfl, (show narrow .boolean (.int 0) = .int 0 from rfl), (show fits .boolean (.int 0) = true from rfl)⟩, by rw [ht]; exact hP9, va_K.moved hW.alike hK9, hD9⟩, hS.F ht⟩) hS.2.2 d_Equality_join_81
          · rw [if_neg c27] at h
            refine lv_iconst (v := 0) hx hb d_Equality_join_42 (by decide) ?_
            obtain rfl := Option.some.inj h
            have hP9 := hP.sub (ws' := [(o_Heap, .inr (3, [.ref o_Stacks, .ref r_H_globals, .int H_globalsUsed, .ref r_H_cells, .int H_used, .ref r_H_spare, .int H_spareUsed, .int H_old, .int H_oldLeadsToNew, .int H_limit, .int H_every, .int H_fresh, .int H_made, .int H_madeLimit, .int H_reachedFromGlobals, .int H_reachedInAll, .ref r_H_keptGlobals, .int H_keptGlobalsUsed, .ref r_H_keptCells, .int H_kept])), (o_Equality, .inr (5, [.ref o_Heap, .ref r_Q_links, .ref r_Q_pairs, .int Q_size])), (r_H_cells, .inl (cL, n_H_cells, .inr (.inl f_H_cells))), (r_Q_links, .inl (cI, n_Q_links, .inl f_Q_links)), (r_Q_pairs, .inl (cL, n_Q_pairs, .inr (.inl f_Q_pairs)))]) [0, 1, 2, 3, 4] rfl
            have hD9 := hD.sub (ws' := [(o_Heap, .inr (3, [.ref o_Stacks, .ref r_H_globals, .int H_globalsUsed, .ref r_H_cells, .int H_used, .ref r_H_spare, .int H_spareUsed, .int H_old, .int H_oldLeadsToNew, .int H_limit, .int H_every, .int H_fresh, .int H_made, .int H_madeLimit, .int H_reachedFromGlobals, .int H_reachedInAll, .ref r_H_keptGlobals, .int H_keptGlobalsUsed, .ref r_H_keptCells, .int H_kept])), (o_Equality, .inr (5, [.ref o_Heap, .ref r_Q_links, .ref r_Q_pairs, .int Q_size])), (r_H_cells, .inl (cL, n_H_cells, .inr (.inl f_H_cells))), (r_Q_links, .inl (cI, n_Q_links, .inl f_Q_links)), (r_Q_pairs, .inl (cL, n_Q_pairs, .inr (.inl f_Q_pairs)))]) [0, 1, 2, 3, 4] (by decide) rfl
            have hK9 := hK.sub (tys' := [(cI, .int), (cL, .long)]) [0, 1] rfl
            refine W.widen (dz_Gc hG) (dz_Gs hG) ?_
            obtain ⟨rfl, -, -⟩ := hG
            exact W.zret (v := 0) (ty := .boolean) hx hb hr (show narrow .boolean (.int 0) = .int 0 from rfl) (fun t ht hW => ⟨⟨0, r_Q_pairs, rfl, ⟨rfl, (show narrow .boolean (.int 0) = .int 0 from rfl), (show fits .boolean (.int 0) = true from rfl)⟩, by rw [ht]; exact hP9, va_K.moved hW.alike hK9, hD9⟩, hS.F ht⟩) hS.2.2 d_Equality_join_43
  · rw [if_pos c1] at h
    refine lv_iconst (v := 1) hx hb d_Equality_join_6 (by decide) ?_
    obtain rfl := Option.some.inj h
    have hP9 := hP.sub (ws' := [(o_Heap, .inr (3, [.ref o_Stacks, .ref r_H_globals, .int H_globalsUsed, .ref r_H_cells, .int H_used, .ref r_H_spare, .int H_spareUsed, .int H_old, .int H_oldLeadsToNew, .int H_limit, .int H_every, .int H_fresh, .int H_made, .int H_madeLimit, .int H_reachedFromGlobals, .int H_reachedInAll, .ref r_H_keptGlobals, .int H_keptGlobalsUsed, .ref r_H_keptCells, .int H_kept])), (o_Equality, .inr (5, [.ref o_Heap, .ref r_Q_links, .ref r_Q_pairs, .int Q_size])), (r_H_cells, .inl (cL, n_H_cells, .inr (.inl f_H_cells))), (r_Q_links, .inl (cI, n_Q_links, .inl f_Q_links)), (r_Q_pairs, .inl (cL, n_Q_pairs, .inr (.inl f_Q_pairs)))]) [0, 1, 2, 3, 4] rfl
    have hD9 := hD.sub (ws' := [(o_Heap, .inr (3, [.ref o_Stacks, .ref r_H_globals, .int H_globalsUsed, .ref r_H_cells, .int H_used, .ref r_H_spare, .int H_spareUsed, .int H_old, .int H_oldLeadsToNew, .int H_limit, .int H_every, .int H_fresh, .int H_made, .int H_madeLimit, .int H_reachedFromGlobals, .int H_reachedInAll, .ref r_H_keptGlobals, .int H_keptGlobalsUsed, .ref r_H_keptCells, .int H_kept])), (o_Equality, .inr (5, [.ref o_Heap, .ref r_Q_links, .ref r_Q_pairs, .int Q_size])), (r_H_cells, .inl (cL, n_H_cells, .inr (.inl f_H_cells))), (r_Q_links, .inl (cI, n_Q_links, .inl f_Q_links)), (r_Q_pairs, .inl (cL, n_Q_pairs, .inr (.inl f_Q_pairs)))]) [0, 1, 2, 3, 4] (by decide) rfl
    have hK9 := hK.sub (tys' := [(cI, .int), (cL, .long)]) [0, 1] rfl
    refine W.widen (dz_Gc hG) (dz_Gs hG) ?_
    obtain ⟨rfl, -, -⟩ := hG
    exact W.zret (v := 1) (ty := .boolean) hx hb hr (show narrow .boolean (.int 1) = .int 1 from rfl) (fun t ht hW => ⟨⟨1, r_Q_pairs, rfl, ⟨rfl, (show narrow .boolean (.int 1) = .int 1 from rfl), (show fits .boolean (.int 1) = true from rfl)⟩, by rw [ht]; exact hP9, va_K.moved hW.alike hK9, hD9⟩, hS.F ht⟩) hS.2.2 d_Equality_join_7

set_option maxHeartbeats 4000000 in
set_option maxRecDepth 100000 in
theorem l_Equality_joinParts_1 {p : Program} {l : Launch} {e : Env} {s : State} {m : MethodId} {args : Array Value} {below : List Frame} {meth : Method} {c : Code} {Q : State → Prop} {A : Nat → Prop} (dC : Nat → ClassId) (dI : Nat → Nat → Nat) (N : Nat) (cI : ClassId) (cL : ClassId) (o_Heap : Nat) (o_Stacks : Nat) (o_Equality : Nat) (r_H_globals : Nat) (r_H_cells : Nat) (r_H_spare : Nat) (r_H_keptGlobals : Nat) (r_H_keptCells : Nat) (r_Q_links : Nat) (r_Q_pairs : Nat) (H_globalsUsed : Int32) (H_used : Int32) (H_spareUsed : Int32) (H_old : Int32) (H_oldLeadsToNew : Int32) (H_limit : Int32) (H_every : Int32) (H_fresh : Int32) (H_made : Int32) (H_madeLimit : Int32) (H_reachedFromGlobals : Int32) (H_reachedInAll : Int32) (H_keptGlobalsUsed : Int32) (H_kept : Int32) (Q_size : Int32) (n_H_cells : Nat) (f_H_cells : Nat → Int64) (n_Q_links : Nat) (f_Q_links : Nat → Int32) (n_Q_pairs : Nat) (f_Q_pairs : Nat → Int64) (p0 : Int32) (p1 : Int32) (z2_1 : Int32) {α : Type} {Z1 : α} {Zc Zs : Nat} (hx : p.tables.exec = Jvm.exec) (hb : c.code = b_Equality_joinParts) (hml : c.maxLocals = 11) (hown : s.vm.findClass R_Equality = some m.cls) (hg : ∀ w ∈ lw_g, w.before args s = true) (hN : dz_N s) (hK : va_K (dC, dI) classes [(cI, .int), (cL, .long)] s) (hA : ∀ q : Nat, s.heap.size ≤ q → A q) {k1_41 : Int32 → Option (α × Nat × Nat)} (hk1_41 : ∀   (y1_0 : Int32) (z : α × Nat × Nat) (cc cs : Nat) (H : Heap) (locs : List Loc) (ls : Array Slot), k1_41 y1_0 = some z → dz_G Z1 Zc Zs z cc cs → va_P (dC, dI) classes [(o_Heap, .inr (3, [.ref o_Stacks, .ref r_H_globals, .int H_globalsUsed, .ref r_H_cells, .int H_used, .ref r_H_spare, .int H_spareUsed, .int H_old, .int H_oldLeadsToNew, .int H_limit, .int H_every, .int H_fresh, .int H_made, .int H_madeLimit, .int H_reachedFromGlobals, .int H_reachedInAll, .ref r_H_keptGlobals, .int H_keptGlobalsUsed, .ref r_H_keptCells, .int H_kept])), (o_Equality, .inr (5, [.ref o_Heap, .ref r_Q_links, .ref r_Q_pairs, .int Q_size])), (r_H_cells, .inl (cL, n_H_cells, .inr (.inl f_H_cells))), (r_Q_links, .inl (cI, n_Q_links, .inl f_Q_links)), (r_Q_pairs, .inl (cL, n_Q_pairs, .inr (.inl f_Q_pairs)))] H → va_D A [(o_Heap, .inr (3, [.ref o_Stacks, .ref r_H_globals, .int H_globalsUsed, .ref r_H_cells, .int H_used, .ref r_H_spare, .int H_spareUsed, .int H_old, .int H_oldLeadsToNew, .int H_limit, .int H_every, .int H_fresh, .int H_made, .int H_madeLimit, .int H_reachedFromGlobals, .int H_reachedInAll, .ref r_H_keptGlobals, .int H_keptGlobalsUsed, .ref r_H_keptCells, .int H_kept])), (o_Equality, .inr (5, [.ref o_Heap, .ref r_Q_links, .ref r_Q_pairs, .int Q_size])), (r_H_cells, .inl (cL, n_H_cells, .inr (.inl f_H_cells))), (r_Q_links, .inl (cI, n_Q_links, .inl f_Q_links)), (r_Q_pairs, .inl (cL, n_Q_pairs, .inr (.inl f_Q_pairs)))] → va_S A s.heap H locs → lv_has ls 11 [(3, .int (z2_1 - 1)), (0, .ref o_Equality), (1, .int p0), (2, .int p1)] → W p l e ({ frames := 4, cells := Zc, slots := Zs, locals := 133 } : Room) s m args below meth c H locs cc cs Q (F0 m 41 ls [.int y1_0])) : ∀   (z : α × Nat × Nat) (cc cs : Nat) (H : Heap) (locs : List Loc) (ls : Array Slot), lm_Equality_joinParts_1 N n_H_cells f_H_cells p0 k1_41  = some z → dz_G Z1 Zc Zs z cc cs → va_P (dC, dI) classes [(o_Heap, .inr (3, [.ref o_Stacks, .ref r_H_globals, .int H_globalsUsed, .ref r_H_cells, .int H_used, .ref r_H_spare, .int H_spareUsed, .int H_old, .int H_oldLeadsToNew, .int H_limit, .int H_every, .int H_fresh, .int H_made, .int H_madeLimit, .int H_reachedFromGlobals, .int H_reachedInAll, .ref r_H_keptGlobals, .int H_keptGlobalsUsed, .ref r_H_keptCells, .int H_kept])), (o_Equality, .inr (5, [.ref o_Heap, .ref r_Q_links, .ref r_Q_pairs, .int Q_size])), (r_H_cells, .inl (cL, n_H_cells, .inr (.inl f_H_cells))), (r_Q_links, .inl (cI, n_Q_links, .inl f_Q_links)), (r_Q_pairs, .inl (cL, n_Q_pairs, .inr (.inl f_Q_pairs)))] H → va_D A [(o_Heap, .inr (3, [.ref o_Stacks, .ref r_H_globals, .int H_globalsUsed, .ref r_H_cells, .int H_used, .ref r_H_spare, .int H_spareUsed, .int H_old, .int H_oldLeadsToNew, .int H_limit, .int H_every, .int H_fresh, .int H_made, .int H_madeLimit, .int H_reachedFromGlobals, .int H_reachedInAll, .ref r_H_keptGlobals, .int H_keptGlobalsUsed, .ref r_H_keptCells, .int H_kept])), (o_Equality, .inr (5, [.ref o_Heap, .ref r_Q_links, .ref r_Q_pairs, .int Q_size])), (r_H_cells, .inl (cL, n_H_cells, .inr (.inl f_H_cells))), (r_Q_links, .inl (cI, n_Q_links, .inl f_Q_links)), (r_Q_pairs, .inl (cL, n_Q_pairs, .inr (.inl f_Q_pairs)))] → va_S A s.heap H locs → lv_has ls 11 [(3, .int (z2_1 - 1)), (0, .ref o_Equality), (1, .int p0), (2, .int p1)] → W p l e ({ frames := 4, cells := Zc, slots := Zs, locals := 133 } : Room) s m args below meth c H locs cc cs Q (F0 m 19 ls []) := by
  intro z cc cs H locs ls h hG hP hD hS hl
  unfold lm_Equality_joinParts_1 at h
  refine lv_aload_n hx hb d_Equality_joinParts_19 rfl (lv_at hl 1 rfl) ?_
  refine va_get (D := (dC, dI)) (ci := 5) (v := .ref o_Heap) (C := R_Equality) (T := F_Equality) (N := 4) hx hb hg i_Equality hown hK hP 1 rfl rfl 0 (by decide) (hg _ k266) (fun _ h9 => h9) rfl d_Equality_joinParts_20 ?_
  refine va_get (D := (dC, dI)) (ci := 3) (v := .ref r_H_cells) (C := R_Heap) (T := F_Heap) (N := 20) hx hb hg i_Heap hown hK hP 0 rfl rfl 3 (by decide) (hg _ k267) (fun _ h9 => h9) rfl d_Equality_joinParts_23 ?_
  refine lv_iload_n hx hb d_Equality_joinParts_26 rfl (lv_at hl 2 rfl) ?_
  obtain ⟨i3, h⟩ := dz_oi h
  refine va_lald (D := (dC, dI)) hx hb hK hP 2 1 rfl rfl i3 d_Equality_joinParts_27 ?_
  obtain ⟨z4_1, hc4, h⟩ := dz_ob h
  try dsimp only at h
  have hPc := hP.sub (ws' := []) [] rfl
  have hKc := hK.sub (tys' := []) [] rfl
  refine vp_callSi (va_Run.run (va_runS (As := [.long (f_H_cells p0.toNatClampNeg)]) (rest := []) ⟨hx, hb, hml, hown, hg⟩ (c_Value_kind l dC dI N (f_H_cells p0.toNatClampNeg) z4_1 hc4) (va_cwS 1 hg (gd_S k268 k136 k122 k134) rfl rfl rfl (by decide +kernel) ⟨Nat.le_of_ble_eq_true rfl, Nat.le_of_ble_eq_true rfl⟩) ⟨dz_blindR, fun U hU hW => ⟨rfl, dz_Nw hW hN, by rw [hU]; exact hPc, va_K.moved hW.alike hKc⟩⟩ rfl rfl hl.1 rfl (lv_room (Nat.le_of_ble_eq_true rfl)) d_Equality_joinParts_28 ⟨dz_Gc hG, dz_Gs hG⟩)) (fun r4 hw => ?_)
  have hw : z4_1 = r4 := hw.symm
  subst hw
  refine lv_bipush (v := 6) hx hb d_Equality_joinParts_31 (by decide) ?_
  refine lv_icmp_ne (tgt := 40) hx hb d_Equality_joinParts_33 (by decide) (fun c5 => ?_) (fun c5 => ?_)
  · rw [if_neg c5] at h
    refine lv_iconst (v := 0) hx hb d_Equality_joinParts_40 (by decide) ?_
    exact hk1_41 (0 : Int32) _ _ _ _ _ _ h hG (hP.sub [0, 1, 2, 3, 4] rfl) (hD.sub [0, 1, 2, 3, 4] (by decide) rfl) hS (lv_sub hl [0, 1, 2, 3] rfl)
  · rw [if_pos c5] at h
    refine lv_iconst (v := 1) hx hb d_Equality_joinParts_36 (by decide) ?_
    refine lv_goto (tgt := 41) hx hb d_Equality_joinParts_37 (by decide) ?_
    exact hk1_41 (1 : Int32) _ _ _ _ _ _ h hG (hP.sub [0, 1, 2, 3, 4] rfl) (hD.sub [0, 1, 2, 3, 4] (by decide) rfl) hS (lv_sub hl [0, 1, 2, 3] rfl)
set_option maxHeartbeats 4000000 in
set_option maxRecDepth 100000 in
theorem l_Equality_joinParts_3 {p : Program} {l : Launch} {e : Env} {s : State} {m : MethodId} {args : Array Value} {below : List Frame} {meth : Method} {c : Code} {Q : State → Prop} {A : Nat → Prop} (dC : Nat → ClassId) (dI : Nat → Nat → Nat) (N : Nat) (cI : ClassId) (cL : ClassId) (o_Heap : Nat) (o_Stacks : Nat) (o_Equality : Nat) (r_H_globals : Nat) (r_H_cells : Nat) (r_H_spare : Nat) (r_H_keptGlobals : Nat) (r_H_keptCells : Nat) (r_Q_links : Nat) (H_globalsUsed : Int32) (H_used : Int32) (H_spareUsed : Int32) (H_old : Int32) (H_oldLeadsToNew : Int32) (H_limit : Int32) (H_every : Int32) (H_fresh : Int32) (H_made : Int32) (H_madeLimit : Int32) (H_reachedFromGlobals : Int32) (H_reachedInAll : Int32) (H_keptGlobalsUsed : Int32) (H_kept : Int32) (n_H_cells : Nat) (f_H_cells : Nat → Int64) (n_Q_links : Nat) (p0 : Int32) (p1 : Int32) (z2_1 : Int32) (y1_0 : Int32) (v2_6 : Int32) (v2_5 : Int32) {α : Type} {Z1 : α} {Zc Zs : Nat} (hx : p.tables.exec = Jvm.exec) (hb : c.code = b_Equality_joinParts) (hml : c.maxLocals = 11) (hown : s.vm.findClass R_Equality = some m.cls) (hg : ∀ w ∈ lw_g, w.before args s = true) (hN : dz_N s) (hK : va_K (dC, dI) classes [(cI, .int), (cL, .long)] s) (hA : ∀ q : Nat, s.heap.size ≤ q → A q) {k3_117 : (Nat → Int32) → Int32 → Nat → (Nat → Int64) → Int32 → Option (α × Nat × Nat)} (hk3_117 : ∀ (w3_f_f_Q_links : (Nat → Int32)) (w3_Q_size : Int32) (w3_n_f_Q_pairs : Nat) (w3_f_f_Q_pairs : (Nat → Int64)) (w3_a_f_Q_pairs : Nat) (y3_0 : Int32) (z : α × Nat × Nat) (cc cs : Nat) (H : Heap) (locs : List Loc) (ls : Array Slot), k3_117 w3_f_f_Q_links w3_Q_size w3_n_f_Q_pairs w3_f_f_Q_pairs y3_0 = some z → dz_G Z1 Zc Zs z cc cs → va_P (dC, dI) classes [(o_Heap, .inr (3, [.ref o_Stacks, .ref r_H_globals, .int H_globalsUsed, .ref r_H_cells, .int H_used, .ref r_H_spare, .int H_spareUsed, .int H_old, .int H_oldLeadsToNew, .int H_limit, .int H_every, .int H_fresh, .int H_made, .int H_madeLimit, .int H_reachedFromGlobals, .int H_reachedInAll, .ref r_H_keptGlobals, .int H_keptGlobalsUsed, .ref r_H_keptCells, .int H_kept])), (o_Equality, .inr (5, [.ref o_Heap, .ref r_Q_links, .ref w3_a_f_Q_pairs, .int w3_Q_size])), (r_H_cells, .inl (cL, n_H_cells, .inr (.inl f_H_cells))), (r_Q_links, .inl (cI, n_Q_links, .inl w3_f_f_Q_links)), (w3_a_f_Q_pairs, .inl (cL, w3_n_f_Q_pairs, .inr (.inl w3_f_f_Q_pairs)))] H → va_D A [(o_Heap, .inr (3, [.ref o_Stacks, .ref r_H_globals, .int H_globalsUsed, .ref r_H_cells, .int H_used, .ref r_H_spare, .int H_spareUsed, .int H_old, .int H_oldLeadsToNew, .int H_limit, .int H_every, .int H_fresh, .int H_made, .int H_madeLimit, .int H_reachedFromGlobals, .int H_reachedInAll, .ref r_H_keptGlobals, .int H_keptGlobalsUsed, .ref r_H_keptCells, .int H_kept])), (o_Equality, .inr (5, [.ref o_Heap, .ref r_Q_links, .ref w3_a_f_Q_pairs, .int w3_Q_size])), (r_H_cells, .inl (cL, n_H_cells, .inr (.inl f_H_cells))), (r_Q_links, .inl (cI, n_Q_links, .inl w3_f_f_Q_links)), (w3_a_f_Q_pairs, .inl (cL, w3_n_f_Q_pairs, .inr (.inl w3_f_f_Q_pairs)))] → va_S A s.heap H locs → lv_has ls 11 [(9, .long (f_H_cells (p1 + v2_6).toNatClampNeg)), (7, .long (f_H_cells (p0 + v2_6).toNatClampNeg)), (6, .int v2_6), (5, .int v2_5), (4, .int y1_0), (3, .int (z2_1 - 1)), (0, .ref o_Equality), (1, .int p0), (2, .int p1)] → W p l e ({ frames := 4, cells := Zc, slots := Zs, locals := 133 } : Room) s m args below meth c H locs cc cs Q (F0 m 117 ls [.int y3_0])) : ∀ (w3_f_f_Q_links : (Nat → Int32)) (w3_Q_size : Int32) (w3_n_f_Q_pairs : Nat) (w3_f_f_Q_pairs : (Nat → Int64)) (w3_a_f_Q_pairs : Nat) (z : α × Nat × Nat) (cc cs : Nat) (H : Heap) (locs : List Loc) (ls : Array Slot), lm_Equality_joinParts_3 N H_globalsUsed H_used H_spareUsed H_old H_oldLeadsToNew H_limit H_every H_fresh H_made H_madeLimit H_reachedFromGlobals H_reachedInAll H_keptGlobalsUsed H_kept n_H_cells f_H_cells n_Q_links p0 p1 y1_0 v2_6 k3_117 w3_f_f_Q_links w3_Q_size w3_n_f_Q_pairs w3_f_f_Q_pairs = some z → dz_G Z1 Zc Zs z cc cs → va_P (dC, dI) classes [(o_Heap, .inr (3, [.ref o_Stacks, .ref r_H_globals, .int H_globalsUsed, .ref r_H_cells, .int H_used, .ref r_H_spare, .int H_spareUsed, .int H_old, .int H_oldLeadsToNew, .int H_limit, .int H_every, .int H_fresh, .int H_made, .int H_madeLimit, .int H_reachedFromGlobals, .int H_reachedInAll, .ref r_H_keptGlobals, .int H_keptGlobalsUsed, .ref r_H_keptCells, .int H_kept])), (o_Equality, .inr (5, [.ref o_Heap, .ref r_Q_links, .ref w3_a_f_Q_pairs, .int w3_Q_size])), (r_H_cells, .inl (cL, n_H_cells, .inr (.inl f_H_cells))), (r_Q_links, .inl (cI, n_Q_links, .inl w3_f_f_Q_links)), (w3_a_f_Q_pairs, .inl (cL, w3_n_f_Q_pairs, .inr (.inl w3_f_f_Q_pairs)))] H → va_D A [(o_Heap, .inr (3, [.ref o_Stacks, .ref r_H_globals, .int H_globalsUsed, .ref r_H_cells, .int H_used, .ref r_H_spare, .int H_spareUsed, .int H_old, .int H_oldLeadsToNew, .int H_limit, .int H_every, .int H_fresh, .int H_made, .int H_madeLimit, .int H_reachedFromGlobals, .int H_reachedInAll, .ref r_H_keptGlobals, .int H_keptGlobalsUsed, .ref r_H_keptCells, .int H_kept])), (o_Equality, .inr (5, [.ref o_Heap, .ref r_Q_links, .ref w3_a_f_Q_pairs, .int w3_Q_size])), (r_H_cells, .inl (cL, n_H_cells, .inr (.inl f_H_cells))), (r_Q_links, .inl (cI, n_Q_links, .inl w3_f_f_Q_links)), (w3_a_f_Q_pairs, .inl (cL, w3_n_f_Q_pairs, .inr (.inl w3_f_f_Q_pairs)))] → va_S A s.heap H locs → lv_has ls 11 [(9, .long (f_H_cells (p1 + v2_6).toNatClampNeg)), (7, .long (f_H_cells (p0 + v2_6).toNatClampNeg)), (6, .int v2_6), (5, .int v2_5), (4, .int y1_0), (3, .int (z2_1 - 1)), (0, .ref o_Equality), (1, .int p0), (2, .int p1)] → W p l e ({ frames := 4, cells := Zc, slots := Zs, locals := 133 } : Room) s m args below meth c H locs cc cs Q (F0 m 88 ls []) := by
  intro w3_f_f_Q_links w3_Q_size w3_n_f_Q_pairs w3_f_f_Q_pairs w3_a_f_Q_pairs z cc cs H locs ls h hG hP hD hS hl
  unfold lm_Equality_joinParts_3 at h
  refine lv_iload hx hb d_Equality_joinParts_88 (lv_at hl 4 rfl) ?_
  refine lv_if_eq (tgt := 109) hx hb d_Equality_joinParts_90 (by decide) (fun c10 => ?_) (fun c10 => ?_)
  · rw [if_pos c10] at h
    refine lv_aload_n hx hb d_Equality_joinParts_109 rfl (lv_at hl 6 rfl) ?_
    refine lv_lload hx hb d_Equality_joinParts_110 (lv_at hl 1 rfl) ?_
    refine lv_lload hx hb d_Equality_joinParts_112 (lv_at hl 0 rfl) ?_
    obtain ⟨⟨⟨z11_1, z11_2, z11_3, z11_4, z11_5⟩, zc11, zs11⟩, hc11, h⟩ := dz_ob h
    try dsimp only at h
    obtain ⟨z, h, hG⟩ := dz_tkG h hG
    have hPc := hP.sub (ws' := [(o_Heap, .inr (3, [.ref o_Stacks, .ref r_H_globals, .int H_globalsUsed, .ref r_H_cells, .int H_used, .ref r_H_spare, .int H_spareUsed, .int H_old, .int H_oldLeadsToNew, .int H_limit, .int H_every, .int H_fresh, .int H_made, .int H_madeLimit, .int H_reachedFromGlobals, .int H_reachedInAll, .ref r_H_keptGlobals, .int H_keptGlobalsUsed, .ref r_H_keptCells, .int H_kept])), (o_Equality, .inr (5, [.ref o_Heap, .ref r_Q_links, .ref w3_a_f_Q_pairs, .int w3_Q_size])), (r_H_cells, .inl (cL, n_H_cells, .inr (.inl f_H_cells))), (r_Q_links, .inl (cI, n_Q_links, .inl w3_f_f_Q_links)), (w3_a_f_Q_pairs, .inl (cL, w3_n_f_Q_pairs, .inr (.inl w3_f_f_Q_pairs)))]) [0, 1, 2, 3, 4] rfl
    have hKc := hK.sub (tys' := [(cI, .int), (cL, .long)]) [0, 1] rfl
    have hDc := hD.sub (ws' := [(o_Heap, .inr (3, [.ref o_Stacks, .ref r_H_globals, .int H_globalsUsed, .ref r_H_cells, .int H_used, .ref r_H_spare, .int H_spareUsed, .int H_old, .int H_oldLeadsToNew, .int H_limit, .int H_every, .int H_fresh, .int H_made, .int H_madeLimit, .int H_reachedFromGlobals, .int H_reachedInAll, .ref r_H_keptGlobals, .int H_keptGlobalsUsed, .ref r_H_keptCells, .int H_kept])), (o_Equality, .inr (5, [.ref o_Heap, .ref r_Q_links, .ref w3_a_f_Q_pairs, .int w3_Q_size])), (r_H_cells, .inl (cL, n_H_cells, .inr (.inl f_H_cells))), (r_Q_links, .inl (cI, n_Q_links, .inl w3_f_f_Q_links)), (w3_a_f_Q_pairs, .inl (cL, w3_n_f_Q_pairs, .inr (.inl w3_f_f_Q_pairs)))]) [0, 1, 2, 3, 4] (by decide) rfl
    have hFc := va_free (wc := [(o_Heap, .inr (3, [.ref o_Stacks, .ref r_H_globals, .int H_globalsUsed, .ref r_H_cells, .int H_used, .ref r_H_spare, .int H_spareUsed, .int H_old, .int H_oldLeadsToNew, .int H_limit, .int H_every, .int H_fresh, .int H_made, .int H_madeLimit, .int H_reachedFromGlobals, .int H_reachedInAll, .ref r_H_keptGlobals, .int H_keptGlobalsUsed, .ref r_H_keptCells, .int H_kept])), (o_Equality, .inr (5, [.ref o_Heap, .ref r_Q_links, .ref w3_a_f_Q_pairs, .int w3_Q_size])), (r_H_cells, .inl (cL, n_H_cells, .inr (.inl f_H_cells))), (r_Q_links, .inl (cI, n_Q_links, .inl w3_f_f_Q_links)), (w3_a_f_Q_pairs, .inl (cL, w3_n_f_Q_pairs, .inr (.inl w3_f_f_Q_pairs)))]) hD hS hA [0, 1, 2, 3, 4] rfl
    refine va_calli (va_runV (As := [.long (f_H_cells (p0 + v2_6).toNatClampNeg), .long (f_H_cells (p1 + v2_6).toNatClampNeg)]) (rest := []) ⟨hx, hb, hml, hown, hg⟩ (c_Equality_join l dC dI N cI cL o_Heap o_Stacks o_Equality r_H_globals r_H_cells r_H_spare r_H_keptGlobals r_H_keptCells r_Q_links w3_a_f_Q_pairs H_globalsUsed H_used H_spareUsed H_old H_oldLeadsToNew H_limit H_every H_fresh H_made H_madeLimit H_reachedFromGlobals H_reachedInAll H_keptGlobalsUsed H_kept w3_Q_size n_H_cells f_H_cells n_Q_links w3_f_f_Q_links w3_n_f_Q_pairs w3_f_f_Q_pairs (f_H_cells (p0 + v2_6).toNatClampNeg) (f_H_cells (p1 + v2_6).toNatClampNeg) H.size (z11_1, z11_2, z11_3, z11_4, z11_5) zc11 zs11 hc11) (cwV 2 hg (gd_V k281 k282 k283 k274 k280) rfl rfl rfl (by decide +kernel) ⟨Nat.le_of_ble_eq_true rfl, Nat.le_of_ble_eq_true rfl⟩) ⟨dz_blind, va_recv hKc hPc (ci := 5) (q0 := 1) rfl rfl, fun U hU hW => ⟨rfl, dz_Nw hW hN, by rw [hU], by rw [hU]; exact hPc, va_K.moved hW.alike hKc, hDc.weaken (fun _ _ _ _ => trivial)⟩⟩ rfl rfl hl.1 rfl (lv_room (Nat.le_of_ble_eq_true rfl)) d_Equality_joinParts_114 ⟨dz_Gc hG, dz_Gs hG⟩) hS (fun q _ h => hFc q h) hFc (fun r11 u11 t11 H1 locs ht hvm hw hB hz1 hk1 hS => ?_)
    obtain ⟨a11_0, rfl⟩ : ∃ z, z = u11 := ⟨_, rfl⟩
    obtain ⟨hP1, hK1, hD1⟩ := hB
    rw [ht] at hP1
    obtain ⟨hP, hD⟩ := va_join (wr := []) (w1 := [(o_Heap, .inr (3, [.ref o_Stacks, .ref r_H_globals, .int H_globalsUsed, .ref r_H_cells, .int H_used, .ref r_H_spare, .int H_spareUsed, .int H_old, .int H_oldLeadsToNew, .int H_limit, .int H_every, .int H_fresh, .int H_made, .int H_madeLimit, .int H_reachedFromGlobals, .int H_reachedInAll, .ref r_H_keptGlobals, .int H_keptGlobalsUsed, .ref r_H_keptCells, .int H_kept])), (o_Equality, .inr (5, [.ref o_Heap, .ref r_Q_links, .ref a11_0, .int z11_3])), (r_H_cells, .inl (cL, n_H_cells, .inr (.inl f_H_cells))), (r_Q_links, .inl (cI, n_Q_links, .inl z11_2)), (a11_0, .inl (cL, z11_4, .inr (.inl z11_5)))]) hP hD [0, 1, 2, 3, 4] [] rfl rfl (by decide) (by decide) hk1 hFc hP1 hD1
    obtain ⟨hw, hbz11⟩ := hw
    have hw : z11_1 = r11 := hw.symm
    subst hw
    generalize H1 = H at hP hS ⊢
    have hP : va_P (dC, dI) classes [(o_Heap, .inr (3, [.ref o_Stacks, .ref r_H_globals, .int H_globalsUsed, .ref r_H_cells, .int H_used, .ref r_H_spare, .int H_spareUsed, .int H_old, .int H_oldLeadsToNew, .int H_limit, .int H_every, .int H_fresh, .int H_made, .int H_madeLimit, .int H_reachedFromGlobals, .int H_reachedInAll, .ref r_H_keptGlobals, .int H_keptGlobalsUsed, .ref r_H_keptCells, .int H_kept])), (o_Equality, .inr (5, [.ref o_Heap, .ref r_Q_links, .ref a11_0, .int z11_3])), (r_H_cells, .inl (cL, n_H_cells, .inr (.inl f_H_cells))), (r_Q_links, .inl (cI, n_Q_links, .inl z11_2)), (a11_0, .inl (cL, z11_4, .inr (.inl z11_5)))] H := hP
    have hD : va_D A [(o_Heap, .inr (3, [.ref o_Stacks, .ref r_H_globals, .int H_globalsUsed, .ref r_H_cells, .int H_used, .ref r_H_spare, .int H_spareUsed, .int H_old, .int H_oldLeadsToNew, .int H_limit, .int H_every, .int H_fresh, .int H_made, .int H_madeLimit, .int H_reachedFromGlobals, .int H_reachedInAll, .ref r_H_keptGlobals, .int H_keptGlobalsUsed, .ref r_H_keptCells, .int H_kept])), (o_Equality, .inr (5, [.ref o_Heap, .ref r_Q_links, .ref a11_0, .int z11_3])), (r_H_cells, .inl (cL, n_H_cells, .inr (.inl f_H_cells))), (r_Q_links, .inl (cI, n_Q_links, .inl z11_2)), (a11_0, .inl (cL, z11_4, .inr (.inl z11_5)))] := hD
    exact hk3_117 z11_2 z11_3 z11_4 z11_5 a11_0 z11_1 _ _ _ _ _ _ h hG (hP.sub [0, 1, 2, 3, 4] rfl) (hD.sub [0, 1, 2, 3, 4] (by decide) rfl) hS (lv_sub hl [0, 1, 2, 3, 4, 5, 6, 7, 8] rfl)
  · rw [if_neg c10] at h
    refine lv_lload hx hb d_Equality_joinParts_93 (lv_at hl 1 rfl) ?_
    refine lv_lload hx hb d_Equality_joinParts_95 (lv_at hl 0 rfl) ?_
    refine W.lcmp hx hb d_Equality_joinParts_97 ?_
    refine lv_if_ne (tgt := 105) hx hb d_Equality_joinParts_98 (by decide) (fun c12 => ?_) (fun c12 => ?_)
    · rw [if_neg c12] at h
      refine lv_iconst (v := 0) hx hb d_Equality_joinParts_105 (by decide) ?_
      refine lv_goto (tgt := 117) hx hb d_Equality_joinParts_106 (by decide) ?_
      exact hk3_117 w3_f_f_Q_links w3_Q_size w3_n_f_Q_pairs w3_f_f_Q_pairs w3_a_f_Q_pairs (0 : Int32) _ _ _ _ _ _ h hG (hP.sub [0, 1, 2, 3, 4] rfl) (hD.sub [0, 1, 2, 3, 4] (by decide) rfl) hS (lv_sub hl [0, 1, 2, 3, 4, 5, 6, 7, 8] rfl)
    · rw [if_pos c12] at h
      refine lv_iconst (v := 1) hx hb d_Equality_joinParts_101 (by decide) ?_
      refine lv_goto (tgt := 117) hx hb d_Equality_joinParts_102 (by decide) ?_
      exact hk3_117 w3_f_f_Q_links w3_Q_size w3_n_f_Q_pairs w3_f_f_Q_pairs w3_a_f_Q_pairs (1 : Int32) _ _ _ _ _ _ h hG (hP.sub [0, 1, 2, 3, 4] rfl) (hD.sub [0, 1, 2, 3, 4] (by decide) rfl) hS (lv_sub hl [0, 1, 2, 3, 4, 5, 6, 7, 8] rfl)
set_option maxHeartbeats 4000000 in
set_option maxRecDepth 100000 in
theorem l_Equality_joinParts_2 {p : Program} {l : Launch} {e : Env} {s : State} {m : MethodId} {args : Array Value} {below : List Frame} {meth : Method} {c : Code} {Q : State → Prop} {A : Nat → Prop} (dC : Nat → ClassId) (dI : Nat → Nat → Nat) (N : Nat) (cI : ClassId) (cL : ClassId) (o_Heap : Nat) (o_Stacks : Nat) (o_Equality : Nat) (r_H_globals : Nat) (r_H_cells : Nat) (r_H_spare : Nat) (r_H_keptGlobals : Nat) (r_H_keptCells : Nat) (r_Q_links : Nat) (H_globalsUsed : Int32) (H_used : Int32) (H_spareUsed : Int32) (H_old : Int32) (H_oldLeadsToNew : Int32) (H_limit : Int32) (H_every : Int32) (H_fresh : Int32) (H_made : Int32) (H_madeLimit : Int32) (H_reachedFromGlobals : Int32) (H_reachedInAll : Int32) (H_keptGlobalsUsed : Int32) (H_kept : Int32) (n_H_cells : Nat) (f_H_cells : Nat → Int64) (n_Q_links : Nat) (p0 : Int32) (p1 : Int32) (z2_1 : Int32) (y1_0 : Int32) {α : Type} {Z1 : α} {Zc Zs : Nat} (hx : p.tables.exec = Jvm.exec) (hb : c.code = b_Equality_joinParts) (hml : c.maxLocals = 11) (hown : s.vm.findClass R_Equality = some m.cls) (hg : ∀ w ∈ lw_g, w.before args s = true) (hN : dz_N s) (hK : va_K (dC, dI) classes [(cI, .int), (cL, .long)] s) (hA : ∀ q : Nat, s.heap.size ≤ q → A q) {k2_125 : Int32 → Int32 → (Nat → Int32) → Int32 → Nat → (Nat → Int64) → Option (α × Nat × Nat)} (hk2_125 : ∀ (v2_5 : Int32) (v2_6 : Int32) (w2_f_f_Q_links : (Nat → Int32)) (w2_Q_size : Int32) (w2_n_f_Q_pairs : Nat) (w2_f_f_Q_pairs : (Nat → Int64)) (w2_a_f_Q_pairs : Nat)  (z : α × Nat × Nat) (cc cs : Nat) (H : Heap) (locs : List Loc) (ls : Array Slot), k2_125 v2_5 v2_6 w2_f_f_Q_links w2_Q_size w2_n_f_Q_pairs w2_f_f_Q_pairs = some z → dz_G Z1 Zc Zs z cc cs → va_P (dC, dI) classes [(o_Heap, .inr (3, [.ref o_Stacks, .ref r_H_globals, .int H_globalsUsed, .ref r_H_cells, .int H_used, .ref r_H_spare, .int H_spareUsed, .int H_old, .int H_oldLeadsToNew, .int H_limit, .int H_every, .int H_fresh, .int H_made, .int H_madeLimit, .int H_reachedFromGlobals, .int H_reachedInAll, .ref r_H_keptGlobals, .int H_keptGlobalsUsed, .ref r_H_keptCells, .int H_kept])), (o_Equality, .inr (5, [.ref o_Heap, .ref r_Q_links, .ref w2_a_f_Q_pairs, .int w2_Q_size])), (r_H_cells, .inl (cL, n_H_cells, .inr (.inl f_H_cells))), (r_Q_links, .inl (cI, n_Q_links, .inl w2_f_f_Q_links)), (w2_a_f_Q_pairs, .inl (cL, w2_n_f_Q_pairs, .inr (.inl w2_f_f_Q_pairs)))] H → va_D A [(o_Heap, .inr (3, [.ref o_Stacks, .ref r_H_globals, .int H_globalsUsed, .ref r_H_cells, .int H_used, .ref r_H_spare, .int H_spareUsed, .int H_old, .int H_oldLeadsToNew, .int H_limit, .int H_every, .int H_fresh, .int H_made, .int H_madeLimit, .int H_reachedFromGlobals, .int H_reachedInAll, .ref r_H_keptGlobals, .int H_keptGlobalsUsed, .ref r_H_keptCells, .int H_kept])), (o_Equality, .inr (5, [.ref o_Heap, .ref r_Q_links, .ref w2_a_f_Q_pairs, .int w2_Q_size])), (r_H_cells, .inl (cL, n_H_cells, .inr (.inl f_H_cells))), (r_Q_links, .inl (cI, n_Q_links, .inl w2_f_f_Q_links)), (w2_a_f_Q_pairs, .inl (cL, w2_n_f_Q_pairs, .inr (.inl w2_f_f_Q_pairs)))] → va_S A s.heap H locs → lv_has ls 11 [(6, .int v2_6), (5, .int v2_5), (4, .int y1_0), (3, .int (z2_1 - 1)), (0, .ref o_Equality), (1, .int p0), (2, .int p1)] → W p l e ({ frames := 4, cells := Zc, slots := Zs, locals := 133 } : Room) s m args below meth c H locs cc cs Q (F0 m 125 ls [])) : ∀ (n2 : Nat) (v2_5 : Int32) (v2_6 : Int32) (w2_f_f_Q_links : (Nat → Int32)) (w2_Q_size : Int32) (w2_n_f_Q_pairs : Nat) (w2_f_f_Q_pairs : (Nat → Int64)) (w2_a_f_Q_pairs : Nat) (z : α × Nat × Nat) (cc cs : Nat) (H : Heap) (locs : List Loc) (ls : Array Slot), lm_Equality_joinParts_2 N H_globalsUsed H_used H_spareUsed H_old H_oldLeadsToNew H_limit H_every H_fresh H_made H_madeLimit H_reachedFromGlobals H_reachedInAll H_keptGlobalsUsed H_kept n_H_cells f_H_cells n_Q_links p0 p1 z2_1 y1_0 k2_125 n2 v2_5 v2_6 w2_f_f_Q_links w2_Q_size w2_n_f_Q_pairs w2_f_f_Q_pairs = some z → dz_G Z1 Zc Zs z cc cs → va_P (dC, dI) classes [(o_Heap, .inr (3, [.ref o_Stacks, .ref r_H_globals, .int H_globalsUsed, .ref r_H_cells, .int H_used, .ref r_H_spare, .int H_spareUsed, .int H_old, .int H_oldLeadsToNew, .int H_limit, .int H_every, .int H_fresh, .int H_made, .int H_madeLimit, .int H_reachedFromGlobals, .int H_reachedInAll, .ref r_H_keptGlobals, .int H_keptGlobalsUsed, .ref r_H_keptCells, .int H_kept])), (o_Equality, .inr (5, [.ref o_Heap, .ref r_Q_links, .ref w2_a_f_Q_pairs, .int w2_Q_size])), (r_H_cells, .inl (cL, n_H_cells, .inr (.inl f_H_cells))), (r_Q_links, .inl (cI, n_Q_links, .inl w2_f_f_Q_links)), (w2_a_f_Q_pairs, .inl (cL, w2_n_f_Q_pairs, .inr (.inl w2_f_f_Q_pairs)))] H → va_D A [(o_Heap, .inr (3, [.ref o_Stacks, .ref r_H_globals, .int H_globalsUsed, .ref r_H_cells, .int H_used, .ref r_H_spare, .int H_spareUsed, .int H_old, .int H_oldLeadsToNew, .int H_limit, .int H_every, .int H_fresh, .int H_made, .int H_madeLimit, .int H_reachedFromGlobals, .int H_reachedInAll, .ref r_H_keptGlobals, .int H_keptGlobalsUsed, .ref r_H_keptCells, .int H_kept])), (o_Equality, .inr (5, [.ref o_Heap, .ref r_Q_links, .ref w2_a_f_Q_pairs, .int w2_Q_size])), (r_H_cells, .inl (cL, n_H_cells, .inr (.inl f_H_cells))), (r_Q_links, .inl (cI, n_Q_links, .inl w2_f_f_Q_links)), (w2_a_f_Q_pairs, .inl (cL, w2_n_f_Q_pairs, .inr (.inl w2_f_f_Q_pairs)))] → va_S A s.heap H locs → lv_has ls 11 [(6, .int v2_6), (5, .int v2_5), (4, .int y1_0), (3, .int (z2_1 - 1)), (0, .ref o_Equality), (1, .int p0), (2, .int p1)] → W p l e ({ frames := 4, cells := Zc, slots := Zs, locals := 133 } : Room) s m args below meth c H locs cc cs Q (F0 m 49 ls []) := by
  intro n2
  induction n2 with
  | zero =>
    intro v2_5 v2_6 w2_f_f_Q_links w2_Q_size w2_n_f_Q_pairs w2_f_f_Q_pairs w2_a_f_Q_pairs z cc cs H locs ls h hG hP hD hS hl
    rw [lm_Equality_joinParts_2] at h
    cases h
  | succ n2 ih2 =>
    intro v2_5 v2_6 w2_f_f_Q_links w2_Q_size w2_n_f_Q_pairs w2_f_f_Q_pairs w2_a_f_Q_pairs z cc cs H locs ls h hG hP hD hS hl
    rw [lm_Equality_joinParts_2] at h
    refine lv_iload hx hb d_Equality_joinParts_49 (lv_at hl 0 rfl) ?_
    refine lv_iload_n hx hb d_Equality_joinParts_51 rfl (lv_at hl 3 rfl) ?_
    refine lv_icmp_gt (tgt := 125) hx hb d_Equality_joinParts_52 (by decide) (fun c6 => ?_) (fun c6 => ?_)
    · rw [if_pos c6] at h
      exact hk2_125 v2_5 v2_6 w2_f_f_Q_links w2_Q_size w2_n_f_Q_pairs w2_f_f_Q_pairs w2_a_f_Q_pairs _ _ _ _ _ _ h hG (hP.sub [0, 1, 2, 3, 4] rfl) (hD.sub [0, 1, 2, 3, 4] (by decide) rfl) hS (lv_sub hl [0, 1, 2, 3, 4, 5, 6] rfl)
    · rw [if_neg c6] at h
      refine lv_iload hx hb d_Equality_joinParts_55 (lv_at hl 1 rfl) ?_
      refine lv_if_eq (tgt := 125) hx hb d_Equality_joinParts_57 (by decide) (fun c7 => ?_) (fun c7 => ?_)
      · rw [if_pos c7] at h
        exact hk2_125 v2_5 v2_6 w2_f_f_Q_links w2_Q_size w2_n_f_Q_pairs w2_f_f_Q_pairs w2_a_f_Q_pairs _ _ _ _ _ _ h hG (hP.sub [0, 1, 2, 3, 4] rfl) (hD.sub [0, 1, 2, 3, 4] (by decide) rfl) hS (lv_sub hl [0, 1, 2, 3, 4, 5, 6] rfl)
      · rw [if_neg c7] at h
        refine lv_aload_n hx hb d_Equality_joinParts_60 rfl (lv_at hl 4 rfl) ?_
        refine va_get (D := (dC, dI)) (ci := 5) (v := .ref o_Heap) (C := R_Equality) (T := F_Equality) (N := 4) hx hb hg i_Equality hown hK hP 1 rfl rfl 0 (by decide) (hg _ k266) (fun _ h9 => h9) rfl d_Equality_joinParts_61 ?_
        refine va_get (D := (dC, dI)) (ci := 3) (v := .ref r_H_cells) (C := R_Heap) (T := F_Heap) (N := 20) hx hb hg i_Heap hown hK hP 0 rfl rfl 3 (by decide) (hg _ k267) (fun _ h9 => h9) rfl d_Equality_joinParts_64 ?_
        refine lv_iload_n hx hb d_Equality_joinParts_67 rfl (lv_at hl 5 rfl) ?_
        refine lv_iload hx hb d_Equality_joinParts_68 (lv_at hl 0 rfl) ?_
        refine lv_iadd hx hb d_Equality_joinParts_70 ?_
        obtain ⟨i8, h⟩ := dz_oi h
        refine va_lald (D := (dC, dI)) hx hb hK hP 2 1 rfl rfl i8 d_Equality_joinParts_71 ?_
        refine lv_lstore (lv' := [(7, .long (f_H_cells (p0 + v2_6).toNatClampNeg)), (6, .int v2_6), (5, .int v2_5), (4, .int y1_0), (3, .int (z2_1 - 1)), (0, .ref o_Equality), (1, .int p0), (2, .int p1)]) hx hb d_Equality_joinParts_72 hl (by decide) rfl (fun ls hl => ?_)
        refine lv_aload_n hx hb d_Equality_joinParts_74 rfl (lv_at hl 5 rfl) ?_
        refine va_get (D := (dC, dI)) (ci := 5) (v := .ref o_Heap) (C := R_Equality) (T := F_Equality) (N := 4) hx hb hg i_Equality hown hK hP 1 rfl rfl 0 (by decide) (hg _ k266) (fun _ h9 => h9) rfl d_Equality_joinParts_75 ?_
        refine va_get (D := (dC, dI)) (ci := 3) (v := .ref r_H_cells) (C := R_Heap) (T := F_Heap) (N := 20) hx hb hg i_Heap hown hK hP 0 rfl rfl 3 (by decide) (hg _ k267) (fun _ h9 => h9) rfl d_Equality_joinParts_78 ?_
        refine lv_iload_n hx hb d_Equality_joinParts_81 rfl (lv_at hl 7 rfl) ?_
        refine lv_iload hx hb d_Equality_joinParts_82 (lv_at hl 1 rfl) ?_
        refine lv_iadd hx hb d_Equality_joinParts_84 ?_
        obtain ⟨i9, h⟩ := dz_oi h
        refine va_lald (D := (dC, dI)) hx hb hK hP 2 1 rfl rfl i9 d_Equality_joinParts_85 ?_
        refine lv_lstore (lv' := [(9, .long (f_H_cells (p1 + v2_6).toNatClampNeg)), (7, .long (f_H_cells (p0 + v2_6).toNatClampNeg)), (6, .int v2_6), (5, .int v2_5), (4, .int y1_0), (3, .int (z2_1 - 1)), (0, .ref o_Equality), (1, .int p0), (2, .int p1)]) hx hb d_Equality_joinParts_86 hl (by decide) rfl (fun ls hl => ?_)
        refine l_Equality_joinParts_3 dC dI N cI cL o_Heap o_Stacks o_Equality r_H_globals r_H_cells r_H_spare r_H_keptGlobals r_H_keptCells r_Q_links H_globalsUsed H_used H_spareUsed H_old H_oldLeadsToNew H_limit H_every H_fresh H_made H_madeLimit H_reachedFromGlobals H_reachedInAll H_keptGlobalsUsed H_kept n_H_cells f_H_cells n_Q_links p0 p1 z2_1 y1_0 v2_6 v2_5 hx hb hml hown hg hN hK hA (fun w3_f_f_Q_links w3_Q_size w3_n_f_Q_pairs w3_f_f_Q_pairs w3_a_f_Q_pairs y3_0 z cc cs H locs ls h hG hP hD hS hl => ?_) w2_f_f_Q_links w2_Q_size w2_n_f_Q_pairs w2_f_f_Q_pairs w2_a_f_Q_pairs _ _ _ _ _ _ h hG (hP.sub [0, 1, 2, 3, 4] rfl) (hD.sub [0, 1, 2, 3, 4] (by decide) rfl) hS (lv_sub hl [0, 1, 2, 3, 4, 5, 6, 7, 8] rfl)
        refine lv_istore (lv' := [(5, .int y3_0), (9, .long (f_H_cells (p1 + v2_6).toNatClampNeg)), (7, .long (f_H_cells (p0 + v2_6).toNatClampNeg)), (6, .int v2_6), (4, .int y1_0), (3, .int (z2_1 - 1)), (0, .ref o_Equality), (1, .int p0), (2, .int p1)]) hx hb d_Equality_joinParts_117 hl (by decide) rfl (fun ls hl => ?_)
        refine lv_iinc (v := v2_6 + 1) (lv' := [(6, .int (v2_6 + 1)), (5, .int y3_0), (9, .long (f_H_cells (p1 + v2_6).toNatClampNeg)), (7, .long (f_H_cells (p0 + v2_6).toNatClampNeg)), (4, .int y1_0), (3, .int (z2_1 - 1)), (0, .ref o_Equality), (1, .int p0), (2, .int p1)]) hx hb d_Equality_joinParts_119 hl (k := 3) rfl rfl (by decide) rfl (fun ls hl => ?_)
        refine lv_goto (tgt := 49) hx hb d_Equality_joinParts_122 (by decide) ?_
        exact ih2 y3_0 (v2_6 + 1) w3_f_f_Q_links w3_Q_size w3_n_f_Q_pairs w3_f_f_Q_pairs w3_a_f_Q_pairs _ _ _ _ _ _ h hG (hP.sub [0, 1, 2, 3, 4] rfl) (hD.sub [0, 1, 2, 3, 4] (by decide) rfl) hS (lv_sub hl [0, 1, 4, 5, 6, 7, 8] rfl)
set_option maxHeartbeats 4000000 in
set_option maxRecDepth 100000 in
theorem c_Equality_joinParts (l : Launch) (dC : Nat → ClassId) (dI : Nat → Nat → Nat) (N : Nat) (cI : ClassId) (cL : ClassId) (o_Heap : Nat) (o_Stacks : Nat) (o_Equality : Nat) (r_H_globals : Nat) (r_H_cells : Nat) (r_H_spare : Nat) (r_H_keptGlobals : Nat) (r_H_keptCells : Nat) (r_Q_links : Nat) (r_Q_pairs : Nat) (H_globalsUsed : Int32) (H_used : Int32) (H_spareUsed : Int32) (H_old : Int32) (H_oldLeadsToNew : Int32) (H_limit : Int32) (H_every : Int32) (H_fresh : Int32) (H_made : Int32) (H_madeLimit : Int32) (H_reachedFromGlobals : Int32) (H_reachedInAll : Int32) (H_keptGlobalsUsed : Int32) (H_kept : Int32) (Q_size : Int32) (n_H_cells : Nat) (f_H_cells : Nat → Int64) (n_Q_links : Nat) (f_Q_links : Nat → Int32) (n_Q_pairs : Nat) (f_Q_pairs : Nat → Int64) (p0 : Int32) (p1 : Int32) (sz : Nat) (Z1 : Int32 × (Nat → Int32) × Int32 × Nat × (Nat → Int64)) (Zc Zs : Nat) (h : m_Equality_joinParts N H_globalsUsed H_used H_spareUsed H_old H_oldLeadsToNew H_limit H_every H_fresh H_made H_madeLimit H_reachedFromGlobals H_reachedInAll H_keptGlobalsUsed H_kept Q_size n_H_cells f_H_cells n_Q_links f_Q_links n_Q_pairs f_Q_pairs p0 p1 = some (Z1, Zc, Zs)) : Met l y_Equality_joinParts (.code y_Equality_joinParts b_Equality_joinParts 11 (some .boolean) :: lw_g) ({ frames := 4, cells := Zc, slots := Zs, locals := 133 }) (va_Pc [.ref o_Equality, .int p0, .int p1] (fun U => dz_N U ∧ U.heap.size = sz ∧ va_P (dC, dI) classes [(o_Heap, .inr (3, [.ref o_Stacks, .ref r_H_globals, .int H_globalsUsed, .ref r_H_cells, .int H_used, .ref r_H_spare, .int H_spareUsed, .int H_old, .int H_oldLeadsToNew, .int H_limit, .int H_every, .int H_fresh, .int H_made, .int H_madeLimit, .int H_reachedFromGlobals, .int H_reachedInAll, .ref r_H_keptGlobals, .int H_keptGlobalsUsed, .ref r_H_keptCells, .int H_kept])), (o_Equality, .inr (5, [.ref o_Heap, .ref r_Q_links, .ref r_Q_pairs, .int Q_size])), (r_H_cells, .inl (cL, n_H_cells, .inr (.inl f_H_cells))), (r_Q_links, .inl (cI, n_Q_links, .inl f_Q_links)), (r_Q_pairs, .inl (cL, n_Q_pairs, .inr (.inl f_Q_pairs)))] U.heap ∧ va_K (dC, dI) classes [(cI, .int), (cL, .long)] U ∧ va_D (fun _ => True) [(o_Heap, .inr (3, [.ref o_Stacks, .ref r_H_globals, .int H_globalsUsed, .ref r_H_cells, .int H_used, .ref r_H_spare, .int H_spareUsed, .int H_old, .int H_oldLeadsToNew, .int H_limit, .int H_every, .int H_fresh, .int H_made, .int H_madeLimit, .int H_reachedFromGlobals, .int H_reachedInAll, .ref r_H_keptGlobals, .int H_keptGlobalsUsed, .ref r_H_keptCells, .int H_kept])), (o_Equality, .inr (5, [.ref o_Heap, .ref r_Q_links, .ref r_Q_pairs, .int Q_size])), (r_H_cells, .inl (cL, n_H_cells, .inr (.inl f_H_cells))), (r_Q_links, .inl (cI, n_Q_links, .inl f_Q_links)), (r_Q_pairs, .inl (cL, n_Q_pairs, .inr (.inl f_Q_pairs)))])) (va_Qi (fun (r : Int32) (_ : Nat) => r = Z1.1 ∧ narrow .boolean (.int Z1.1) = .int Z1.1 ∧ fits .boolean (.int Z1.1) = true) (fun (u : Nat) t => va_P (dC, dI) classes [(o_Heap, .inr (3, [.ref o_Stacks, .ref r_H_globals, .int H_globalsUsed, .ref r_H_cells, .int H_used, .ref r_H_spare, .int H_spareUsed, .int H_old, .int H_oldLeadsToNew, .int H_limit, .int H_every, .int H_fresh, .int H_made, .int H_madeLimit, .int H_reachedFromGlobals, .int H_reachedInAll, .ref r_H_keptGlobals, .int H_keptGlobalsUsed, .ref r_H_keptCells, .int H_kept])), (o_Equality, .inr (5, [.ref o_Heap, .ref r_Q_links, .ref u, .int Z1.2.2.1])), (r_H_cells, .inl (cL, n_H_cells, .inr (.inl f_H_cells))), (r_Q_links, .inl (cI, n_Q_links, .inl Z1.2.1)), (u, .inl (cL, Z1.2.2.2.1, .inr (.inl Z1.2.2.2.2)))] t.heap ∧ va_K (dC, dI) classes [(cI, .int), (cL, .long)] t ∧ va_D (va_A [(o_Heap, .inr (3, [.ref o_Stacks, .ref r_H_globals, .int H_globalsUsed, .ref r_H_cells, .int H_used, .ref r_H_spare, .int H_spareUsed, .int H_old, .int H_oldLeadsToNew, .int H_limit, .int H_every, .int H_fresh, .int H_made, .int H_madeLimit, .int H_reachedFromGlobals, .int H_reachedInAll, .ref r_H_keptGlobals, .int H_keptGlobalsUsed, .ref r_H_keptCells, .int H_kept])), (o_Equality, .inr (5, [.ref o_Heap, .ref r_Q_links, .ref r_Q_pairs, .int Q_size])), (r_H_cells, .inl (cL, n_H_cells, .inr (.inl f_H_cells))), (r_Q_links, .inl (cI, n_Q_links, .inl f_Q_links)), (r_Q_pairs, .inl (cL, n_Q_pairs, .inr (.inl f_Q_pairs)))] sz) [(o_Heap, .inr (3, [.ref o_Stacks, .ref r_H_globals, .int H_globalsUsed, .ref r_H_cells, .int H_used, .ref r_H_spare, .int H_spareUsed, .int H_old, .int H_oldLeadsToNew, .int H_limit, .int H_every, .int H_fresh, .int H_made, .int H_madeLimit, .int H_reachedFromGlobals, .int H_reachedInAll, .ref r_H_keptGlobals, .int H_keptGlobalsUsed, .ref r_H_keptCells, .int H_kept])), (o_Equality, .inr (5, [.ref o_Heap, .ref r_Q_links, .ref u, .int Z1.2.2.1])), (r_H_cells, .inl (cL, n_H_cells, .inr (.inl f_H_cells))), (r_Q_links, .inl (cI, n_Q_links, .inl Z1.2.1)), (u, .inl (cL, Z1.2.2.2.1, .inr (.inl Z1.2.2.2.2)))]) (va_A [(o_Heap, .inr (3, [.ref o_Stacks, .ref r_H_globals, .int H_globalsUsed, .ref r_H_cells, .int H_used, .ref r_H_spare, .int H_spareUsed, .int H_old, .int H_oldLeadsToNew, .int H_limit, .int H_every, .int H_fresh, .int H_made, .int H_madeLimit, .int H_reachedFromGlobals, .int H_reachedInAll, .ref r_H_keptGlobals, .int H_keptGlobalsUsed, .ref r_H_keptCells, .int H_kept])), (o_Equality, .inr (5, [.ref o_Heap, .ref r_Q_links, .ref r_Q_pairs, .int Q_size])), (r_H_cells, .inl (cL, n_H_cells, .inr (.inl f_H_cells))), (r_Q_links, .inl (cI, n_Q_links, .inl f_Q_links)), (r_Q_pairs, .inl (cL, n_Q_pairs, .inr (.inl f_Q_pairs)))] sz)) Zc Zs (va_A [(o_Heap, .inr (3, [.ref o_Stacks, .ref r_H_globals, .int H_globalsUsed, .ref r_H_cells, .int H_used, .ref r_H_spare, .int H_spareUsed, .int H_old, .int H_oldLeadsToNew, .int H_limit, .int H_every, .int H_fresh, .int H_made, .int H_madeLimit, .int H_reachedFromGlobals, .int H_reachedInAll, .ref r_H_keptGlobals, .int H_keptGlobalsUsed, .ref r_H_keptCells, .int H_kept])), (o_Equality, .inr (5, [.ref o_Heap, .ref r_Q_links, .ref r_Q_pairs, .int Q_size])), (r_H_cells, .inl (cL, n_H_cells, .inr (.inl f_H_cells))), (r_Q_links, .inl (cI, n_Q_links, .inl f_Q_links)), (r_Q_pairs, .inl (cL, n_Q_pairs, .inr (.inl f_Q_pairs)))] sz) := by
  refine Met.ofW (cc := b_Equality_joinParts) (maxL := 11) (ret := (some .boolean)) (by decide +kernel) rfl ?_
  intro p e s m args below meth c s₁ B hml hv
  obtain ⟨rfl, hN, hsz, hP, hK, hD0⟩ := hv
  have hx := B.exec
  have hb := B.bytes
  have hr := B.returns
  have hg : ∀ w ∈ lw_g, w.before _ s = true := fun w hw => atoms_spec (ws := .code y_Equality_joinParts b_Equality_joinParts 11 (some .boolean) :: lw_g) B.pre w (List.mem_cons_of_mem _ hw)
  have hown : s.vm.findClass R_Equality = some m.cls := findClass_of_methodNamed B.named
  have hlocks := B.notSynchronized
  clear B
  subst hsz
  have hD := hD0.self (sz := s.heap.size)
  generalize hAe : va_A [(o_Heap, .inr (3, [.ref o_Stacks, .ref r_H_globals, .int H_globalsUsed, .ref r_H_cells, .int H_used, .ref r_H_spare, .int H_spareUsed, .int H_old, .int H_oldLeadsToNew, .int H_limit, .int H_every, .int H_fresh, .int H_made, .int H_madeLimit, .int H_reachedFromGlobals, .int H_reachedInAll, .ref r_H_keptGlobals, .int H_keptGlobalsUsed, .ref r_H_keptCells, .int H_kept])), (o_Equality, .inr (5, [.ref o_Heap, .ref r_Q_links, .ref r_Q_pairs, .int Q_size])), (r_H_cells, .inl (cL, n_H_cells, .inr (.inl f_H_cells))), (r_Q_links, .inl (cI, n_Q_links, .inl f_Q_links)), (r_Q_pairs, .inl (cL, n_Q_pairs, .inr (.inl f_Q_pairs)))] s.heap.size = A at hD ⊢
  have hA : ∀ q : Nat, s.heap.size ≤ q → A q := fun q h => by rw [← hAe]; exact Or.inr h
  have hS : va_S A s.heap s.heap [] := va_S.rf
  have hP : va_P (dC, dI) classes [(o_Heap, .inr (3, [.ref o_Stacks, .ref r_H_globals, .int H_globalsUsed, .ref r_H_cells, .int H_used, .ref r_H_spare, .int H_spareUsed, .int H_old, .int H_oldLeadsToNew, .int H_limit, .int H_every, .int H_fresh, .int H_made, .int H_madeLimit, .int H_reachedFromGlobals, .int H_reachedInAll, .ref r_H_keptGlobals, .int H_keptGlobalsUsed, .ref r_H_keptCells, .int H_kept])), (o_Equality, .inr (5, [.ref o_Heap, .ref r_Q_links, .ref r_Q_pairs, .int Q_size])), (r_H_cells, .inl (cL, n_H_cells, .inr (.inl f_H_cells))), (r_Q_links, .inl (cI, n_Q_links, .inl f_Q_links)), (r_Q_pairs, .inl (cL, n_Q_pairs, .inr (.inl f_Q_pairs)))] s.heap := hP
  have hl := lv_entry ([.ref o_Equality, .int p0, .int p1]) (n := 11) (Nat.le_of_ble_eq_true rfl)
  rw [lg_entry_eq]
  generalize (lg_sl ([.ref o_Equality, .int p0, .int p1]) ++ List.replicate (11 - (lg_sl ([.ref o_Equality, .int p0, .int p1])).length) Slot.unset).toArray = ls at hl ⊢
  have hl : lv_has ls 11 [(0, .ref o_Equality), (1, .int p0), (2, .int p1)] := hl
  unfold m_Equality_joinParts at h
  have hG : dz_G Z1 Zc Zs (Z1, Zc, Zs) 0 0 := ⟨rfl, (Nat.zero_add _).symm, (Nat.zero_add _).symm⟩
  generalize (Z1, Zc, Zs) = z at h hG
  refine lv_aload_n hx hb d_Equality_joinParts_0 rfl (lv_at hl 0 rfl) ?_
  refine va_get (D := (dC, dI)) (ci := 5) (v := .ref o_Heap) (C := R_Equality) (T := F_Equality) (N := 4) hx hb hg i_Equality hown hK hP 1 rfl rfl 0 (by decide) (hg _ k266) (fun _ h9 => h9) rfl d_Equality_joinParts_1 ?_
  refine lv_aload_n hx hb d_Equality_joinParts_4 rfl (lv_at hl 0 rfl) ?_
  refine va_get (D := (dC, dI)) (ci := 5) (v := .ref o_Heap) (C := R_Equality) (T := F_Equality) (N := 4) hx hb hg i_Equality hown hK hP 1 rfl rfl 0 (by decide) (hg _ k266) (fun _ h9 => h9) rfl d_Equality_joinParts_5 ?_
  refine va_get (D := (dC, dI)) (ci := 3) (v := .ref r_H_cells) (C := R_Heap) (T := F_Heap) (N := 20) hx hb hg i_Heap hown hK hP 0 rfl rfl 3 (by decide) (hg _ k267) (fun _ h9 => h9) rfl d_Equality_joinParts_8 ?_
  refine lv_iload_n hx hb d_Equality_joinParts_11 rfl (lv_at hl 1 rfl) ?_
  obtain ⟨i1, h⟩ := dz_oi h
  refine va_lald (D := (dC, dI)) hx hb hK hP 2 1 rfl rfl i1 d_Equality_joinParts_12 ?_
  obtain ⟨z2_1, hc2, h⟩ := dz_ob h
  try dsimp only at h
  have hPc := hP.sub (ws' := [(o_Heap, .inr (3, [.ref o_Stacks, .ref r_H_globals, .int H_globalsUsed, .ref r_H_cells, .int H_used, .ref r_H_spare, .int H_spareUsed, .int H_old, .int H_oldLeadsToNew, .int H_limit, .int H_every, .int H_fresh, .int H_made, .int H_madeLimit, .int H_reachedFromGlobals, .int H_reachedInAll, .ref r_H_keptGlobals, .int H_keptGlobalsUsed, .ref r_H_keptCells, .int H_kept]))]) [0] rfl
  have hKc := hK.sub (tys' := []) [] rfl
  refine vp_callSi (va_Run.run (va_runV (As := [.long (f_H_cells p0.toNatClampNeg)]) (rest := []) ⟨hx, hb, hml, hown, hg⟩ (c_Heap_sizeOf l dC dI N o_Heap o_Stacks r_H_globals r_H_cells r_H_spare r_H_keptGlobals r_H_keptCells H_globalsUsed H_used H_spareUsed H_old H_oldLeadsToNew H_limit H_every H_fresh H_made H_madeLimit H_reachedFromGlobals H_reachedInAll H_keptGlobalsUsed H_kept (f_H_cells p0.toNatClampNeg) z2_1 hc2) (cwV 1 hg (gd_V k279 k142 k143 k130 k140) rfl rfl rfl (by decide +kernel) ⟨Nat.le_of_ble_eq_true rfl, Nat.le_of_ble_eq_true rfl⟩) ⟨dz_blindR, va_recv hKc hPc (ci := 3) (q0 := 0) rfl rfl, fun U hU hW => ⟨rfl, dz_Nw hW hN, by rw [hU]; exact hPc, va_K.moved hW.alike hKc⟩⟩ rfl rfl hl.1 rfl (lv_room (Nat.le_of_ble_eq_true rfl)) d_Equality_joinParts_13 ⟨dz_Gc hG, dz_Gs hG⟩)) (fun r2 hw => ?_)
  have hw : z2_1 = r2 := hw.symm
  subst hw
  refine lv_iconst (v := 1) hx hb d_Equality_joinParts_16 (by decide) ?_
  refine lv_isub hx hb d_Equality_joinParts_17 ?_
  refine lv_istore_n (lv' := [(3, .int (z2_1 - 1)), (0, .ref o_Equality), (1, .int p0), (2, .int p1)]) hx hb d_Equality_joinParts_18 rfl hl (by decide) rfl (fun ls hl => ?_)
  refine l_Equality_joinParts_1 dC dI N cI cL o_Heap o_Stacks o_Equality r_H_globals r_H_cells r_H_spare r_H_keptGlobals r_H_keptCells r_Q_links r_Q_pairs H_globalsUsed H_used H_spareUsed H_old H_oldLeadsToNew H_limit H_every H_fresh H_made H_madeLimit H_reachedFromGlobals H_reachedInAll H_keptGlobalsUsed H_kept Q_size n_H_cells f_H_cells n_Q_links f_Q_links n_Q_pairs f_Q_pairs p0 p1 z2_1 hx hb hml hown hg hN hK hA (fun y1_0 z cc cs H locs ls h hG hP hD hS hl => ?_)  _ _ _ _ _ _ h hG (hP.sub [0, 1, 2, 3, 4] rfl) (hD.sub [0, 1, 2, 3, 4] (by decide) rfl) hS (lv_sub hl [0, 1, 2, 3] rfl)
  refine lv_istore (lv' := [(4, .int y1_0), (3, .int (z2_1 - 1)), (0, .ref o_Equality), (1, .int p0), (2, .int p1)]) hx hb d_Equality_joinParts_41 hl (by decide) rfl (fun ls hl => ?_)
  refine lv_iconst (v := 1) hx hb d_Equality_joinParts_43 (by decide) ?_
  refine lv_istore (lv' := [(5, .int 1), (4, .int y1_0), (3, .int (z2_1 - 1)), (0, .ref o_Equality), (1, .int p0), (2, .int p1)]) hx hb d_Equality_joinParts_44 hl (by decide) rfl (fun ls hl => ?_)
  refine lv_iconst (v := 1) hx hb d_Equality_joinParts_46 (by decide) ?_
  refine lv_istore (lv' := [(6, .int 1), (5, .int 1), (4, .int y1_0), (3, .int (z2_1 - 1)), (0, .ref o_Equality), (1, .int p0), (2, .int p1)]) hx hb d_Equality_joinParts_47 hl (by decide) rfl (fun ls hl => ?_)
  refine l_Equality_joinParts_2 dC dI N cI cL o_Heap o_Stacks o_Equality r_H_globals r_H_cells r_H_spare r_H_keptGlobals r_H_keptCells r_Q_links H_globalsUsed H_used H_spareUsed H_old H_oldLeadsToNew H_limit H_every H_fresh H_made H_madeLimit H_reachedFromGlobals H_reachedInAll H_keptGlobalsUsed H_kept n_H_cells f_H_cells n_Q_links p0 p1 z2_1 y1_0 hx hb hml hown hg hN hK hA (fun v2_5 v2_6 w2_f_f_Q_links w2_Q_size w2_n_f_Q_pairs w2_f_f_Q_pairs w2_a_f_Q_pairs z cc cs H locs ls h hG hP hD hS hl => ?_) N (1 : Int32) (1 : Int32) f_Q_links Q_size n_Q_pairs f_Q_pairs r_Q_pairs _ _ _ _ _ _ h hG (hP.sub [0, 1, 2, 3, 4] rfl) (hD.sub [0, 1, 2, 3, 4] (by decide) rfl) hS (lv_sub hl [0, 1, 2, 3, 4, 5, 6] rfl)
  refine lv_iload hx hb d_Equality_joinParts_125 (lv_at hl 1 rfl) ?_
  obtain ⟨i13, h⟩ := dz_oi h
  have hbz13 := dz_bool i13
  obtain rfl := Option.some.inj h
  have hP9 := hP.sub (ws' := [(o_Heap, .inr (3, [.ref o_Stacks, .ref r_H_globals, .int H_globalsUsed, .ref r_H_cells, .int H_used, .ref r_H_spare, .int H_spareUsed, .int H_old, .int H_oldLeadsToNew, .int H_limit, .int H_every, .int H_fresh, .int H_made, .int H_madeLimit, .int H_reachedFromGlobals, .int H_reachedInAll, .ref r_H_keptGlobals, .int H_keptGlobalsUsed, .ref r_H_keptCells, .int H_kept])), (o_Equality, .inr (5, [.ref o_Heap, .ref r_Q_links, .ref w2_a_f_Q_pairs, .int w2_Q_size])), (r_H_cells, .inl (cL, n_H_cells, .inr (.inl f_H_cells))), (r_Q_links, .inl (cI, n_Q_links, .inl w2_f_f_Q_links)), (w2_a_f_Q_pairs, .inl (cL, w2_n_f_Q_pairs, .inr (.inl w2_f_f_Q_pairs)))]) [0, 1, 2, 3, 4] rfl
  have hD9 := hD.sub (ws' := [(o_Heap, .inr (3, [.ref o_Stacks, .ref r_H_globals, .int H_globalsUsed, .ref r_H_cells, .int H_used, .ref r_H_spare, .int H_spareUsed, .int H_old, .int H_oldLeadsToNew, .int H_limit, .int H_every, .int H_fresh, .int H_made, .int H_madeLimit, .int H_reachedFromGlobals, .int H_reachedInAll, .ref r_H_keptGlobals, .int H_keptGlobalsUsed, .ref r_H_keptCells, .int H_kept])), (o_Equality, .inr (5, [.ref o_Heap, .ref r_Q_links, .ref w2_a_f_Q_pairs, .int w2_Q_size])), (r_H_cells, .inl (cL, n_H_cells, .inr (.inl f_H_cells))), (r_Q_links, .inl (cI, n_Q_links, .inl w2_f_f_Q_links)), (w2_a_f_Q_pairs, .inl (cL, w2_n_f_Q_pairs, .inr (.inl w2_f_f_Q_pairs)))]) [0, 1, 2, 3, 4] (by decide) rfl
  have hK9 := hK.sub (tys' := [(cI, .int), (cL, .long)]) [0, 1] rfl
  refine W.widen (dz_Gc hG) (dz_Gs hG) ?_
  obtain ⟨rfl, -, -⟩ := hG
  exact W.zret (v := v2_5) (ty := .boolean) hx hb hr hbz13.1 (fun t ht hW => ⟨⟨v2_5, w2_a_f_Q_pairs, rfl, ⟨rfl, hbz13.1, hbz13.2⟩, by rw [ht]; exact hP9, va_K.moved hW.alike hK9, hD9⟩, hS.F ht⟩) hS.2.2 d_Equality_joinParts_127

set_option maxHeartbeats 4000000 in
set_option maxRecDepth 100000 in
theorem l_Equality_holds_1 {p : Program} {l : Launch} {e : Env} {s : State} {m : MethodId} {args : Array Value} {below : List Frame} {meth : Method} {c : Code} {Q : State → Prop} {A : Nat → Prop} (dC : Nat → ClassId) (dI : Nat → Nat → Nat) (N : Nat) (cI : ClassId) (cL : ClassId) (o_Heap : Nat) (o_Stacks : Nat) (o_Equality : Nat) (r_H_globals : Nat) (r_H_cells : Nat) (r_H_spare : Nat) (r_H_keptGlobals : Nat) (r_H_keptCells : Nat) (r_Q_pairs : Nat) (H_globalsUsed : Int32) (H_used : Int32) (H_spareUsed : Int32) (H_old : Int32) (H_oldLeadsToNew : Int32) (H_limit : Int32) (H_every : Int32) (H_fresh : Int32) (H_made : Int32) (H_madeLimit : Int32) (H_reachedFromGlobals : Int32) (H_reachedInAll : Int32) (H_keptGlobalsUsed : Int32) (H_kept : Int32) (Q_size : Int32) (n_H_cells : Nat) (f_H_cells : Nat → Int64) (n_Q_pairs : Nat) (f_Q_pairs : Nat → Int64) (p0 : Int64) (p1 : Int64) {α : Type} {Z1 : α} {Zc Zs : Nat} (hx : p.tables.exec = Jvm.exec) (hb : c.code = b_Equality_holds) (hml : c.maxLocals = 7) (hown : s.vm.findClass R_Equality = some m.cls) (hg : ∀ w ∈ lw_g, w.before args s = true) (hN : dz_N s) (hK : va_K (dC, dI) classes [(cI, .int), (cL, .long)] s) (hA : ∀ q : Nat, s.heap.size ≤ q → A q) {k1_30 : Nat → (Nat → Int32) → Option (α × Nat × Nat)} (hk1_30 : ∀ (w1_n_f_Q_links : Nat) (w1_f_f_Q_links : (Nat → Int32)) (w1_a_f_Q_links : Nat)  (z : α × Nat × Nat) (cc cs : Nat) (H : Heap) (locs : List Loc) (ls : Array Slot), k1_30 w1_n_f_Q_links w1_f_f_Q_links = some z → dz_G Z1 Zc Zs z cc cs → va_P (dC, dI) classes [(o_Heap, .inr (3, [.ref o_Stacks, .ref r_H_globals, .int H_globalsUsed, .ref r_H_cells, .int H_used, .ref r_H_spare, .int H_spareUsed, .int H_old, .int H_oldLeadsToNew, .int H_limit, .int H_every, .int H_fresh, .int H_made, .int H_madeLimit, .int H_reachedFromGlobals, .int H_reachedInAll, .ref r_H_keptGlobals, .int H_keptGlobalsUsed, .ref r_H_keptCells, .int H_kept])), (o_Equality, .inr (5, [.ref o_Heap, .ref w1_a_f_Q_links, .ref r_Q_pairs, .int Q_size])), (r_H_cells, .inl (cL, n_H_cells, .inr (.inl f_H_cells))), (w1_a_f_Q_links, .inl (cI, w1_n_f_Q_links, .inl w1_f_f_Q_links)), (r_Q_pairs, .inl (cL, n_Q_pairs, .inr (.inl f_Q_pairs)))] H → va_D A [(o_Heap, .inr (3, [.ref o_Stacks, .ref r_H_globals, .int H_globalsUsed, .ref r_H_cells, .int H_used, .ref r_H_spare, .int H_spareUsed, .int H_old, .int H_oldLeadsToNew, .int H_limit, .int H_every, .int H_fresh, .int H_made, .int H_madeLimit, .int H_reachedFromGlobals, .int H_reachedInAll, .ref r_H_keptGlobals, .int H_keptGlobalsUsed, .ref r_H_keptCells, .int H_kept])), (o_Equality, .inr (5, [.ref o_Heap, .ref w1_a_f_Q_links, .ref r_Q_pairs, .int Q_size])), (r_H_cells, .inl (cL, n_H_cells, .inr (.inl f_H_cells))), (w1_a_f_Q_links, .inl (cI, w1_n_f_Q_links, .inl w1_f_f_Q_links)), (r_Q_pairs, .inl (cL, n_Q_pairs, .inr (.inl f_Q_pairs)))] → va_S A s.heap H locs → lv_has ls 7 [(0, .ref o_Equality), (1, .long p0), (3, .long p1)] → W p l e ({ frames := 5, cells := Zc, slots := Zs, locals := 163 } : Room) s m args below meth c H locs cc cs Q (F0 m 30 ls [])) : ∀ (w1_n_f_Q_links : Nat) (w1_f_f_Q_links : (Nat → Int32)) (w1_a_f_Q_links : Nat) (z : α × Nat × Nat) (cc cs : Nat) (H : Heap) (locs : List Loc) (ls : Array Slot), lm_Equality_holds_1 N n_H_cells k1_30 w1_n_f_Q_links w1_f_f_Q_links = some z → dz_G Z1 Zc Zs z cc cs → va_P (dC, dI) classes [(o_Heap, .inr (3, [.ref o_Stacks, .ref r_H_globals, .int H_globalsUsed, .ref r_H_cells, .int H_used, .ref r_H_spare, .int H_spareUsed, .int H_old, .int H_oldLeadsToNew, .int H_limit, .int H_every, .int H_fresh, .int H_made, .int H_madeLimit, .int H_reachedFromGlobals, .int H_reachedInAll, .ref r_H_keptGlobals, .int H_keptGlobalsUsed, .ref r_H_keptCells, .int H_kept])), (o_Equality, .inr (5, [.ref o_Heap, .ref w1_a_f_Q_links, .ref r_Q_pairs, .int Q_size])), (r_H_cells, .inl (cL, n_H_cells, .inr (.inl f_H_cells))), (w1_a_f_Q_links, .inl (cI, w1_n_f_Q_links, .inl w1_f_f_Q_links)), (r_Q_pairs, .inl (cL, n_Q_pairs, .inr (.inl f_Q_pairs)))] H → va_D A [(o_Heap, .inr (3, [.ref o_Stacks, .ref r_H_globals, .int H_globalsUsed, .ref r_H_cells, .int H_used, .ref r_H_spare, .int H_spareUsed, .int H_old, .int H_oldLeadsToNew, .int H_limit, .int H_every, .int H_fresh, .int H_made, .int H_madeLimit, .int H_reachedFromGlobals, .int H_reachedInAll, .ref r_H_keptGlobals, .int H_keptGlobalsUsed, .ref r_H_keptCells, .int H_kept])), (o_Equality, .inr (5, [.ref o_Heap, .ref w1_a_f_Q_links, .ref r_Q_pairs, .int Q_size])), (r_H_cells, .inl (cL, n_H_cells, .inr (.inl f_H_cells))), (w1_a_f_Q_links, .inl (cI, w1_n_f_Q_links, .inl w1_f_f_Q_links)), (r_Q_pairs, .inl (cL, n_Q_pairs, .inr (.inl f_Q_pairs)))] → va_S A s.heap H locs → lv_has ls 7 [(0, .ref o_Equality), (1, .long p0), (3, .long p1)] → W p l e ({ frames := 5, cells := Zc, slots := Zs, locals := 163 } : Room) s m args below meth c H locs cc cs Q (F0 m 0 ls []) := by
  intro w1_n_f_Q_links w1_f_f_Q_links w1_a_f_Q_links z cc cs H locs ls h hG hP hD hS hl
  unfold lm_Equality_holds_1 at h
  refine lv_aload_n hx hb d_Equality_holds_0 rfl (lv_at hl 0 rfl) ?_
  refine va_get (D := (dC, dI)) (ci := 5) (v := .ref w1_a_f_Q_links) (C := R_Equality) (T := F_Equality) (N := 4) hx hb hg i_Equality hown hK hP 1 rfl rfl 1 (by decide) (hg _ k262) (fun _ h9 => h9) rfl d_Equality_holds_1 ?_
  refine va_alen (D := (dC, dI)) (v := Int32.ofNat w1_n_f_Q_links) hx hb hK hP 3 0 rfl rfl rfl d_Equality_holds_4 ?_
  refine lv_aload_n hx hb d_Equality_holds_5 rfl (lv_at hl 0 rfl) ?_
  refine va_get (D := (dC, dI)) (ci := 5) (v := .ref o_Heap) (C := R_Equality) (T := F_Equality) (N := 4) hx hb hg i_Equality hown hK hP 1 rfl rfl 0 (by decide) (hg _ k266) (fun _ h9 => h9) rfl d_Equality_holds_6 ?_
  refine va_get (D := (dC, dI)) (ci := 3) (v := .ref r_H_cells) (C := R_Heap) (T := F_Heap) (N := 20) hx hb hg i_Heap hown hK hP 0 rfl rfl 3 (by decide) (hg _ k267) (fun _ h9 => h9) rfl d_Equality_holds_9 ?_
  refine va_alen (D := (dC, dI)) (v := Int32.ofNat n_H_cells) hx hb hK hP 2 1 rfl rfl rfl d_Equality_holds_12 ?_
  refine lv_icmp_ge (tgt := 30) hx hb d_Equality_holds_13 (by decide) (fun c1 => ?_) (fun c1 => ?_)
  · rw [if_pos c1] at h
    exact hk1_30 w1_n_f_Q_links w1_f_f_Q_links w1_a_f_Q_links _ _ _ _ _ _ h hG (hP.sub [0, 1, 2, 3, 4] rfl) (hD.sub [0, 1, 2, 3, 4] (by decide) rfl) hS (lv_sub hl [0, 1, 2] rfl)
  · rw [if_neg c1] at h
    refine lv_aload_n hx hb d_Equality_holds_16 rfl (lv_at hl 0 rfl) ?_
    refine lv_aload_n hx hb d_Equality_holds_17 rfl (lv_at hl 0 rfl) ?_
    refine va_get (D := (dC, dI)) (ci := 5) (v := .ref o_Heap) (C := R_Equality) (T := F_Equality) (N := 4) hx hb hg i_Equality hown hK hP 1 rfl rfl 0 (by decide) (hg _ k266) (fun _ h9 => h9) rfl d_Equality_holds_18 ?_
    refine va_get (D := (dC, dI)) (ci := 3) (v := .ref r_H_cells) (C := R_Heap) (T := F_Heap) (N := 20) hx hb hg i_Heap hown hK hP 0 rfl rfl 3 (by decide) (hg _ k267) (fun _ h9 => h9) rfl d_Equality_holds_21 ?_
    refine va_alen (D := (dC, dI)) (v := Int32.ofNat n_H_cells) hx hb hK hP 2 1 rfl rfl rfl d_Equality_holds_24 ?_
    obtain ⟨i2, h⟩ := dz_oi h
    obtain ⟨z, h, hG⟩ := dz_tkG h hG
    refine va_newa (D := (dC, dI)) (atype := .int) (N' := (Int32.ofNat n_H_cells).toNatClampNeg) (a0 := ((Int32.ofNat n_H_cells).toNatClampNeg, .inl (fun _ => 0))) hx hb (hg _ k11) (ty := .int) rfl hK hP hD hS hA (fun _ => rfl) (fun q => i2 (Or.inl q)) rfl (by show _ * 4 ≤ 536870912; have := fun q => i2 (Or.inr q); omega) (dz_Gc hG) (dz_Gs hG) d_Equality_holds_25 (fun b2 cA H hK hP hD hS => ?_)
    have hcc : cI = cA := Option.some.inj (((hK.2 0 _ rfl).2).symm.trans (hK.2 2 _ rfl).2)
    subst hcc
    have hK := hK.sub (tys' := [(cI, .int), (cL, .long)]) [0, 1] rfl
    have hP : va_P (dC, dI) classes [(o_Heap, .inr (3, [.ref o_Stacks, .ref r_H_globals, .int H_globalsUsed, .ref r_H_cells, .int H_used, .ref r_H_spare, .int H_spareUsed, .int H_old, .int H_oldLeadsToNew, .int H_limit, .int H_every, .int H_fresh, .int H_made, .int H_madeLimit, .int H_reachedFromGlobals, .int H_reachedInAll, .ref r_H_keptGlobals, .int H_keptGlobalsUsed, .ref r_H_keptCells, .int H_kept])), (o_Equality, .inr (5, [.ref o_Heap, .ref w1_a_f_Q_links, .ref r_Q_pairs, .int Q_size])), (r_H_cells, .inl (cL, n_H_cells, .inr (.inl f_H_cells))), (w1_a_f_Q_links, .inl (cI, w1_n_f_Q_links, .inl w1_f_f_Q_links)), (r_Q_pairs, .inl (cL, n_Q_pairs, .inr (.inl f_Q_pairs))), (b2, .inl (cI, ((Int32.ofNat n_H_cells).toNatClampNeg), .inl (fun _ => 0)))] H := hP
    have hD : va_D A [(o_Heap, .inr (3, [.ref o_Stacks, .ref r_H_globals, .int H_globalsUsed, .ref r_H_cells, .int H_used, .ref r_H_spare, .int H_spareUsed, .int H_old, .int H_oldLeadsToNew, .int H_limit, .int H_every, .int H_fresh, .int H_made, .int H_madeLimit, .int H_reachedFromGlobals, .int H_reachedInAll, .ref r_H_keptGlobals, .int H_keptGlobalsUsed, .ref r_H_keptCells, .int H_kept])), (o_Equality, .inr (5, [.ref o_Heap, .ref w1_a_f_Q_links, .ref r_Q_pairs, .int Q_size])), (r_H_cells, .inl (cL, n_H_cells, .inr (.inl f_H_cells))), (w1_a_f_Q_links, .inl (cI, w1_n_f_Q_links, .inl w1_f_f_Q_links)), (r_Q_pairs, .inl (cL, n_Q_pairs, .inr (.inl f_Q_pairs))), (b2, .inl (cI, ((Int32.ofNat n_H_cells).toNatClampNeg), .inl (fun _ => 0)))] := hD
    refine va_put (D := (dC, dI)) (ci := 5) (v := .ref b2) (ty := .array .int) (C := R_Equality) (T := F_Equality) (N := 4) hx hb hg i_Equality t_Equality t_Equality_ok n_Equality hown hK hP hD hS 1 rfl rfl 1 (by decide) (hg _ k262) (fun _ h9 => h9) rfl (by decide +kernel) rfl rfl (Nat.le_of_ble_eq_true rfl) d_Equality_holds_27 (fun H locs hP hD hS => ?_)
    have hP : va_P (dC, dI) classes [(o_Heap, .inr (3, [.ref o_Stacks, .ref r_H_globals, .int H_globalsUsed, .ref r_H_cells, .int H_used, .ref r_H_spare, .int H_spareUsed, .int H_old, .int H_oldLeadsToNew, .int H_limit, .int H_every, .int H_fresh, .int H_made, .int H_madeLimit, .int H_reachedFromGlobals, .int H_reachedInAll, .ref r_H_keptGlobals, .int H_keptGlobalsUsed, .ref r_H_keptCells, .int H_kept])), (o_Equality, .inr (5, [.ref o_Heap, .ref b2, .ref r_Q_pairs, .int Q_size])), (r_H_cells, .inl (cL, n_H_cells, .inr (.inl f_H_cells))), (w1_a_f_Q_links, .inl (cI, w1_n_f_Q_links, .inl w1_f_f_Q_links)), (r_Q_pairs, .inl (cL, n_Q_pairs, .inr (.inl f_Q_pairs))), (b2, .inl (cI, ((Int32.ofNat n_H_cells).toNatClampNeg), .inl (fun _ => 0)))] H := hP
    have hD : va_D A [(o_Heap, .inr (3, [.ref o_Stacks, .ref r_H_globals, .int H_globalsUsed, .ref r_H_cells, .int H_used, .ref r_H_spare, .int H_spareUsed, .int H_old, .int H_oldLeadsToNew, .int H_limit, .int H_every, .int H_fresh, .int H_made, .int H_madeLimit, .int H_reachedFromGlobals, .int H_reachedInAll, .ref r_H_keptGlobals, .int H_keptGlobalsUsed, .ref r_H_keptCells, .int H_kept])), (o_Equality, .inr (5, [.ref o_Heap, .ref b2, .ref r_Q_pairs, .int Q_size])), (r_H_cells, .inl (cL, n_H_cells, .inr (.inl f_H_cells))), (w1_a_f_Q_links, .inl (cI, w1_n_f_Q_links, .inl w1_f_f_Q_links)), (r_Q_pairs, .inl (cL, n_Q_pairs, .inr (.inl f_Q_pairs))), (b2, .inl (cI, ((Int32.ofNat n_H_cells).toNatClampNeg), .inl (fun _ => 0)))] := hD
    exact hk1_30 ((Int32.ofNat n_H_cells).toNatClampNeg) (fun _ => 0) b2 _ _ _ _ _ _ h hG (hP.sub [0, 1, 2, 5, 4] rfl) (hD.sub [0, 1, 2, 5, 4] (by decide) rfl) hS (lv_sub hl [0, 1, 2] rfl)
set_option maxHeartbeats 4000000 in
set_option maxRecDepth 100000 in
theorem l_Equality_holds_2 {p : Program} {l : Launch} {e : Env} {s : State} {m : MethodId} {args : Array Value} {below : List Frame} {meth : Method} {c : Code} {Q : State → Prop} {A : Nat → Prop} (dC : Nat → ClassId) (dI : Nat → Nat → Nat) (N : Nat) (cI : ClassId) (cL : ClassId) (o_Heap : Nat) (o_Stacks : Nat) (o_Equality : Nat) (r_H_globals : Nat) (r_H_cells : Nat) (r_H_spare : Nat) (r_H_keptGlobals : Nat) (r_H_keptCells : Nat) (H_globalsUsed : Int32) (H_used : Int32) (H_spareUsed : Int32) (H_old : Int32) (H_oldLeadsToNew : Int32) (H_limit : Int32) (H_every : Int32) (H_fresh : Int32) (H_made : Int32) (H_madeLimit : Int32) (H_reachedFromGlobals : Int32) (H_reachedInAll : Int32) (H_keptGlobalsUsed : Int32) (H_kept : Int32) (n_H_cells : Nat) (f_H_cells : Nat → Int64) (p0 : Int64) (p1 : Int64) (w1_n_f_Q_links : Nat) (w1_a_f_Q_links : Nat) {α : Type} {Z1 : α} {Zc Zs : Nat} (hx : p.tables.exec = Jvm.exec) (hb : c.code = b_Equality_holds) (hml : c.maxLocals = 7) (hown : s.vm.findClass R_Equality = some m.cls) (hg : ∀ w ∈ lw_g, w.before args s = true) (hN : dz_N s) (hK : va_K (dC, dI) classes [(cI, .int), (cL, .long)] s) (hA : ∀ q : Nat, s.heap.size ≤ q → A q) {k2_98 : Int32 → Int32 → (Nat → Int32) → Int32 → Nat → (Nat → Int64) → Option (α × Nat × Nat)} (hk2_98 : ∀ (v2_5 : Int32) (v2_6 : Int32) (w2_f_f_Q_links : (Nat → Int32)) (w2_Q_size : Int32) (w2_n_f_Q_pairs : Nat) (w2_f_f_Q_pairs : (Nat → Int64)) (w2_a_f_Q_pairs : Nat)  (z : α × Nat × Nat) (cc cs : Nat) (H : Heap) (locs : List Loc) (ls : Array Slot), k2_98 v2_5 v2_6 w2_f_f_Q_links w2_Q_size w2_n_f_Q_pairs w2_f_f_Q_pairs = some z → dz_G Z1 Zc Zs z cc cs → va_P (dC, dI) classes [(o_Heap, .inr (3, [.ref o_Stacks, .ref r_H_globals, .int H_globalsUsed, .ref r_H_cells, .int H_used, .ref r_H_spare, .int H_spareUsed, .int H_old, .int H_oldLeadsToNew, .int H_limit, .int H_every, .int H_fresh, .int H_made, .int H_madeLimit, .int H_reachedFromGlobals, .int H_reachedInAll, .ref r_H_keptGlobals, .int H_keptGlobalsUsed, .ref r_H_keptCells, .int H_kept])), (o_Equality, .inr (5, [.ref o_Heap, .ref w1_a_f_Q_links, .ref w2_a_f_Q_pairs, .int w2_Q_size])), (r_H_cells, .inl (cL, n_H_cells, .inr (.inl f_H_cells))), (w1_a_f_Q_links, .inl (cI, w1_n_f_Q_links, .inl w2_f_f_Q_links)), (w2_a_f_Q_pairs, .inl (cL, w2_n_f_Q_pairs, .inr (.inl w2_f_f_Q_pairs)))] H → va_D A [(o_Heap, .inr (3, [.ref o_Stacks, .ref r_H_globals, .int H_globalsUsed, .ref r_H_cells, .int H_used, .ref r_H_spare, .int H_spareUsed, .int H_old, .int H_oldLeadsToNew, .int H_limit, .int H_every, .int H_fresh, .int H_made, .int H_madeLimit, .int H_reachedFromGlobals, .int H_reachedInAll, .ref r_H_keptGlobals, .int H_keptGlobalsUsed, .ref r_H_keptCells, .int H_kept])), (o_Equality, .inr (5, [.ref o_Heap, .ref w1_a_f_Q_links, .ref w2_a_f_Q_pairs, .int w2_Q_size])), (r_H_cells, .inl (cL, n_H_cells, .inr (.inl f_H_cells))), (w1_a_f_Q_links, .inl (cI, w1_n_f_Q_links, .inl w2_f_f_Q_links)), (w2_a_f_Q_pairs, .inl (cL, w2_n_f_Q_pairs, .inr (.inl w2_f_f_Q_pairs)))] → va_S A s.heap H locs → lv_has ls 7 [(6, .int v2_6), (5, .int v2_5), (0, .ref o_Equality), (1, .long p0), (3, .long p1)] → W p l e ({ frames := 5, cells := Zc, slots := Zs, locals := 163 } : Room) s m args below meth c H locs cc cs Q (F0 m 98 ls [])) : ∀ (n2 : Nat) (v2_5 : Int32) (v2_6 : Int32) (w2_f_f_Q_links : (Nat → Int32)) (w2_Q_size : Int32) (w2_n_f_Q_pairs : Nat) (w2_f_f_Q_pairs : (Nat → Int64)) (w2_a_f_Q_pairs : Nat) (z : α × Nat × Nat) (cc cs : Nat) (H : Heap) (locs : List Loc) (ls : Array Slot), lm_Equality_holds_2 N H_globalsUsed H_used H_spareUsed H_old H_oldLeadsToNew H_limit H_every H_fresh H_made H_madeLimit H_reachedFromGlobals H_reachedInAll H_keptGlobalsUsed H_kept n_H_cells f_H_cells w1_n_f_Q_links k2_98 n2 v2_5 v2_6 w2_f_f_Q_links w2_Q_size w2_n_f_Q_pairs w2_f_f_Q_pairs = some z → dz_G Z1 Zc Zs z cc cs → va_P (dC, dI) classes [(o_Heap, .inr (3, [.ref o_Stacks, .ref r_H_globals, .int H_globalsUsed, .ref r_H_cells, .int H_used, .ref r_H_spare, .int H_spareUsed, .int H_old, .int H_oldLeadsToNew, .int H_limit, .int H_every, .int H_fresh, .int H_made, .int H_madeLimit, .int H_reachedFromGlobals, .int H_reachedInAll, .ref r_H_keptGlobals, .int H_keptGlobalsUsed, .ref r_H_keptCells, .int H_kept])), (o_Equality, .inr (5, [.ref o_Heap, .ref w1_a_f_Q_links, .ref w2_a_f_Q_pairs, .int w2_Q_size])), (r_H_cells, .inl (cL, n_H_cells, .inr (.inl f_H_cells))), (w1_a_f_Q_links, .inl (cI, w1_n_f_Q_links, .inl w2_f_f_Q_links)), (w2_a_f_Q_pairs, .inl (cL, w2_n_f_Q_pairs, .inr (.inl w2_f_f_Q_pairs)))] H → va_D A [(o_Heap, .inr (3, [.ref o_Stacks, .ref r_H_globals, .int H_globalsUsed, .ref r_H_cells, .int H_used, .ref r_H_spare, .int H_spareUsed, .int H_old, .int H_oldLeadsToNew, .int H_limit, .int H_every, .int H_fresh, .int H_made, .int H_madeLimit, .int H_reachedFromGlobals, .int H_reachedInAll, .ref r_H_keptGlobals, .int H_keptGlobalsUsed, .ref r_H_keptCells, .int H_kept])), (o_Equality, .inr (5, [.ref o_Heap, .ref w1_a_f_Q_links, .ref w2_a_f_Q_pairs, .int w2_Q_size])), (r_H_cells, .inl (cL, n_H_cells, .inr (.inl f_H_cells))), (w1_a_f_Q_links, .inl (cI, w1_n_f_Q_links, .inl w2_f_f_Q_links)), (w2_a_f_Q_pairs, .inl (cL, w2_n_f_Q_pairs, .inr (.inl w2_f_f_Q_pairs)))] → va_S A s.heap H locs → lv_has ls 7 [(6, .int v2_6), (5, .int v2_5), (0, .ref o_Equality), (1, .long p0), (3, .long p1)] → W p l e ({ frames := 5, cells := Zc, slots := Zs, locals := 163 } : Room) s m args below meth c H locs cc cs Q (F0 m 46 ls []) := by
  intro n2
  induction n2 with
  | zero =>
    intro v2_5 v2_6 w2_f_f_Q_links w2_Q_size w2_n_f_Q_pairs w2_f_f_Q_pairs w2_a_f_Q_pairs z cc cs H locs ls h hG hP hD hS hl
    rw [lm_Equality_holds_2] at h
    cases h
  | succ n2 ih2 =>
    intro v2_5 v2_6 w2_f_f_Q_links w2_Q_size w2_n_f_Q_pairs w2_f_f_Q_pairs w2_a_f_Q_pairs z cc cs H locs ls h hG hP hD hS hl
    rw [lm_Equality_holds_2] at h
    refine lv_iload hx hb d_Equality_holds_46 (lv_at hl 0 rfl) ?_
    refine lv_ldc (v := 131072) hx hb hown (hg _ k261) d_Equality_holds_48 ?_
    refine lv_icmp_ge (tgt := 98) hx hb d_Equality_holds_50 (by decide) (fun c4 => ?_) (fun c4 => ?_)
    · rw [if_pos c4] at h
      exact hk2_98 v2_5 v2_6 w2_f_f_Q_links w2_Q_size w2_n_f_Q_pairs w2_f_f_Q_pairs w2_a_f_Q_pairs _ _ _ _ _ _ h hG (hP.sub [0, 1, 2, 3, 4] rfl) (hD.sub [0, 1, 2, 3, 4] (by decide) rfl) hS (lv_sub hl [0, 1, 2, 3, 4] rfl)
    · rw [if_neg c4] at h
      refine lv_iload hx hb d_Equality_holds_53 (lv_at hl 0 rfl) ?_
      refine lv_aload_n hx hb d_Equality_holds_55 rfl (lv_at hl 2 rfl) ?_
      refine va_get (D := (dC, dI)) (ci := 5) (v := .int w2_Q_size) (C := R_Equality) (T := F_Equality) (N := 4) hx hb hg i_Equality hown hK hP 1 rfl rfl 3 (by decide) (hg _ k263) (fun _ h9 => h9) rfl d_Equality_holds_56 ?_
      refine lv_icmp_ge (tgt := 98) hx hb d_Equality_holds_59 (by decide) (fun c5 => ?_) (fun c5 => ?_)
      · rw [if_pos c5] at h
        exact hk2_98 v2_5 v2_6 w2_f_f_Q_links w2_Q_size w2_n_f_Q_pairs w2_f_f_Q_pairs w2_a_f_Q_pairs _ _ _ _ _ _ h hG (hP.sub [0, 1, 2, 3, 4] rfl) (hD.sub [0, 1, 2, 3, 4] (by decide) rfl) hS (lv_sub hl [0, 1, 2, 3, 4] rfl)
      · rw [if_neg c5] at h
        refine lv_iload hx hb d_Equality_holds_62 (lv_at hl 1 rfl) ?_
        refine lv_if_eq (tgt := 98) hx hb d_Equality_holds_64 (by decide) (fun c6 => ?_) (fun c6 => ?_)
        · rw [if_pos c6] at h
          exact hk2_98 v2_5 v2_6 w2_f_f_Q_links w2_Q_size w2_n_f_Q_pairs w2_f_f_Q_pairs w2_a_f_Q_pairs _ _ _ _ _ _ h hG (hP.sub [0, 1, 2, 3, 4] rfl) (hD.sub [0, 1, 2, 3, 4] (by decide) rfl) hS (lv_sub hl [0, 1, 2, 3, 4] rfl)
        · rw [if_neg c6] at h
          refine lv_aload_n hx hb d_Equality_holds_67 rfl (lv_at hl 2 rfl) ?_
          refine lv_aload_n hx hb d_Equality_holds_68 rfl (lv_at hl 2 rfl) ?_
          refine va_get (D := (dC, dI)) (ci := 5) (v := .ref w2_a_f_Q_pairs) (C := R_Equality) (T := F_Equality) (N := 4) hx hb hg i_Equality hown hK hP 1 rfl rfl 2 (by decide) (hg _ k264) (fun _ h9 => h9) rfl d_Equality_holds_69 ?_
          refine lv_iload hx hb d_Equality_holds_72 (lv_at hl 0 rfl) ?_
          obtain ⟨i7, h⟩ := dz_oi h
          refine va_lald (D := (dC, dI)) hx hb hK hP 4 1 rfl rfl i7 d_Equality_holds_74 ?_
          refine lv_bipush (v := 32) hx hb d_Equality_holds_75 (by decide) ?_
          refine lv_lshr (v := (w2_f_f_Q_pairs v2_6.toNatClampNeg) >>> ((32 : Int32).toInt64 &&& 63)) hx hb d_Equality_holds_77 rfl ?_
          refine lv_l2i (v := ((w2_f_f_Q_pairs v2_6.toNatClampNeg) >>> ((32 : Int32).toInt64 &&& 63)).toInt32) hx hb d_Equality_holds_78 rfl ?_
          obtain ⟨x8, ex8, h⟩ := dz_lt h
          refine dz_topi ex8 ?_
          refine lv_aload_n hx hb d_Equality_holds_79 rfl (lv_at hl 2 rfl) ?_
          refine va_get (D := (dC, dI)) (ci := 5) (v := .ref w2_a_f_Q_pairs) (C := R_Equality) (T := F_Equality) (N := 4) hx hb hg i_Equality hown hK hP 1 rfl rfl 2 (by decide) (hg _ k264) (fun _ h9 => h9) rfl d_Equality_holds_80 ?_
          refine lv_iload hx hb d_Equality_holds_83 (lv_at hl 0 rfl) ?_
          obtain ⟨i9, h⟩ := dz_oi h
          refine va_lald (D := (dC, dI)) hx hb hK hP 4 1 rfl rfl i9 d_Equality_holds_85 ?_
          refine lv_l2i (v := (w2_f_f_Q_pairs v2_6.toNatClampNeg).toInt32) hx hb d_Equality_holds_86 rfl ?_
          obtain ⟨⟨⟨z10_1, z10_2, z10_3, z10_4, z10_5⟩, zc10, zs10⟩, hc10, h⟩ := dz_ob h
          try dsimp only at h
          obtain ⟨z, h, hG⟩ := dz_tkG h hG
          have hPc := hP.sub (ws' := [(o_Heap, .inr (3, [.ref o_Stacks, .ref r_H_globals, .int H_globalsUsed, .ref r_H_cells, .int H_used, .ref r_H_spare, .int H_spareUsed, .int H_old, .int H_oldLeadsToNew, .int H_limit, .int H_every, .int H_fresh, .int H_made, .int H_madeLimit, .int H_reachedFromGlobals, .int H_reachedInAll, .ref r_H_keptGlobals, .int H_keptGlobalsUsed, .ref r_H_keptCells, .int H_kept])), (o_Equality, .inr (5, [.ref o_Heap, .ref w1_a_f_Q_links, .ref w2_a_f_Q_pairs, .int w2_Q_size])), (r_H_cells, .inl (cL, n_H_cells, .inr (.inl f_H_cells))), (w1_a_f_Q_links, .inl (cI, w1_n_f_Q_links, .inl w2_f_f_Q_links)), (w2_a_f_Q_pairs, .inl (cL, w2_n_f_Q_pairs, .inr (.inl w2_f_f_Q_pairs)))]) [0, 1, 2, 3, 4] rfl
          have hKc := hK.sub (tys' := [(cI, .int), (cL, .long)]) [0, 1] rfl
          have hDc := hD.sub (ws' := [(o_Heap, .inr (3, [.ref o_Stacks, .ref r_H_globals, .int H_globalsUsed, .ref r_H_cells, .int H_used, .ref r_H_spare, .int H_spareUsed, .int H_old, .int H_oldLeadsToNew, .int H_limit, .int H_every, .int H_fresh, .int H_made, .int H_madeLimit, .int H_reachedFromGlobals, .int H_reachedInAll, .ref r_H_keptGlobals, .int H_keptGlobalsUsed, .ref r_H_keptCells, .int H_kept])), (o_Equality, .inr (5, [.ref o_Heap, .ref w1_a_f_Q_links, .ref w2_a_f_Q_pairs, .int w2_Q_size])), (r_H_cells, .inl (cL, n_H_cells, .inr (.inl f_H_cells))), (w1_a_f_Q_links, .inl (cI, w1_n_f_Q_links, .inl w2_f_f_Q_links)), (w2_a_f_Q_pairs, .inl (cL, w2_n_f_Q_pairs, .inr (.inl w2_f_f_Q_pairs)))]) [0, 1, 2, 3, 4] (by decide) rfl
          have hFc := va_free (wc := [(o_Heap, .inr (3, [.ref o_Stacks, .ref r_H_globals, .int H_globalsUsed, .ref r_H_cells, .int H_used, .ref r_H_spare, .int H_spareUsed, .int H_old, .int H_oldLeadsToNew, .int H_limit, .int H_every, .int H_fresh, .int H_made, .int H_madeLimit, .int H_reachedFromGlobals, .int H_reachedInAll, .ref r_H_keptGlobals, .int H_keptGlobalsUsed, .ref r_H_keptCells, .int H_kept])), (o_Equality, .inr (5, [.ref o_Heap, .ref w1_a_f_Q_links, .ref w2_a_f_Q_pairs, .int w2_Q_size])), (r_H_cells, .inl (cL, n_H_cells, .inr (.inl f_H_cells))), (w1_a_f_Q_links, .inl (cI, w1_n_f_Q_links, .inl w2_f_f_Q_links)), (w2_a_f_Q_pairs, .inl (cL, w2_n_f_Q_pairs, .inr (.inl w2_f_f_Q_pairs)))]) hD hS hA [0, 1, 2, 3, 4] rfl
          refine va_calli (va_runV (As := [.int x8, .int ((w2_f_f_Q_pairs v2_6.toNatClampNeg).toInt32)]) (rest := []) ⟨hx, hb, hml, hown, hg⟩ (c_Equality_joinParts l dC dI N cI cL o_Heap o_Stacks o_Equality r_H_globals r_H_cells r_H_spare r_H_keptGlobals r_H_keptCells w1_a_f_Q_links w2_a_f_Q_pairs H_globalsUsed H_used H_spareUsed H_old H_oldLeadsToNew H_limit H_every H_fresh H_made H_madeLimit H_reachedFromGlobals H_reachedInAll H_keptGlobalsUsed H_kept w2_Q_size n_H_cells f_H_cells w1_n_f_Q_links w2_f_f_Q_links w2_n_f_Q_pairs w2_f_f_Q_pairs x8 ((w2_f_f_Q_pairs v2_6.toNatClampNeg).toInt32) H.size (z10_1, z10_2, z10_3, z10_4, z10_5) zc10 zs10 hc10) (cwV 2 hg (gd_V k285 k286 k287 k274 k284) rfl rfl rfl (by decide +kernel) ⟨Nat.le_of_ble_eq_true rfl, Nat.le_of_ble_eq_true rfl⟩) ⟨dz_blind, va_recv hKc hPc (ci := 5) (q0 := 1) rfl rfl, fun U hU hW => ⟨rfl, dz_Nw hW hN, by rw [hU], by rw [hU]; exact hPc, va_K.moved hW.alike hKc, hDc.weaken (fun _ _ _ _ => trivial)⟩⟩ rfl rfl hl.1 rfl (lv_room (Nat.le_of_ble_eq_true rfl)) d_Equality_holds_87 ⟨dz_Gc hG, dz_Gs hG⟩) hS (fun q _ h => hFc q h) hFc (fun r10 u10 t10 H1 locs ht hvm hw hB hz1 hk1 hS => ?_)
          obtain ⟨a10_0, rfl⟩ : ∃ z, z = u10 := ⟨_, rfl⟩
          obtain ⟨hP1, hK1, hD1⟩ := hB
          rw [ht] at hP1
          obtain ⟨hP, hD⟩ := va_join (wr := []) (w1 := [(o_Heap, .inr (3, [.ref o_Stacks, .ref r_H_globals, .int H_globalsUsed, .ref r_H_cells, .int H_used, .ref r_H_spare, .int H_spareUsed, .int H_old, .int H_oldLeadsToNew, .int H_limit, .int H_every, .int H_fresh, .int H_made, .int H_madeLimit, .int H_reachedFromGlobals, .int H_reachedInAll, .ref r_H_keptGlobals, .int H_keptGlobalsUsed, .ref r_H_keptCells, .int H_kept])), (o_Equality, .inr (5, [.ref o_Heap, .ref w1_a_f_Q_links, .ref a10_0, .int z10_3])), (r_H_cells, .inl (cL, n_H_cells, .inr (.inl f_H_cells))), (w1_a_f_Q_links, .inl (cI, w1_n_f_Q_links, .inl z10_2)), (a10_0, .inl (cL, z10_4, .inr (.inl z10_5)))]) hP hD [0, 1, 2, 3, 4] [] rfl rfl (by decide) (by decide) hk1 hFc hP1 hD1
          obtain ⟨hw, hbz10⟩ := hw
          have hw : z10_1 = r10 := hw.symm
          subst hw
          generalize H1 = H at hP hS ⊢
          have hP : va_P (dC, dI) classes [(o_Heap, .inr (3, [.ref o_Stacks, .ref r_H_globals, .int H_globalsUsed, .ref r_H_cells, .int H_used, .ref r_H_spare, .int H_spareUsed, .int H_old, .int H_oldLeadsToNew, .int H_limit, .int H_every, .int H_fresh, .int H_made, .int H_madeLimit, .int H_reachedFromGlobals, .int H_reachedInAll, .ref r_H_keptGlobals, .int H_keptGlobalsUsed, .ref r_H_keptCells, .int H_kept])), (o_Equality, .inr (5, [.ref o_Heap, .ref w1_a_f_Q_links, .ref a10_0, .int z10_3])), (r_H_cells, .inl (cL, n_H_cells, .inr (.inl f_H_cells))), (w1_a_f_Q_links, .inl (cI, w1_n_f_Q_links, .inl z10_2)), (a10_0, .inl (cL, z10_4, .inr (.inl z10_5)))] H := hP
          have hD : va_D A [(o_Heap, .inr (3, [.ref o_Stacks, .ref r_H_globals, .int H_globalsUsed, .ref r_H_cells, .int H_used, .ref r_H_spare, .int H_spareUsed, .int H_old, .int H_oldLeadsToNew, .int H_limit, .int H_every, .int H_fresh, .int H_made, .int H_madeLimit, .int H_reachedFromGlobals, .int H_reachedInAll, .ref r_H_keptGlobals, .int H_keptGlobalsUsed, .ref r_H_keptCells, .int H_kept])), (o_Equality, .inr (5, [.ref o_Heap, .ref w1_a_f_Q_links, .ref a10_0, .int z10_3])), (r_H_cells, .inl (cL, n_H_cells, .inr (.inl f_H_cells))), (w1_a_f_Q_links, .inl (cI, w1_n_f_Q_links, .inl z10_2)), (a10_0, .inl (cL, z10_4, .inr (.inl z10_5)))] := hD
          refine lv_istore (lv' := [(5, .int z10_1), (6, .int v2_6), (0, .ref o_Equality), (1, .long p0), (3, .long p1)]) hx hb d_Equality_holds_90 hl (by decide) rfl (fun ls hl => ?_)
          refine lv_iinc (v := v2_6 + 1) (lv' := [(6, .int (v2_6 + 1)), (5, .int z10_1), (0, .ref o_Equality), (1, .long p0), (3, .long p1)]) hx hb d_Equality_holds_92 hl (k := 1) rfl rfl (by decide) rfl (fun ls hl => ?_)
          refine lv_goto (tgt := 46) hx hb d_Equality_holds_95 (by decide) ?_
          exact ih2 z10_1 (v2_6 + 1) z10_2 z10_3 z10_4 z10_5 a10_0 _ _ _ _ _ _ h hG (hP.sub [0, 1, 2, 3, 4] rfl) (hD.sub [0, 1, 2, 3, 4] (by decide) rfl) hS (lv_sub hl [0, 1, 2, 3, 4] rfl)
set_option maxHeartbeats 4000000 in
set_option maxRecDepth 100000 in
theorem l_Equality_holds_3 {p : Program} {l : Launch} {e : Env} {s : State} {m : MethodId} {args : Array Value} {below : List Frame} {meth : Method} {c : Code} {Q : State → Prop} {A : Nat → Prop} (dC : Nat → ClassId) (dI : Nat → Nat → Nat) (N : Nat) (cI : ClassId) (cL : ClassId) (o_Heap : Nat) (o_Stacks : Nat) (o_Equality : Nat) (r_H_globals : Nat) (r_H_cells : Nat) (r_H_spare : Nat) (r_H_keptGlobals : Nat) (r_H_keptCells : Nat) (H_globalsUsed : Int32) (H_used : Int32) (H_spareUsed : Int32) (H_old : Int32) (H_oldLeadsToNew : Int32) (H_limit : Int32) (H_every : Int32) (H_fresh : Int32) (H_made : Int32) (H_madeLimit : Int32) (H_reachedFromGlobals : Int32) (H_reachedInAll : Int32) (H_keptGlobalsUsed : Int32) (H_kept : Int32) (n_H_cells : Nat) (f_H_cells : Nat → Int64) (p0 : Int64) (p1 : Int64) (w1_n_f_Q_links : Nat) (w1_a_f_Q_links : Nat) (v2_5 : Int32) (w2_Q_size : Int32) (w2_f_f_Q_pairs : Nat → Int64) (w2_n_f_Q_pairs : Nat) (w2_a_f_Q_pairs : Nat) {α : Type} {Z1 : α} {Zc Zs : Nat} (hx : p.tables.exec = Jvm.exec) (hb : c.code = b_Equality_holds) (hml : c.maxLocals = 7) (hown : s.vm.findClass R_Equality = some m.cls) (hg : ∀ w ∈ lw_g, w.before args s = true) (hN : dz_N s) (hK : va_K (dC, dI) classes [(cI, .int), (cL, .long)] s) (hA : ∀ q : Nat, s.heap.size ≤ q → A q) {k3_147 : Int32 → (Nat → Int32) → Option (α × Nat × Nat)} (hk3_147 : ∀ (v3_6 : Int32) (w3_f_f_Q_links : (Nat → Int32))   (z : α × Nat × Nat) (cc cs : Nat) (H : Heap) (locs : List Loc) (ls : Array Slot), k3_147 v3_6 w3_f_f_Q_links = some z → dz_G Z1 Zc Zs z cc cs → va_P (dC, dI) classes [(o_Heap, .inr (3, [.ref o_Stacks, .ref r_H_globals, .int H_globalsUsed, .ref r_H_cells, .int H_used, .ref r_H_spare, .int H_spareUsed, .int H_old, .int H_oldLeadsToNew, .int H_limit, .int H_every, .int H_fresh, .int H_made, .int H_madeLimit, .int H_reachedFromGlobals, .int H_reachedInAll, .ref r_H_keptGlobals, .int H_keptGlobalsUsed, .ref r_H_keptCells, .int H_kept])), (o_Equality, .inr (5, [.ref o_Heap, .ref w1_a_f_Q_links, .ref w2_a_f_Q_pairs, .int w2_Q_size])), (r_H_cells, .inl (cL, n_H_cells, .inr (.inl f_H_cells))), (w1_a_f_Q_links, .inl (cI, w1_n_f_Q_links, .inl w3_f_f_Q_links)), (w2_a_f_Q_pairs, .inl (cL, w2_n_f_Q_pairs, .inr (.inl w2_f_f_Q_pairs)))] H → va_D A [(o_Heap, .inr (3, [.ref o_Stacks, .ref r_H_globals, .int H_globalsUsed, .ref r_H_cells, .int H_used, .ref r_H_spare, .int H_spareUsed, .int H_old, .int H_oldLeadsToNew, .int H_limit, .int H_every, .int H_fresh, .int H_made, .int H_madeLimit, .int H_reachedFromGlobals, .int H_reachedInAll, .ref r_H_keptGlobals, .int H_keptGlobalsUsed, .ref r_H_keptCells, .int H_kept])), (o_Equality, .inr (5, [.ref o_Heap, .ref w1_a_f_Q_links, .ref w2_a_f_Q_pairs, .int w2_Q_size])), (r_H_cells, .inl (cL, n_H_cells, .inr (.inl f_H_cells))), (w1_a_f_Q_links, .inl (cI, w1_n_f_Q_links, .inl w3_f_f_Q_links)), (w2_a_f_Q_pairs, .inl (cL, w2_n_f_Q_pairs, .inr (.inl w2_f_f_Q_pairs)))] → va_S A s.heap H locs → lv_has ls 7 [(6, .int v3_6), (5, .int v2_5), (0, .ref o_Equality), (1, .long p0), (3, .long p1)] → W p l e ({ frames := 5, cells := Zc, slots := Zs, locals := 163 } : Room) s m args below meth c H locs cc cs Q (F0 m 147 ls [])) : ∀ (n3 : Nat) (v3_6 : Int32) (w3_f_f_Q_links : (Nat → Int32))  (z : α × Nat × Nat) (cc cs : Nat) (H : Heap) (locs : List Loc) (ls : Array Slot), lm_Equality_holds_3 N w1_n_f_Q_links w2_Q_size w2_f_f_Q_pairs w2_n_f_Q_pairs k3_147 n3 v3_6 w3_f_f_Q_links = some z → dz_G Z1 Zc Zs z cc cs → va_P (dC, dI) classes [(o_Heap, .inr (3, [.ref o_Stacks, .ref r_H_globals, .int H_globalsUsed, .ref r_H_cells, .int H_used, .ref r_H_spare, .int H_spareUsed, .int H_old, .int H_oldLeadsToNew, .int H_limit, .int H_every, .int H_fresh, .int H_made, .int H_madeLimit, .int H_reachedFromGlobals, .int H_reachedInAll, .ref r_H_keptGlobals, .int H_keptGlobalsUsed, .ref r_H_keptCells, .int H_kept])), (o_Equality, .inr (5, [.ref o_Heap, .ref w1_a_f_Q_links, .ref w2_a_f_Q_pairs, .int w2_Q_size])), (r_H_cells, .inl (cL, n_H_cells, .inr (.inl f_H_cells))), (w1_a_f_Q_links, .inl (cI, w1_n_f_Q_links, .inl w3_f_f_Q_links)), (w2_a_f_Q_pairs, .inl (cL, w2_n_f_Q_pairs, .inr (.inl w2_f_f_Q_pairs)))] H → va_D A [(o_Heap, .inr (3, [.ref o_Stacks, .ref r_H_globals, .int H_globalsUsed, .ref r_H_cells, .int H_used, .ref r_H_spare, .int H_spareUsed, .int H_old, .int H_oldLeadsToNew, .int H_limit, .int H_every, .int H_fresh, .int H_made, .int H_madeLimit, .int H_reachedFromGlobals, .int H_reachedInAll, .ref r_H_keptGlobals, .int H_keptGlobalsUsed, .ref r_H_keptCells, .int H_kept])), (o_Equality, .inr (5, [.ref o_Heap, .ref w1_a_f_Q_links, .ref w2_a_f_Q_pairs, .int w2_Q_size])), (r_H_cells, .inl (cL, n_H_cells, .inr (.inl f_H_cells))), (w1_a_f_Q_links, .inl (cI, w1_n_f_Q_links, .inl w3_f_f_Q_links)), (w2_a_f_Q_pairs, .inl (cL, w2_n_f_Q_pairs, .inr (.inl w2_f_f_Q_pairs)))] → va_S A s.heap H locs → lv_has ls 7 [(6, .int v3_6), (5, .int v2_5), (0, .ref o_Equality), (1, .long p0), (3, .long p1)] → W p l e ({ frames := 5, cells := Zc, slots := Zs, locals := 163 } : Room) s m args below meth c H locs cc cs Q (F0 m 101 ls []) := by
  intro n3
  induction n3 with
  | zero =>
    intro v3_6 w3_f_f_Q_links z cc cs H locs ls h hG hP hD hS hl
    rw [lm_Equality_holds_3] at h
    cases h
  | succ n3 ih3 =>
    intro v3_6 w3_f_f_Q_links z cc cs H locs ls h hG hP hD hS hl
    rw [lm_Equality_holds_3] at h
    refine lv_iload hx hb d_Equality_holds_101 (lv_at hl 0 rfl) ?_
    refine lv_aload_n hx hb d_Equality_holds_103 rfl (lv_at hl 2 rfl) ?_
    refine va_get (D := (dC, dI)) (ci := 5) (v := .int w2_Q_size) (C := R_Equality) (T := F_Equality) (N := 4) hx hb hg i_Equality hown hK hP 1 rfl rfl 3 (by decide) (hg _ k263) (fun _ h9 => h9) rfl d_Equality_holds_104 ?_
    refine lv_icmp_ge (tgt := 147) hx hb d_Equality_holds_107 (by decide) (fun c11 => ?_) (fun c11 => ?_)
    · rw [if_pos c11] at h
      exact hk3_147 v3_6 w3_f_f_Q_links _ _ _ _ _ _ h hG (hP.sub [0, 1, 2, 3, 4] rfl) (hD.sub [0, 1, 2, 3, 4] (by decide) rfl) hS (lv_sub hl [0, 1, 2, 3, 4] rfl)
    · rw [if_neg c11] at h
      refine lv_aload_n hx hb d_Equality_holds_110 rfl (lv_at hl 2 rfl) ?_
      refine va_get (D := (dC, dI)) (ci := 5) (v := .ref w1_a_f_Q_links) (C := R_Equality) (T := F_Equality) (N := 4) hx hb hg i_Equality hown hK hP 1 rfl rfl 1 (by decide) (hg _ k262) (fun _ h9 => h9) rfl d_Equality_holds_111 ?_
      refine lv_aload_n hx hb d_Equality_holds_114 rfl (lv_at hl 2 rfl) ?_
      refine va_get (D := (dC, dI)) (ci := 5) (v := .ref w2_a_f_Q_pairs) (C := R_Equality) (T := F_Equality) (N := 4) hx hb hg i_Equality hown hK hP 1 rfl rfl 2 (by decide) (hg _ k264) (fun _ h9 => h9) rfl d_Equality_holds_115 ?_
      refine lv_iload hx hb d_Equality_holds_118 (lv_at hl 0 rfl) ?_
      obtain ⟨i12, h⟩ := dz_oi h
      refine va_lald (D := (dC, dI)) hx hb hK hP 4 1 rfl rfl i12 d_Equality_holds_120 ?_
      refine lv_bipush (v := 32) hx hb d_Equality_holds_121 (by decide) ?_
      refine lv_lshr (v := (w2_f_f_Q_pairs v3_6.toNatClampNeg) >>> ((32 : Int32).toInt64 &&& 63)) hx hb d_Equality_holds_123 rfl ?_
      refine lv_l2i (v := ((w2_f_f_Q_pairs v3_6.toNatClampNeg) >>> ((32 : Int32).toInt64 &&& 63)).toInt32) hx hb d_Equality_holds_124 rfl ?_
      obtain ⟨x13, ex13, h⟩ := dz_lt h
      refine dz_topi ex13 ?_
      refine lv_iconst (v := 0) hx hb d_Equality_holds_125 (by decide) ?_
      obtain ⟨i14, h⟩ := dz_oi h
      refine va_iast (D := (dC, dI)) hx hb hK hP hD hS 3 0 rfl rfl i14 d_Equality_holds_126 (fun H locs hP hD hS => ?_)
      have hP : va_P (dC, dI) classes [(o_Heap, .inr (3, [.ref o_Stacks, .ref r_H_globals, .int H_globalsUsed, .ref r_H_cells, .int H_used, .ref r_H_spare, .int H_spareUsed, .int H_old, .int H_oldLeadsToNew, .int H_limit, .int H_every, .int H_fresh, .int H_made, .int H_madeLimit, .int H_reachedFromGlobals, .int H_reachedInAll, .ref r_H_keptGlobals, .int H_keptGlobalsUsed, .ref r_H_keptCells, .int H_kept])), (o_Equality, .inr (5, [.ref o_Heap, .ref w1_a_f_Q_links, .ref w2_a_f_Q_pairs, .int w2_Q_size])), (r_H_cells, .inl (cL, n_H_cells, .inr (.inl f_H_cells))), (w1_a_f_Q_links, .inl (cI, w1_n_f_Q_links, .inl (upd w3_f_f_Q_links x13.toNatClampNeg 0))), (w2_a_f_Q_pairs, .inl (cL, w2_n_f_Q_pairs, .inr (.inl w2_f_f_Q_pairs)))] H := hP
      have hD : va_D A [(o_Heap, .inr (3, [.ref o_Stacks, .ref r_H_globals, .int H_globalsUsed, .ref r_H_cells, .int H_used, .ref r_H_spare, .int H_spareUsed, .int H_old, .int H_oldLeadsToNew, .int H_limit, .int H_every, .int H_fresh, .int H_made, .int H_madeLimit, .int H_reachedFromGlobals, .int H_reachedInAll, .ref r_H_keptGlobals, .int H_keptGlobalsUsed, .ref r_H_keptCells, .int H_kept])), (o_Equality, .inr (5, [.ref o_Heap, .ref w1_a_f_Q_links, .ref w2_a_f_Q_pairs, .int w2_Q_size])), (r_H_cells, .inl (cL, n_H_cells, .inr (.inl f_H_cells))), (w1_a_f_Q_links, .inl (cI, w1_n_f_Q_links, .inl (upd w3_f_f_Q_links x13.toNatClampNeg 0))), (w2_a_f_Q_pairs, .inl (cL, w2_n_f_Q_pairs, .inr (.inl w2_f_f_Q_pairs)))] := hD
      refine lv_aload_n hx hb d_Equality_holds_127 rfl (lv_at hl 2 rfl) ?_
      refine va_get (D := (dC, dI)) (ci := 5) (v := .ref w1_a_f_Q_links) (C := R_Equality) (T := F_Equality) (N := 4) hx hb hg i_Equality hown hK hP 1 rfl rfl 1 (by decide) (hg _ k262) (fun _ h9 => h9) rfl d_Equality_holds_128 ?_
      refine lv_aload_n hx hb d_Equality_holds_131 rfl (lv_at hl 2 rfl) ?_
      refine va_get (D := (dC, dI)) (ci := 5) (v := .ref w2_a_f_Q_pairs) (C := R_Equality) (T := F_Equality) (N := 4) hx hb hg i_Equality hown hK hP 1 rfl rfl 2 (by decide) (hg _ k264) (fun _ h9 => h9) rfl d_Equality_holds_132 ?_
      refine lv_iload hx hb d_Equality_holds_135 (lv_at hl 0 rfl) ?_
      obtain ⟨i15, h⟩ := dz_oi h
      refine va_lald (D := (dC, dI)) hx hb hK hP 4 1 rfl rfl i15 d_Equality_holds_137 ?_
      refine lv_l2i (v := (w2_f_f_Q_pairs v3_6.toNatClampNeg).toInt32) hx hb d_Equality_holds_138 rfl ?_
      refine lv_iconst (v := 0) hx hb d_Equality_holds_139 (by decide) ?_
      obtain ⟨i16, h⟩ := dz_oi h
      refine va_iast (D := (dC, dI)) hx hb hK hP hD hS 3 0 rfl rfl i16 d_Equality_holds_140 (fun H locs hP hD hS => ?_)
      obtain ⟨g17, eg17, h⟩ := dz_lt h
      rw [← eg17] at hP hD
      have hP : va_P (dC, dI) classes [(o_Heap, .inr (3, [.ref o_Stacks, .ref r_H_globals, .int H_globalsUsed, .ref r_H_cells, .int H_used, .ref r_H_spare, .int H_spareUsed, .int H_old, .int H_oldLeadsToNew, .int H_limit, .int H_every, .int H_fresh, .int H_made, .int H_madeLimit, .int H_reachedFromGlobals, .int H_reachedInAll, .ref r_H_keptGlobals, .int H_keptGlobalsUsed, .ref r_H_keptCells, .int H_kept])), (o_Equality, .inr (5, [.ref o_Heap, .ref w1_a_f_Q_links, .ref w2_a_f_Q_pairs, .int w2_Q_size])), (r_H_cells, .inl (cL, n_H_cells, .inr (.inl f_H_cells))), (w1_a_f_Q_links, .inl (cI, w1_n_f_Q_links, .inl g17)), (w2_a_f_Q_pairs, .inl (cL, w2_n_f_Q_pairs, .inr (.inl w2_f_f_Q_pairs)))] H := hP
      have hD : va_D A [(o_Heap, .inr (3, [.ref o_Stacks, .ref r_H_globals, .int H_globalsUsed, .ref r_H_cells, .int H_used, .ref r_H_spare, .int H_spareUsed, .int H_old, .int H_oldLeadsToNew, .int H_limit, .int H_every, .int H_fresh, .int H_made, .int H_madeLimit, .int H_reachedFromGlobals, .int H_reachedInAll, .ref r_H_keptGlobals, .int H_keptGlobalsUsed, .ref r_H_keptCells, .int H_kept])), (o_Equality, .inr (5, [.ref o_Heap, .ref w1_a_f_Q_links, .ref w2_a_f_Q_pairs, .int w2_Q_size])), (r_H_cells, .inl (cL, n_H_cells, .inr (.inl f_H_cells))), (w1_a_f_Q_links, .inl (cI, w1_n_f_Q_links, .inl g17)), (w2_a_f_Q_pairs, .inl (cL, w2_n_f_Q_pairs, .inr (.inl w2_f_f_Q_pairs)))] := hD
      refine lv_iinc (v := v3_6 + 1) (lv' := [(6, .int (v3_6 + 1)), (5, .int v2_5), (0, .ref o_Equality), (1, .long p0), (3, .long p1)]) hx hb d_Equality_holds_141 hl (k := 0) rfl rfl (by decide) rfl (fun ls hl => ?_)
      refine lv_goto (tgt := 101) hx hb d_Equality_holds_144 (by decide) ?_
      exact ih3 (v3_6 + 1) g17 _ _ _ _ _ _ h hG (hP.sub [0, 1, 2, 3, 4] rfl) (hD.sub [0, 1, 2, 3, 4] (by decide) rfl) hS (lv_sub hl [0, 1, 2, 3, 4] rfl)
set_option maxHeartbeats 4000000 in
set_option maxRecDepth 100000 in
theorem c_Equality_holds (l : Launch) (dC : Nat → ClassId) (dI : Nat → Nat → Nat) (N : Nat) (cI : ClassId) (cL : ClassId) (o_Heap : Nat) (o_Stacks : Nat) (o_Equality : Nat) (r_H_globals : Nat) (r_H_cells : Nat) (r_H_spare : Nat) (r_H_keptGlobals : Nat) (r_H_keptCells : Nat) (r_Q_links : Nat) (r_Q_pairs : Nat) (H_globalsUsed : Int32) (H_used : Int32) (H_spareUsed : Int32) (H_old : Int32) (H_oldLeadsToNew : Int32) (H_limit : Int32) (H_every : Int32) (H_fresh : Int32) (H_made : Int32) (H_madeLimit : Int32) (H_reachedFromGlobals : Int32) (H_reachedInAll : Int32) (H_keptGlobalsUsed : Int32) (H_kept : Int32) (Q_size : Int32) (n_H_cells : Nat) (f_H_cells : Nat → Int64) (n_Q_links : Nat) (f_Q_links : Nat → Int32) (n_Q_pairs : Nat) (f_Q_pairs : Nat → Int64) (p0 : Int64) (p1 : Int64) (sz : Nat) (Z1 : Int32 × Int32 × Nat × (Nat → Int32) × Nat × (Nat → Int64)) (Zc Zs : Nat) (h : m_Equality_holds N H_globalsUsed H_used H_spareUsed H_old H_oldLeadsToNew H_limit H_every H_fresh H_made H_madeLimit H_reachedFromGlobals H_reachedInAll H_keptGlobalsUsed H_kept Q_size n_H_cells f_H_cells n_Q_links f_Q_links n_Q_pairs f_Q_pairs p0 p1 = some (Z1, Zc, Zs)) : Met l y_Equality_holds (.code y_Equality_holds b_Equality_holds 7 (some .boolean) :: lw_g) ({ frames := 5, cells := Zc, slots := Zs, locals := 163 }) (va_Pc [.ref o_Equality, .long p0, .long p1] (fun U => dz_N U ∧ U.heap.size = sz ∧ va_P (dC, dI) classes [(o_Heap, .inr (3, [.ref o_Stacks, .ref r_H_globals, .int H_globalsUsed, .ref r_H_cells, .int H_used, .ref r_H_spare, .int H_spareUsed, .int H_old, .int H_oldLeadsToNew, .int H_limit, .int H_every, .int H_fresh, .int H_made, .int H_madeLimit, .int H_reachedFromGlobals, .int H_reachedInAll, .ref r_H_keptGlobals, .int H_keptGlobalsUsed, .ref r_H_keptCells, .int H_kept])), (o_Equality, .inr (5, [.ref o_Heap, .ref r_Q_links, .ref r_Q_pairs, .int Q_size])), (r_H_cells, .inl (cL, n_H_cells, .inr (.inl f_H_cells))), (r_Q_links, .inl (cI, n_Q_links, .inl f_Q_links)), (r_Q_pairs, .inl (cL, n_Q_pairs, .inr (.inl f_Q_pairs)))] U.heap ∧ va_K (dC, dI) classes [(cI, .int), (cL, .long)] U ∧ va_D (fun _ => True) [(o_Heap, .inr (3, [.ref o_Stacks, .ref r_H_globals, .int H_globalsUsed, .ref r_H_cells, .int H_used, .ref r_H_spare, .int H_spareUsed, .int H_old, .int H_oldLeadsToNew, .int H_limit, .int H_every, .int H_fresh, .int H_made, .int H_madeLimit, .int H_reachedFromGlobals, .int H_reachedInAll, .ref r_H_keptGlobals, .int H_keptGlobalsUsed, .ref r_H_keptCells, .int H_kept])), (o_Equality, .inr (5, [.ref o_Heap, .ref r_Q_links, .ref r_Q_pairs, .int Q_size])), (r_H_cells, .inl (cL, n_H_cells, .inr (.inl f_H_cells))), (r_Q_links, .inl (cI, n_Q_links, .inl f_Q_links)), (r_Q_pairs, .inl (cL, n_Q_pairs, .inr (.inl f_Q_pairs)))])) (va_Qi (fun (r : Int32) (_ : Nat × Nat) => r = Z1.1 ∧ narrow .boolean (.int Z1.1) = .int Z1.1 ∧ fits .boolean (.int Z1.1) = true) (fun (u : Nat × Nat) t => va_P (dC, dI) classes [(o_Heap, .inr (3, [.ref o_Stacks, .ref r_H_globals, .int H_globalsUsed, .ref r_H_cells, .int H_used, .ref r_H_spare, .int H_spareUsed, .int H_old, .int H_oldLeadsToNew, .int H_limit, .int H_every, .int H_fresh, .int H_made, .int H_madeLimit, .int H_reachedFromGlobals, .int H_reachedInAll, .ref r_H_keptGlobals, .int H_keptGlobalsUsed, .ref r_H_keptCells, .int H_kept])), (o_Equality, .inr (5, [.ref o_Heap, .ref u.1, .ref u.2, .int Z1.2.1])), (r_H_cells, .inl (cL, n_H_cells, .inr (.inl f_H_cells))), (u.1, .inl (cI, Z1.2.2.1, .inl Z1.2.2.2.1)), (u.2, .inl (cL, Z1.2.2.2.2.1, .inr (.inl Z1.2.2.2.2.2)))] t.heap ∧ va_K (dC, dI) classes [(cI, .int), (cL, .long)] t ∧ va_D (va_A [(o_Heap, .inr (3, [.ref o_Stacks, .ref r_H_globals, .int H_globalsUsed, .ref r_H_cells, .int H_used, .ref r_H_spare, .int H_spareUsed, .int H_old, .int H_oldLeadsToNew, .int H_limit, .int H_every, .int H_fresh, .int H_made, .int H_madeLimit, .int H_reachedFromGlobals, .int H_reachedInAll, .ref r_H_keptGlobals, .int H_keptGlobalsUsed, .ref r_H_keptCells, .int H_kept])), (o_Equality, .inr (5, [.ref o_Heap, .ref r_Q_links, .ref r_Q_pairs, .int Q_size])), (r_H_cells, .inl (cL, n_H_cells, .inr (.inl f_H_cells))), (r_Q_links, .inl (cI, n_Q_links, .inl f_Q_links)), (r_Q_pairs, .inl (cL, n_Q_pairs, .inr (.inl f_Q_pairs)))] sz) [(o_Heap, .inr (3, [.ref o_Stacks, .ref r_H_globals, .int H_globalsUsed, .ref r_H_cells, .int H_used, .ref r_H_spare, .int H_spareUsed, .int H_old, .int H_oldLeadsToNew, .int H_limit, .int H_every, .int H_fresh, .int H_made, .int H_madeLimit, .int H_reachedFromGlobals, .int H_reachedInAll, .ref r_H_keptGlobals, .int H_keptGlobalsUsed, .ref r_H_keptCells, .int H_kept])), (o_Equality, .inr (5, [.ref o_Heap, .ref u.1, .ref u.2, .int Z1.2.1])), (r_H_cells, .inl (cL, n_H_cells, .inr (.inl f_H_cells))), (u.1, .inl (cI, Z1.2.2.1, .inl Z1.2.2.2.1)), (u.2, .inl (cL, Z1.2.2.2.2.1, .inr (.inl Z1.2.2.2.2.2)))]) (va_A [(o_Heap, .inr (3, [.ref o_Stacks, .ref r_H_globals, .int H_globalsUsed, .ref r_H_cells, .int H_used, .ref r_H_spare, .int H_spareUsed, .int H_old, .int H_oldLeadsToNew, .int H_limit, .int H_every, .int H_fresh, .int H_made, .int H_madeLimit, .int H_reachedFromGlobals, .int H_reachedInAll, .ref r_H_keptGlobals, .int H_keptGlobalsUsed, .ref r_H_keptCells, .int H_kept])), (o_Equality, .inr (5, [.ref o_Heap, .ref r_Q_links, .ref r_Q_pairs, .int Q_size])), (r_H_cells, .inl (cL, n_H_cells, .inr (.inl f_H_cells))), (r_Q_links, .inl (cI, n_Q_links, .inl f_Q_links)), (r_Q_pairs, .inl (cL, n_Q_pairs, .inr (.inl f_Q_pairs)))] sz)) Zc Zs (va_A [(o_Heap, .inr (3, [.ref o_Stacks, .ref r_H_globals, .int H_globalsUsed, .ref r_H_cells, .int H_used, .ref r_H_spare, .int H_spareUsed, .int H_old, .int H_oldLeadsToNew, .int H_limit, .int H_every, .int H_fresh, .int H_made, .int H_madeLimit, .int H_reachedFromGlobals, .int H_reachedInAll, .ref r_H_keptGlobals, .int H_keptGlobalsUsed, .ref r_H_keptCells, .int H_kept])), (o_Equality, .inr (5, [.ref o_Heap, .ref r_Q_links, .ref r_Q_pairs, .int Q_size])), (r_H_cells, .inl (cL, n_H_cells, .inr (.inl f_H_cells))), (r_Q_links, .inl (cI, n_Q_links, .inl f_Q_links)), (r_Q_pairs, .inl (cL, n_Q_pairs, .inr (.inl f_Q_pairs)))] sz) := by
  refine Met.ofW (cc := b_Equality_holds) (maxL := 7) (ret := (some .boolean)) (by decide +kernel) rfl ?_
  intro p e s m args below meth c s₁ B hml hv
  obtain ⟨rfl, hN, hsz, hP, hK, hD0⟩ := hv
  have hx := B.exec
  have hb := B.bytes
  have hr := B.returns
  have hg : ∀ w ∈ lw_g, w.before _ s = true := fun w hw => atoms_spec (ws := .code y_Equality_holds b_Equality_holds 7 (some .boolean) :: lw_g) B.pre w (List.mem_cons_of_mem _ hw)
  have hown : s.vm.findClass R_Equality = some m.cls := findClass_of_methodNamed B.named
  have hlocks := B.notSynchronized
  clear B
  subst hsz
  have hD := hD0.self (sz := s.heap.size)
  generalize hAe : va_A [(o_Heap, .inr (3, [.ref o_Stacks, .ref r_H_globals, .int H_globalsUsed, .ref r_H_cells, .int H_used, .ref r_H_spare, .int H_spareUsed, .int H_old, .int H_oldLeadsToNew, .int H_limit, .int H_every, .int H_fresh, .int H_made, .int H_madeLimit, .int H_reachedFromGlobals, .int H_reachedInAll, .ref r_H_keptGlobals, .int H_keptGlobalsUsed, .ref r_H_keptCells, .int H_kept])), (o_Equality, .inr (5, [.ref o_Heap, .ref r_Q_links, .ref r_Q_pairs, .int Q_size])), (r_H_cells, .inl (cL, n_H_cells, .inr (.inl f_H_cells))), (r_Q_links, .inl (cI, n_Q_links, .inl f_Q_links)), (r_Q_pairs, .inl (cL, n_Q_pairs, .inr (.inl f_Q_pairs)))] s.heap.size = A at hD ⊢
  have hA : ∀ q : Nat, s.heap.size ≤ q → A q := fun q h => by rw [← hAe]; exact Or.inr h
  have hS : va_S A s.heap s.heap [] := va_S.rf
  have hP : va_P (dC, dI) classes [(o_Heap, .inr (3, [.ref o_Stacks, .ref r_H_globals, .int H_globalsUsed, .ref r_H_cells, .int H_used, .ref r_H_spare, .int H_spareUsed, .int H_old, .int H_oldLeadsToNew, .int H_limit, .int H_every, .int H_fresh, .int H_made, .int H_madeLimit, .int H_reachedFromGlobals, .int H_reachedInAll, .ref r_H_keptGlobals, .int H_keptGlobalsUsed, .ref r_H_keptCells, .int H_kept])), (o_Equality, .inr (5, [.ref o_Heap, .ref r_Q_links, .ref r_Q_pairs, .int Q_size])), (r_H_cells, .inl (cL, n_H_cells, .inr (.inl f_H_cells))), (r_Q_links, .inl (cI, n_Q_links, .inl f_Q_links)), (r_Q_pairs, .inl (cL, n_Q_pairs, .inr (.inl f_Q_pairs)))] s.heap := hP
  have hl := lv_entry ([.ref o_Equality, .long p0, .long p1]) (n := 7) (Nat.le_of_ble_eq_true rfl)
  rw [lg_entry_eq]
  generalize (lg_sl ([.ref o_Equality, .long p0, .long p1]) ++ List.replicate (7 - (lg_sl ([.ref o_Equality, .long p0, .long p1])).length) Slot.unset).toArray = ls at hl ⊢
  have hl : lv_has ls 7 [(0, .ref o_Equality), (1, .long p0), (3, .long p1)] := hl
  unfold m_Equality_holds at h
  have hG : dz_G Z1 Zc Zs (Z1, Zc, Zs) 0 0 := ⟨rfl, (Nat.zero_add _).symm, (Nat.zero_add _).symm⟩
  generalize (Z1, Zc, Zs) = z at h hG
  refine l_Equality_holds_1 dC dI N cI cL o_Heap o_Stacks o_Equality r_H_globals r_H_cells r_H_spare r_H_keptGlobals r_H_keptCells r_Q_pairs H_globalsUsed H_used H_spareUsed H_old H_oldLeadsToNew H_limit H_every H_fresh H_made H_madeLimit H_reachedFromGlobals H_reachedInAll H_keptGlobalsUsed H_kept Q_size n_H_cells f_H_cells n_Q_pairs f_Q_pairs p0 p1 hx hb hml hown hg hN hK hA (fun w1_n_f_Q_links w1_f_f_Q_links w1_a_f_Q_links z cc cs H locs ls h hG hP hD hS hl => ?_) n_Q_links f_Q_links r_Q_links _ _ _ _ _ _ h hG (hP.sub [0, 1, 2, 3, 4] rfl) (hD.sub [0, 1, 2, 3, 4] (by decide) rfl) hS (lv_sub hl [0, 1, 2] rfl)
  refine lv_aload_n hx hb d_Equality_holds_30 rfl (lv_at hl 0 rfl) ?_
  refine lv_iconst (v := 0) hx hb d_Equality_holds_31 (by decide) ?_
  refine va_put (D := (dC, dI)) (ci := 5) (v := .int 0) (ty := .int) (C := R_Equality) (T := F_Equality) (N := 4) hx hb hg i_Equality t_Equality t_Equality_ok n_Equality hown hK hP hD hS 1 rfl rfl 3 (by decide) (hg _ k263) (fun _ h9 => h9) rfl (by decide +kernel) rfl rfl (Nat.le_of_ble_eq_true rfl) d_Equality_holds_32 (fun H locs hP hD hS => ?_)
  have hP : va_P (dC, dI) classes [(o_Heap, .inr (3, [.ref o_Stacks, .ref r_H_globals, .int H_globalsUsed, .ref r_H_cells, .int H_used, .ref r_H_spare, .int H_spareUsed, .int H_old, .int H_oldLeadsToNew, .int H_limit, .int H_every, .int H_fresh, .int H_made, .int H_madeLimit, .int H_reachedFromGlobals, .int H_reachedInAll, .ref r_H_keptGlobals, .int H_keptGlobalsUsed, .ref r_H_keptCells, .int H_kept])), (o_Equality, .inr (5, [.ref o_Heap, .ref w1_a_f_Q_links, .ref r_Q_pairs, .int 0])), (r_H_cells, .inl (cL, n_H_cells, .inr (.inl f_H_cells))), (w1_a_f_Q_links, .inl (cI, w1_n_f_Q_links, .inl w1_f_f_Q_links)), (r_Q_pairs, .inl (cL, n_Q_pairs, .inr (.inl f_Q_pairs)))] H := hP
  have hD : va_D A [(o_Heap, .inr (3, [.ref o_Stacks, .ref r_H_globals, .int H_globalsUsed, .ref r_H_cells, .int H_used, .ref r_H_spare, .int H_spareUsed, .int H_old, .int H_oldLeadsToNew, .int H_limit, .int H_every, .int H_fresh, .int H_made, .int H_madeLimit, .int H_reachedFromGlobals, .int H_reachedInAll, .ref r_H_keptGlobals, .int H_keptGlobalsUsed, .ref r_H_keptCells, .int H_kept])), (o_Equality, .inr (5, [.ref o_Heap, .ref w1_a_f_Q_links, .ref r_Q_pairs, .int 0])), (r_H_cells, .inl (cL, n_H_cells, .inr (.inl f_H_cells))), (w1_a_f_Q_links, .inl (cI, w1_n_f_Q_links, .inl w1_f_f_Q_links)), (r_Q_pairs, .inl (cL, n_Q_pairs, .inr (.inl f_Q_pairs)))] := hD
  refine lv_aload_n hx hb d_Equality_holds_35 rfl (lv_at hl 0 rfl) ?_
  refine lv_lload_n hx hb d_Equality_holds_36 rfl (lv_at hl 1 rfl) ?_
  refine lv_lload_n hx hb d_Equality_holds_37 rfl (lv_at hl 2 rfl) ?_
  obtain ⟨⟨⟨z3_1, z3_2, z3_3, z3_4, z3_5⟩, zc3, zs3⟩, hc3, h⟩ := dz_ob h
  try dsimp only at h
  obtain ⟨z, h, hG⟩ := dz_tkG h hG
  have hPc := hP.sub (ws' := [(o_Heap, .inr (3, [.ref o_Stacks, .ref r_H_globals, .int H_globalsUsed, .ref r_H_cells, .int H_used, .ref r_H_spare, .int H_spareUsed, .int H_old, .int H_oldLeadsToNew, .int H_limit, .int H_every, .int H_fresh, .int H_made, .int H_madeLimit, .int H_reachedFromGlobals, .int H_reachedInAll, .ref r_H_keptGlobals, .int H_keptGlobalsUsed, .ref r_H_keptCells, .int H_kept])), (o_Equality, .inr (5, [.ref o_Heap, .ref w1_a_f_Q_links, .ref r_Q_pairs, .int 0])), (r_H_cells, .inl (cL, n_H_cells, .inr (.inl f_H_cells))), (w1_a_f_Q_links, .inl (cI, w1_n_f_Q_links, .inl w1_f_f_Q_links)), (r_Q_pairs, .inl (cL, n_Q_pairs, .inr (.inl f_Q_pairs)))]) [0, 1, 2, 3, 4] rfl
  have hKc := hK.sub (tys' := [(cI, .int), (cL, .long)]) [0, 1] rfl
  have hDc := hD.sub (ws' := [(o_Heap, .inr (3, [.ref o_Stacks, .ref r_H_globals, .int H_globalsUsed, .ref r_H_cells, .int H_used, .ref r_H_spare, .int H_spareUsed, .int H_old, .int H_oldLeadsToNew, .int H_limit, .int H_every, .int H_fresh, .int H_made, .int H_madeLimit, .int H_reachedFromGlobals, .int H_reachedInAll, .ref r_H_keptGlobals, .int H_keptGlobalsUsed, .ref r_H_keptCells, .int H_kept])), (o_Equality, .inr (5, [.ref o_Heap, .ref w1_a_f_Q_links, .ref r_Q_pairs, .int 0])), (r_H_cells, .inl (cL, n_H_cells, .inr (.inl f_H_cells))), (w1_a_f_Q_links, .inl (cI, w1_n_f_Q_links, .inl w1_f_f_Q_links)), (r_Q_pairs, .inl (cL, n_Q_pairs, .inr (.inl f_Q_pairs)))]) [0, 1, 2, 3, 4] (by decide) rfl
  have hFc := va_free (wc := [(o_Heap, .inr (3, [.ref o_Stacks, .ref r_H_globals, .int H_globalsUsed, .ref r_H_cells, .int H_used, .ref r_H_spare, .int H_spareUsed, .int H_old, .int H_oldLeadsToNew, .int H_limit, .int H_every, .int H_fresh, .int H_made, .int H_madeLimit, .int H_reachedFromGlobals, .int H_reachedInAll, .ref r_H_keptGlobals, .int H_keptGlobalsUsed, .ref r_H_keptCells, .int H_kept])), (o_Equality, .inr (5, [.ref o_Heap, .ref w1_a_f_Q_links, .ref r_Q_pairs, .int 0])), (r_H_cells, .inl (cL, n_H_cells, .inr (.inl f_H_cells))), (w1_a_f_Q_links, .inl (cI, w1_n_f_Q_links, .inl w1_f_f_Q_links)), (r_Q_pairs, .inl (cL, n_Q_pairs, .inr (.inl f_Q_pairs)))]) hD hS hA [0, 1, 2, 3, 4] rfl
  refine va_calli (va_runV (As := [.long p0, .long p1]) (rest := []) ⟨hx, hb, hml, hown, hg⟩ (c_Equality_join l dC dI N cI cL o_Heap o_Stacks o_Equality r_H_globals r_H_cells r_H_spare r_H_keptGlobals r_H_keptCells w1_a_f_Q_links r_Q_pairs H_globalsUsed H_used H_spareUsed H_old H_oldLeadsToNew H_limit H_every H_fresh H_made H_madeLimit H_reachedFromGlobals H_reachedInAll H_keptGlobalsUsed H_kept (0 : Int32) n_H_cells f_H_cells w1_n_f_Q_links w1_f_f_Q_links n_Q_pairs f_Q_pairs p0 p1 H.size (z3_1, z3_2, z3_3, z3_4, z3_5) zc3 zs3 hc3) (cwV 2 hg (gd_V k281 k282 k283 k274 k280) rfl rfl rfl (by decide +kernel) ⟨Nat.le_of_ble_eq_true rfl, Nat.le_of_ble_eq_true rfl⟩) ⟨dz_blind, va_recv hKc hPc (ci := 5) (q0 := 1) rfl rfl, fun U hU hW => ⟨rfl, dz_Nw hW hN, by rw [hU], by rw [hU]; exact hPc, va_K.moved hW.alike hKc, hDc.weaken (fun _ _ _ _ => trivial)⟩⟩ rfl rfl hl.1 rfl (lv_room (Nat.le_of_ble_eq_true rfl)) d_Equality_holds_38 ⟨dz_Gc hG, dz_Gs hG⟩) hS (fun q _ h => hFc q h) hFc (fun r3 u3 t3 H1 locs ht hvm hw hB hz1 hk1 hS => ?_)
  obtain ⟨a3_0, rfl⟩ : ∃ z, z = u3 := ⟨_, rfl⟩
  obtain ⟨hP1, hK1, hD1⟩ := hB
  rw [ht] at hP1
  obtain ⟨hP, hD⟩ := va_join (wr := []) (w1 := [(o_Heap, .inr (3, [.ref o_Stacks, .ref r_H_globals, .int H_globalsUsed, .ref r_H_cells, .int H_used, .ref r_H_spare, .int H_spareUsed, .int H_old, .int H_oldLeadsToNew, .int H_limit, .int H_every, .int H_fresh, .int H_made, .int H_madeLimit, .int H_reachedFromGlobals, .int H_reachedInAll, .ref r_H_keptGlobals, .int H_keptGlobalsUsed, .ref r_H_keptCells, .int H_kept])), (o_Equality, .inr (5, [.ref o_Heap, .ref w1_a_f_Q_links, .ref a3_0, .int z3_3])), (r_H_cells, .inl (cL, n_H_cells, .inr (.inl f_H_cells))), (w1_a_f_Q_links, .inl (cI, w1_n_f_Q_links, .inl z3_2)), (a3_0, .inl (cL, z3_4, .inr (.inl z3_5)))]) hP hD [0, 1, 2, 3, 4] [] rfl rfl (by decide) (by decide) hk1 hFc hP1 hD1
  obtain ⟨hw, hbz3⟩ := hw
  have hw : z3_1 = r3 := hw.symm
  subst hw
  generalize H1 = H at hP hS ⊢
  have hP : va_P (dC, dI) classes [(o_Heap, .inr (3, [.ref o_Stacks, .ref r_H_globals, .int H_globalsUsed, .ref r_H_cells, .int H_used, .ref r_H_spare, .int H_spareUsed, .int H_old, .int H_oldLeadsToNew, .int H_limit, .int H_every, .int H_fresh, .int H_made, .int H_madeLimit, .int H_reachedFromGlobals, .int H_reachedInAll, .ref r_H_keptGlobals, .int H_keptGlobalsUsed, .ref r_H_keptCells, .int H_kept])), (o_Equality, .inr (5, [.ref o_Heap, .ref w1_a_f_Q_links, .ref a3_0, .int z3_3])), (r_H_cells, .inl (cL, n_H_cells, .inr (.inl f_H_cells))), (w1_a_f_Q_links, .inl (cI, w1_n_f_Q_links, .inl z3_2)), (a3_0, .inl (cL, z3_4, .inr (.inl z3_5)))] H := hP
  have hD : va_D A [(o_Heap, .inr (3, [.ref o_Stacks, .ref r_H_globals, .int H_globalsUsed, .ref r_H_cells, .int H_used, .ref r_H_spare, .int H_spareUsed, .int H_old, .int H_oldLeadsToNew, .int H_limit, .int H_every, .int H_fresh, .int H_made, .int H_madeLimit, .int H_reachedFromGlobals, .int H_reachedInAll, .ref r_H_keptGlobals, .int H_keptGlobalsUsed, .ref r_H_keptCells, .int H_kept])), (o_Equality, .inr (5, [.ref o_Heap, .ref w1_a_f_Q_links, .ref a3_0, .int z3_3])), (r_H_cells, .inl (cL, n_H_cells, .inr (.inl f_H_cells))), (w1_a_f_Q_links, .inl (cI, w1_n_f_Q_links, .inl z3_2)), (a3_0, .inl (cL, z3_4, .inr (.inl z3_5)))] := hD
  refine lv_istore (lv' := [(5, .int z3_1), (0, .ref o_Equality), (1, .long p0), (3, .long p1)]) hx hb d_Equality_holds_41 hl (by decide) rfl (fun ls hl => ?_)
  refine lv_iconst (v := 0) hx hb d_Equality_holds_43 (by decide) ?_
  refine lv_istore (lv' := [(6, .int 0), (5, .int z3_1), (0, .ref o_Equality), (1, .long p0), (3, .long p1)]) hx hb d_Equality_holds_44 hl (by decide) rfl (fun ls hl => ?_)
  refine l_Equality_holds_2 dC dI N cI cL o_Heap o_Stacks o_Equality r_H_globals r_H_cells r_H_spare r_H_keptGlobals r_H_keptCells H_globalsUsed H_used H_spareUsed H_old H_oldLeadsToNew H_limit H_every H_fresh H_made H_madeLimit H_reachedFromGlobals H_reachedInAll H_keptGlobalsUsed H_kept n_H_cells f_H_cells p0 p1 w1_n_f_Q_links w1_a_f_Q_links hx hb hml hown hg hN hK hA (fun v2_5 v2_6 w2_f_f_Q_links w2_Q_size w2_n_f_Q_pairs w2_f_f_Q_pairs w2_a_f_Q_pairs z cc cs H locs ls h hG hP hD hS hl => ?_) N z3_1 (0 : Int32) z3_2 z3_3 z3_4 z3_5 a3_0 _ _ _ _ _ _ h hG (hP.sub [0, 1, 2, 3, 4] rfl) (hD.sub [0, 1, 2, 3, 4] (by decide) rfl) hS (lv_sub hl [0, 1, 2, 3, 4] rfl)
  refine lv_iconst (v := 0) hx hb d_Equality_holds_98 (by decide) ?_
  refine lv_istore (lv' := [(6, .int 0), (5, .int v2_5), (0, .ref o_Equality), (1, .long p0), (3, .long p1)]) hx hb d_Equality_holds_99 hl (by decide) rfl (fun ls hl => ?_)
  refine l_Equality_holds_3 dC dI N cI cL o_Heap o_Stacks o_Equality r_H_globals r_H_cells r_H_spare r_H_keptGlobals r_H_keptCells H_globalsUsed H_used H_spareUsed H_old H_oldLeadsToNew H_limit H_every H_fresh H_made H_madeLimit H_reachedFromGlobals H_reachedInAll H_keptGlobalsUsed H_kept n_H_cells f_H_cells p0 p1 w1_n_f_Q_links w1_a_f_Q_links v2_5 w2_Q_size w2_f_f_Q_pairs w2_n_f_Q_pairs w2_a_f_Q_pairs hx hb hml hown hg hN hK hA (fun v3_6 w3_f_f_Q_links z cc cs H locs ls h hG hP hD hS hl => ?_) N (0 : Int32) w2_f_f_Q_links _ _ _ _ _ _ h hG (hP.sub [0, 1, 2, 3, 4] rfl) (hD.sub [0, 1, 2, 3, 4] (by decide) rfl) hS (lv_sub hl [0, 1, 2, 3, 4] rfl)
  refine lv_iload hx hb d_Equality_holds_147 (lv_at hl 1 rfl) ?_
  obtain ⟨i18, h⟩ := dz_oi h
  have hbz18 := dz_bool i18
  obtain rfl := Option.some.inj h
  have hP9 := hP.sub (ws' := [(o_Heap, .inr (3, [.ref o_Stacks, .ref r_H_globals, .int H_globalsUsed, .ref r_H_cells, .int H_used, .ref r_H_spare, .int H_spareUsed, .int H_old, .int H_oldLeadsToNew, .int H_limit, .int H_every, .int H_fresh, .int H_made, .int H_madeLimit, .int H_reachedFromGlobals, .int H_reachedInAll, .ref r_H_keptGlobals, .int H_keptGlobalsUsed, .ref r_H_keptCells, .int H_kept])), (o_Equality, .inr (5, [.ref o_Heap, .ref w1_a_f_Q_links, .ref w2_a_f_Q_pairs, .int w2_Q_size])), (r_H_cells, .inl (cL, n_H_cells, .inr (.inl f_H_cells))), (w1_a_f_Q_links, .inl (cI, w1_n_f_Q_links, .inl w3_f_f_Q_links)), (w2_a_f_Q_pairs, .inl (cL, w2_n_f_Q_pairs, .inr (.inl w2_f_f_Q_pairs)))]) [0, 1, 2, 3, 4] rfl
  have hD9 := hD.sub (ws' := [(o_Heap, .inr (3, [.ref o_Stacks, .ref r_H_globals, .int H_globalsUsed, .ref r_H_cells, .int H_used, .ref r_H_spare, .int H_spareUsed, .int H_old, .int H_oldLeadsToNew, .int H_limit, .int H_every, .int H_fresh, .int H_made, .int H_madeLimit, .int H_reachedFromGlobals, .int H_reachedInAll, .ref r_H_keptGlobals, .int H_keptGlobalsUsed, .ref r_H_keptCells, .int H_kept])), (o_Equality, .inr (5, [.ref o_Heap, .ref w1_a_f_Q_links, .ref w2_a_f_Q_pairs, .int w2_Q_size])), (r_H_cells, .inl (cL, n_H_cells, .inr (.inl f_H_cells))), (w1_a_f_Q_links, .inl (cI, w1_n_f_Q_links, .inl w3_f_f_Q_links)), (w2_a_f_Q_pairs, .inl (cL, w2_n_f_Q_pairs, .inr (.inl w2_f_f_Q_pairs)))]) [0, 1, 2, 3, 4] (by decide) rfl
  have hK9 := hK.sub (tys' := [(cI, .int), (cL, .long)]) [0, 1] rfl
  refine W.widen (dz_Gc hG) (dz_Gs hG) ?_
  obtain ⟨rfl, -, -⟩ := hG
  exact W.zret (v := v2_5) (ty := .boolean) hx hb hr hbz18.1 (fun t ht hW => ⟨⟨v2_5, (w1_a_f_Q_links, w2_a_f_Q_pairs), rfl, ⟨rfl, hbz18.1, hbz18.2⟩, by rw [ht]; exact hP9, va_K.moved hW.alike hK9, hD9⟩, hS.F ht⟩) hS.2.2 d_Equality_holds_149
