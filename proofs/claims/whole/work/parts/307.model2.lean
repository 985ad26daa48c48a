theorem d_Model_next_0 : decode b_Model_next 0 = .ok (.aload_n 0, 1) := by decide +kernel
theorem d_Model_next_1 : decode b_Model_next 1 = .ok (.iload_n 2, 1) := by decide +kernel
theorem d_Model_next_2 : decode b_Model_next 2 = .ok (.iconst 5, 1) := by decide +kernel
theorem d_Model_next_3 : decode b_Model_next 3 = .ok (.if_icmp .ne 12, 3) := by decide +kernel
theorem d_Model_next_6 : decode b_Model_next 6 = .ok (.aload_n 0, 1) := by decide +kernel
theorem d_Model_next_7 : decode b_Model_next 7 = .ok (.getfield 185, 3) := by decide +kernel
theorem d_Model_next_10 : decode b_Model_next 10 = .ok (.iload_n 1, 1) := by decide +kernel
theorem d_Model_next_11 : decode b_Model_next 11 = .ok (.iadd, 1) := by decide +kernel
theorem d_Model_next_12 : decode b_Model_next 12 = .ok (.goto 7, 3) := by decide +kernel
theorem d_Model_next_15 : decode b_Model_next 15 = .ok (.aload_n 0, 1) := by decide +kernel
theorem d_Model_next_16 : decode b_Model_next 16 = .ok (.getfield 185, 3) := by decide +kernel
theorem d_Model_next_19 : decode b_Model_next 19 = .ok (.putfield 185, 3) := by decide +kernel
theorem d_Model_next_22 : decode b_Model_next 22 = .ok (.iload_n 2, 1) := by decide +kernel
theorem d_Model_next_23 : decode b_Model_next 23 = .ok (.ireturn, 1) := by decide +kernel
theorem d_Model_kindAt_0 : decode b_Model_kindAt 0 = .ok (.aload_n 0, 1) := by decide +kernel
theorem d_Model_kindAt_1 : decode b_Model_kindAt 1 = .ok (.getfield 10, 3) := by decide +kernel
theorem d_Model_kindAt_4 : decode b_Model_kindAt 4 = .ok (.iload_n 1, 1) := by decide +kernel
theorem d_Model_kindAt_5 : decode b_Model_kindAt 5 = .ok (.iaload, 1) := by decide +kernel
theorem d_Model_kindAt_6 : decode b_Model_kindAt 6 = .ok (.sipush 255, 3) := by decide +kernel
theorem d_Model_kindAt_9 : decode b_Model_kindAt 9 = .ok (.iand, 1) := by decide +kernel
theorem d_Model_kindAt_10 : decode b_Model_kindAt 10 = .ok (.ireturn, 1) := by decide +kernel
theorem d_Model_partsAt_0 : decode b_Model_partsAt 0 = .ok (.aload_n 0, 1) := by decide +kernel
theorem d_Model_partsAt_1 : decode b_Model_partsAt 1 = .ok (.iload_n 1, 1) := by decide +kernel
theorem d_Model_partsAt_2 : decode b_Model_partsAt 2 = .ok (.invokevirtual 102, 3) := by decide +kernel
theorem d_Model_partsAt_5 : decode b_Model_partsAt 5 = .ok (.istore_n 2, 1) := by decide +kernel
theorem d_Model_partsAt_6 : decode b_Model_partsAt 6 = .ok (.iload_n 2, 1) := by decide +kernel
theorem d_Model_partsAt_7 : decode b_Model_partsAt 7 = .ok (.bipush 6, 2) := by decide +kernel
theorem d_Model_partsAt_9 : decode b_Model_partsAt 9 = .ok (.if_icmp .ne 7, 3) := by decide +kernel
theorem d_Model_partsAt_12 : decode b_Model_partsAt 12 = .ok (.iconst 0, 1) := by decide +kernel
theorem d_Model_partsAt_13 : decode b_Model_partsAt 13 = .ok (.goto 26, 3) := by decide +kernel
theorem d_Model_partsAt_16 : decode b_Model_partsAt 16 = .ok (.iload_n 2, 1) := by decide +kernel
theorem d_Model_partsAt_17 : decode b_Model_partsAt 17 = .ok (.iconst 2, 1) := by decide +kernel
theorem d_Model_partsAt_18 : decode b_Model_partsAt 18 = .ok (.if_icmp .eq 8, 3) := by decide +kernel
theorem d_Model_partsAt_21 : decode b_Model_partsAt 21 = .ok (.iload_n 2, 1) := by decide +kernel
theorem d_Model_partsAt_22 : decode b_Model_partsAt 22 = .ok (.iconst 4, 1) := by decide +kernel
theorem d_Model_partsAt_23 : decode b_Model_partsAt 23 = .ok (.if_icmp .ne 15, 3) := by decide +kernel
theorem d_Model_partsAt_26 : decode b_Model_partsAt 26 = .ok (.aload_n 0, 1) := by decide +kernel
theorem d_Model_partsAt_27 : decode b_Model_partsAt 27 = .ok (.getfield 10, 3) := by decide +kernel
theorem d_Model_partsAt_30 : decode b_Model_partsAt 30 = .ok (.iload_n 1, 1) := by decide +kernel
theorem d_Model_partsAt_31 : decode b_Model_partsAt 31 = .ok (.iaload, 1) := by decide +kernel
theorem d_Model_partsAt_32 : decode b_Model_partsAt 32 = .ok (.bipush 8, 2) := by decide +kernel
theorem d_Model_partsAt_34 : decode b_Model_partsAt 34 = .ok (.iushr, 1) := by decide +kernel
theorem d_Model_partsAt_35 : decode b_Model_partsAt 35 = .ok (.goto 4, 3) := by decide +kernel
theorem d_Model_partsAt_38 : decode b_Model_partsAt 38 = .ok (.iconst 1, 1) := by decide +kernel
theorem d_Model_partsAt_39 : decode b_Model_partsAt 39 = .ok (.ireturn, 1) := by decide +kernel
theorem d_Model_sizeAt_0 : decode b_Model_sizeAt 0 = .ok (.iconst 1, 1) := by decide +kernel
theorem d_Model_sizeAt_1 : decode b_Model_sizeAt 1 = .ok (.aload_n 0, 1) := by decide +kernel
theorem d_Model_sizeAt_2 : decode b_Model_sizeAt 2 = .ok (.iload_n 1, 1) := by decide +kernel
theorem d_Model_sizeAt_3 : decode b_Model_sizeAt 3 = .ok (.invokevirtual 102, 3) := by decide +kernel
theorem d_Model_sizeAt_6 : decode b_Model_sizeAt 6 = .ok (.bipush 6, 2) := by decide +kernel
theorem d_Model_sizeAt_8 : decode b_Model_sizeAt 8 = .ok (.if_icmp .ne 16, 3) := by decide +kernel
theorem d_Model_sizeAt_11 : decode b_Model_sizeAt 11 = .ok (.aload_n 0, 1) := by decide +kernel
theorem d_Model_sizeAt_12 : decode b_Model_sizeAt 12 = .ok (.getfield 14, 3) := by decide +kernel
theorem d_Model_sizeAt_15 : decode b_Model_sizeAt 15 = .ok (.iload_n 1, 1) := by decide +kernel
theorem d_Model_sizeAt_16 : decode b_Model_sizeAt 16 = .ok (.iaload, 1) := by decide +kernel
theorem d_Model_sizeAt_17 : decode b_Model_sizeAt 17 = .ok (.iconst 3, 1) := by decide +kernel
theorem d_Model_sizeAt_18 : decode b_Model_sizeAt 18 = .ok (.iadd, 1) := by decide +kernel
theorem d_Model_sizeAt_19 : decode b_Model_sizeAt 19 = .ok (.iconst 4, 1) := by decide +kernel
theorem d_Model_sizeAt_20 : decode b_Model_sizeAt 20 = .ok (.idiv, 1) := by decide +kernel
theorem d_Model_sizeAt_21 : decode b_Model_sizeAt 21 = .ok (.goto 8, 3) := by decide +kernel
theorem d_Model_sizeAt_24 : decode b_Model_sizeAt 24 = .ok (.aload_n 0, 1) := by decide +kernel
theorem d_Model_sizeAt_25 : decode b_Model_sizeAt 25 = .ok (.iload_n 1, 1) := by decide +kernel
theorem d_Model_sizeAt_26 : decode b_Model_sizeAt 26 = .ok (.invokevirtual 106, 3) := by decide +kernel
theorem d_Model_sizeAt_29 : decode b_Model_sizeAt 29 = .ok (.iadd, 1) := by decide +kernel
theorem d_Model_sizeAt_30 : decode b_Model_sizeAt 30 = .ok (.ireturn, 1) := by decide +kernel
theorem d_Model_mark_0 : decode b_Model_mark 0 = .ok (.iload_n 1, 1) := by decide +kernel
theorem d_Model_mark_1 : decode b_Model_mark 1 = .ok (.iconst 2, 1) := by decide +kernel
theorem d_Model_mark_2 : decode b_Model_mark 2 = .ok (.if_icmp .ne 42, 3) := by decide +kernel
theorem d_Model_mark_5 : decode b_Model_mark 5 = .ok (.aload_n 0, 1) := by decide +kernel
theorem d_Model_mark_6 : decode b_Model_mark 6 = .ok (.getfield 17, 3) := by decide +kernel
theorem d_Model_mark_9 : decode b_Model_mark 9 = .ok (.iload_n 2, 1) := by decide +kernel
theorem d_Model_mark_10 : decode b_Model_mark 10 = .ok (.iaload, 1) := by decide +kernel
theorem d_Model_mark_11 : decode b_Model_mark 11 = .ok (.iconst (-1), 1) := by decide +kernel
theorem d_Model_mark_12 : decode b_Model_mark 12 = .ok (.if_icmp .ne 32, 3) := by decide +kernel
theorem d_Model_mark_15 : decode b_Model_mark 15 = .ok (.aload_n 0, 1) := by decide +kernel
theorem d_Model_mark_16 : decode b_Model_mark 16 = .ok (.getfield 17, 3) := by decide +kernel
theorem d_Model_mark_19 : decode b_Model_mark 19 = .ok (.iload_n 2, 1) := by decide +kernel
theorem d_Model_mark_20 : decode b_Model_mark 20 = .ok (.aload_n 0, 1) := by decide +kernel
theorem d_Model_mark_21 : decode b_Model_mark 21 = .ok (.getfield 109, 3) := by decide +kernel
theorem d_Model_mark_24 : decode b_Model_mark 24 = .ok (.iastore, 1) := by decide +kernel
theorem d_Model_mark_25 : decode b_Model_mark 25 = .ok (.aload_n 0, 1) := by decide +kernel
theorem d_Model_mark_26 : decode b_Model_mark 26 = .ok (.iload_n 2, 1) := by decide +kernel
theorem d_Model_mark_27 : decode b_Model_mark 27 = .ok (.putfield 109, 3) := by decide +kernel
theorem d_Model_mark_30 : decode b_Model_mark 30 = .ok (.aload_n 0, 1) := by decide +kernel
theorem d_Model_mark_31 : decode b_Model_mark 31 = .ok (.dup, 1) := by decide +kernel
theorem d_Model_mark_32 : decode b_Model_mark 32 = .ok (.getfield 112, 3) := by decide +kernel
theorem d_Model_mark_35 : decode b_Model_mark 35 = .ok (.aload_n 0, 1) := by decide +kernel
theorem d_Model_mark_36 : decode b_Model_mark 36 = .ok (.iload_n 2, 1) := by decide +kernel
theorem d_Model_mark_37 : decode b_Model_mark 37 = .ok (.invokevirtual 115, 3) := by decide +kernel
theorem d_Model_mark_40 : decode b_Model_mark 40 = .ok (.iadd, 1) := by decide +kernel
theorem d_Model_mark_41 : decode b_Model_mark 41 = .ok (.putfield 112, 3) := by decide +kernel
theorem d_Model_mark_44 : decode b_Model_mark 44 = .ok (.return_, 1) := by decide +kernel
theorem d_Model_markAll_0 : decode b_Model_markAll 0 = .ok (.aload_n 0, 1) := by decide +kernel
theorem d_Model_markAll_1 : decode b_Model_markAll 1 = .ok (.getfield 109, 3) := by decide +kernel
theorem d_Model_markAll_4 : decode b_Model_markAll 4 = .ok (.bipush (-2), 2) := by decide +kernel
theorem d_Model_markAll_6 : decode b_Model_markAll 6 = .ok (.if_icmp .eq 66, 3) := by decide +kernel
theorem d_Model_markAll_9 : decode b_Model_markAll 9 = .ok (.aload_n 0, 1) := by decide +kernel
theorem d_Model_markAll_10 : decode b_Model_markAll 10 = .ok (.getfield 109, 3) := by decide +kernel
theorem d_Model_markAll_13 : decode b_Model_markAll 13 = .ok (.istore_n 1, 1) := by decide +kernel
theorem d_Model_markAll_14 : decode b_Model_markAll 14 = .ok (.aload_n 0, 1) := by decide +kernel
theorem d_Model_markAll_15 : decode b_Model_markAll 15 = .ok (.aload_n 0, 1) := by decide +kernel
theorem d_Model_markAll_16 : decode b_Model_markAll 16 = .ok (.getfield 17, 3) := by decide +kernel
theorem d_Model_markAll_19 : decode b_Model_markAll 19 = .ok (.iload_n 1, 1) := by decide +kernel
theorem d_Model_markAll_20 : decode b_Model_markAll 20 = .ok (.iaload, 1) := by decide +kernel
theorem d_Model_markAll_21 : decode b_Model_markAll 21 = .ok (.putfield 109, 3) := by decide +kernel
theorem d_Model_markAll_24 : decode b_Model_markAll 24 = .ok (.aload_n 0, 1) := by decide +kernel
theorem d_Model_markAll_25 : decode b_Model_markAll 25 = .ok (.getfield 17, 3) := by decide +kernel
theorem d_Model_markAll_28 : decode b_Model_markAll 28 = .ok (.iload_n 1, 1) := by decide +kernel
theorem d_Model_markAll_29 : decode b_Model_markAll 29 = .ok (.bipush (-2), 2) := by decide +kernel
theorem d_Model_markAll_31 : decode b_Model_markAll 31 = .ok (.iastore, 1) := by decide +kernel
theorem d_Model_markAll_32 : decode b_Model_markAll 32 = .ok (.iconst 1, 1) := by decide +kernel
theorem d_Model_markAll_33 : decode b_Model_markAll 33 = .ok (.istore_n 2, 1) := by decide +kernel
theorem d_Model_markAll_34 : decode b_Model_markAll 34 = .ok (.iload_n 2, 1) := by decide +kernel
theorem d_Model_markAll_35 : decode b_Model_markAll 35 = .ok (.aload_n 0, 1) := by decide +kernel
theorem d_Model_markAll_36 : decode b_Model_markAll 36 = .ok (.iload_n 1, 1) := by decide +kernel
theorem d_Model_markAll_37 : decode b_Model_markAll 37 = .ok (.invokevirtual 106, 3) := by decide +kernel
theorem d_Model_markAll_40 : decode b_Model_markAll 40 = .ok (.if_icmp .gt 29, 3) := by decide +kernel
theorem d_Model_markAll_43 : decode b_Model_markAll 43 = .ok (.aload_n 0, 1) := by decide +kernel
theorem d_Model_markAll_44 : decode b_Model_markAll 44 = .ok (.aload_n 0, 1) := by decide +kernel
theorem d_Model_markAll_45 : decode b_Model_markAll 45 = .ok (.getfield 10, 3) := by decide +kernel
theorem d_Model_markAll_48 : decode b_Model_markAll 48 = .ok (.iload_n 1, 1) := by decide +kernel
theorem d_Model_markAll_49 : decode b_Model_markAll 49 = .ok (.iload_n 2, 1) := by decide +kernel
theorem d_Model_markAll_50 : decode b_Model_markAll 50 = .ok (.iadd, 1) := by decide +kernel
theorem d_Model_markAll_51 : decode b_Model_markAll 51 = .ok (.iaload, 1) := by decide +kernel
theorem d_Model_markAll_52 : decode b_Model_markAll 52 = .ok (.aload_n 0, 1) := by decide +kernel
theorem d_Model_markAll_53 : decode b_Model_markAll 53 = .ok (.getfield 14, 3) := by decide +kernel
theorem d_Model_markAll_56 : decode b_Model_markAll 56 = .ok (.iload_n 1, 1) := by decide +kernel
theorem d_Model_markAll_57 : decode b_Model_markAll 57 = .ok (.iload_n 2, 1) := by decide +kernel
theorem d_Model_markAll_58 : decode b_Model_markAll 58 = .ok (.iadd, 1) := by decide +kernel
theorem d_Model_markAll_59 : decode b_Model_markAll 59 = .ok (.iaload, 1) := by decide +kernel
theorem d_Model_markAll_60 : decode b_Model_markAll 60 = .ok (.invokevirtual 118, 3) := by decide +kernel
theorem d_Model_markAll_63 : decode b_Model_markAll 63 = .ok (.iinc 2 1, 3) := by decide +kernel
theorem d_Model_markAll_66 : decode b_Model_markAll 66 = .ok (.goto (-32), 3) := by decide +kernel
theorem d_Model_markAll_69 : decode b_Model_markAll 69 = .ok (.goto (-69), 3) := by decide +kernel
theorem d_Model_markAll_72 : decode b_Model_markAll 72 = .ok (.return_, 1) := by decide +kernel
theorem d_Model_markGlobals_0 : decode b_Model_markGlobals 0 = .ok (.aload_n 0, 1) := by decide +kernel
theorem d_Model_markGlobals_1 : decode b_Model_markGlobals 1 = .ok (.bipush (-2), 2) := by decide +kernel
theorem d_Model_markGlobals_3 : decode b_Model_markGlobals 3 = .ok (.putfield 109, 3) := by decide +kernel
theorem d_Model_markGlobals_6 : decode b_Model_markGlobals 6 = .ok (.aload_n 0, 1) := by decide +kernel
theorem d_Model_markGlobals_7 : decode b_Model_markGlobals 7 = .ok (.iconst 0, 1) := by decide +kernel
theorem d_Model_markGlobals_8 : decode b_Model_markGlobals 8 = .ok (.putfield 112, 3) := by decide +kernel
theorem d_Model_markGlobals_11 : decode b_Model_markGlobals 11 = .ok (.iconst 0, 1) := by decide +kernel
theorem d_Model_markGlobals_12 : decode b_Model_markGlobals 12 = .ok (.istore_n 1, 1) := by decide +kernel
theorem d_Model_markGlobals_13 : decode b_Model_markGlobals 13 = .ok (.iload_n 1, 1) := by decide +kernel
theorem d_Model_markGlobals_14 : decode b_Model_markGlobals 14 = .ok (.sipush 2048, 3) := by decide +kernel
theorem d_Model_markGlobals_17 : decode b_Model_markGlobals 17 = .ok (.if_icmp .ge 25, 3) := by decide +kernel
theorem d_Model_markGlobals_20 : decode b_Model_markGlobals 20 = .ok (.aload_n 0, 1) := by decide +kernel
theorem d_Model_markGlobals_21 : decode b_Model_markGlobals 21 = .ok (.aload_n 0, 1) := by decide +kernel
theorem d_Model_markGlobals_22 : decode b_Model_markGlobals 22 = .ok (.getfield 20, 3) := by decide +kernel
theorem d_Model_markGlobals_25 : decode b_Model_markGlobals 25 = .ok (.iload_n 1, 1) := by decide +kernel
theorem d_Model_markGlobals_26 : decode b_Model_markGlobals 26 = .ok (.iaload, 1) := by decide +kernel
theorem d_Model_markGlobals_27 : decode b_Model_markGlobals 27 = .ok (.aload_n 0, 1) := by decide +kernel
theorem d_Model_markGlobals_28 : decode b_Model_markGlobals 28 = .ok (.getfield 23, 3) := by decide +kernel
theorem d_Model_markGlobals_31 : decode b_Model_markGlobals 31 = .ok (.iload_n 1, 1) := by decide +kernel
theorem d_Model_markGlobals_32 : decode b_Model_markGlobals 32 = .ok (.iaload, 1) := by decide +kernel
theorem d_Model_markGlobals_33 : decode b_Model_markGlobals 33 = .ok (.invokevirtual 118, 3) := by decide +kernel
theorem d_Model_markGlobals_36 : decode b_Model_markGlobals 36 = .ok (.iinc 1 1, 3) := by decide +kernel
theorem d_Model_markGlobals_39 : decode b_Model_markGlobals 39 = .ok (.goto (-26), 3) := by decide +kernel
theorem d_Model_markGlobals_42 : decode b_Model_markGlobals 42 = .ok (.aload_n 0, 1) := by decide +kernel
theorem d_Model_markGlobals_43 : decode b_Model_markGlobals 43 = .ok (.invokevirtual 122, 3) := by decide +kernel
theorem d_Model_markGlobals_46 : decode b_Model_markGlobals 46 = .ok (.return_, 1) := by decide +kernel
theorem d_Model_markRun_0 : decode b_Model_markRun 0 = .ok (.iconst 0, 1) := by decide +kernel
theorem d_Model_markRun_1 : decode b_Model_markRun 1 = .ok (.istore_n 1, 1) := by decide +kernel
theorem d_Model_markRun_2 : decode b_Model_markRun 2 = .ok (.iload_n 1, 1) := by decide +kernel
theorem d_Model_markRun_3 : decode b_Model_markRun 3 = .ok (.aload_n 0, 1) := by decide +kernel
theorem d_Model_markRun_4 : decode b_Model_markRun 4 = .ok (.getfield 135, 3) := by decide +kernel
theorem d_Model_markRun_7 : decode b_Model_markRun 7 = .ok (.if_icmp .ge 32, 3) := by decide +kernel
theorem d_Model_markRun_10 : decode b_Model_markRun 10 = .ok (.aload_n 0, 1) := by decide +kernel
theorem d_Model_markRun_11 : decode b_Model_markRun 11 = .ok (.invokevirtual 138, 3) := by decide +kernel
theorem d_Model_markRun_14 : decode b_Model_markRun 14 = .ok (.ifCond .eq 25, 3) := by decide +kernel
theorem d_Model_markRun_17 : decode b_Model_markRun 17 = .ok (.aload_n 0, 1) := by decide +kernel
theorem d_Model_markRun_18 : decode b_Model_markRun 18 = .ok (.aload_n 0, 1) := by decide +kernel
theorem d_Model_markRun_19 : decode b_Model_markRun 19 = .ok (.getfield 63, 3) := by decide +kernel
theorem d_Model_markRun_22 : decode b_Model_markRun 22 = .ok (.iload_n 1, 1) := by decide +kernel
theorem d_Model_markRun_23 : decode b_Model_markRun 23 = .ok (.iaload, 1) := by decide +kernel
theorem d_Model_markRun_24 : decode b_Model_markRun 24 = .ok (.aload_n 0, 1) := by decide +kernel
theorem d_Model_markRun_25 : decode b_Model_markRun 25 = .ok (.getfield 66, 3) := by decide +kernel
theorem d_Model_markRun_28 : decode b_Model_markRun 28 = .ok (.iload_n 1, 1) := by decide +kernel
theorem d_Model_markRun_29 : decode b_Model_markRun 29 = .ok (.iaload, 1) := by decide +kernel
theorem d_Model_markRun_30 : decode b_Model_markRun 30 = .ok (.invokevirtual 118, 3) := by decide +kernel
theorem d_Model_markRun_33 : decode b_Model_markRun 33 = .ok (.iinc 1 1, 3) := by decide +kernel
theorem d_Model_markRun_36 : decode b_Model_markRun 36 = .ok (.goto (-34), 3) := by decide +kernel
theorem d_Model_markRun_39 : decode b_Model_markRun 39 = .ok (.iconst 0, 1) := by decide +kernel
theorem d_Model_markRun_40 : decode b_Model_markRun 40 = .ok (.istore_n 1, 1) := by decide +kernel
theorem d_Model_markRun_41 : decode b_Model_markRun 41 = .ok (.iload_n 1, 1) := by decide +kernel
theorem d_Model_markRun_42 : decode b_Model_markRun 42 = .ok (.aload_n 0, 1) := by decide +kernel
theorem d_Model_markRun_43 : decode b_Model_markRun 43 = .ok (.getfield 142, 3) := by decide +kernel
theorem d_Model_markRun_46 : decode b_Model_markRun 46 = .ok (.if_icmp .ge 40, 3) := by decide +kernel
theorem d_Model_markRun_49 : decode b_Model_markRun 49 = .ok (.aload_n 0, 1) := by decide +kernel
theorem d_Model_markRun_50 : decode b_Model_markRun 50 = .ok (.invokevirtual 138, 3) := by decide +kernel
theorem d_Model_markRun_53 : decode b_Model_markRun 53 = .ok (.ifCond .eq 33, 3) := by decide +kernel
theorem d_Model_markRun_56 : decode b_Model_markRun 56 = .ok (.aload_n 0, 1) := by decide +kernel
theorem d_Model_markRun_57 : decode b_Model_markRun 57 = .ok (.aload_n 0, 1) := by decide +kernel
theorem d_Model_markRun_58 : decode b_Model_markRun 58 = .ok (.getfield 50, 3) := by decide +kernel
theorem d_Model_markRun_61 : decode b_Model_markRun 61 = .ok (.iload_n 1, 1) := by decide +kernel
theorem d_Model_markRun_62 : decode b_Model_markRun 62 = .ok (.iaload, 1) := by decide +kernel
theorem d_Model_markRun_63 : decode b_Model_markRun 63 = .ok (.ifCond .ge 7, 3) := by decide +kernel
theorem d_Model_markRun_66 : decode b_Model_markRun 66 = .ok (.iconst 0, 1) := by decide +kernel
theorem d_Model_markRun_67 : decode b_Model_markRun 67 = .ok (.goto 4, 3) := by decide +kernel
theorem d_Model_markRun_70 : decode b_Model_markRun 70 = .ok (.iconst 2, 1) := by decide +kernel
theorem d_Model_markRun_71 : decode b_Model_markRun 71 = .ok (.aload_n 0, 1) := by decide +kernel
theorem d_Model_markRun_72 : decode b_Model_markRun 72 = .ok (.getfield 50, 3) := by decide +kernel
theorem d_Model_markRun_75 : decode b_Model_markRun 75 = .ok (.iload_n 1, 1) := by decide +kernel
theorem d_Model_markRun_76 : decode b_Model_markRun 76 = .ok (.iaload, 1) := by decide +kernel
theorem d_Model_markRun_77 : decode b_Model_markRun 77 = .ok (.invokevirtual 118, 3) := by decide +kernel
theorem d_Model_markRun_80 : decode b_Model_markRun 80 = .ok (.iinc 1 1, 3) := by decide +kernel
theorem d_Model_markRun_83 : decode b_Model_markRun 83 = .ok (.goto (-42), 3) := by decide +kernel
theorem d_Model_markRun_86 : decode b_Model_markRun 86 = .ok (.aload_n 0, 1) := by decide +kernel
theorem d_Model_markRun_87 : decode b_Model_markRun 87 = .ok (.aload_n 0, 1) := by decide +kernel
theorem d_Model_markRun_88 : decode b_Model_markRun 88 = .ok (.getfield 145, 3) := by decide +kernel
theorem d_Model_markRun_91 : decode b_Model_markRun 91 = .ok (.aload_n 0, 1) := by decide +kernel
theorem d_Model_markRun_92 : decode b_Model_markRun 92 = .ok (.getfield 148, 3) := by decide +kernel
theorem d_Model_markRun_95 : decode b_Model_markRun 95 = .ok (.invokevirtual 118, 3) := by decide +kernel
theorem d_Model_markRun_98 : decode b_Model_markRun 98 = .ok (.aload_n 0, 1) := by decide +kernel
theorem d_Model_markRun_99 : decode b_Model_markRun 99 = .ok (.invokevirtual 122, 3) := by decide +kernel
theorem d_Model_markRun_102 : decode b_Model_markRun 102 = .ok (.return_, 1) := by decide +kernel
theorem d_Model_settle_0 : decode b_Model_settle 0 = .ok (.iconst 0, 1) := by decide +kernel
theorem d_Model_settle_1 : decode b_Model_settle 1 = .ok (.istore_n 1, 1) := by decide +kernel
theorem d_Model_settle_2 : decode b_Model_settle 2 = .ok (.iconst 0, 1) := by decide +kernel
theorem d_Model_settle_3 : decode b_Model_settle 3 = .ok (.istore_n 2, 1) := by decide +kernel
theorem d_Model_settle_4 : decode b_Model_settle 4 = .ok (.iload_n 2, 1) := by decide +kernel
theorem d_Model_settle_5 : decode b_Model_settle 5 = .ok (.aload_n 0, 1) := by decide +kernel
theorem d_Model_settle_6 : decode b_Model_settle 6 = .ok (.getfield 125, 3) := by decide +kernel
theorem d_Model_settle_9 : decode b_Model_settle 9 = .ok (.if_icmp .ge 39, 3) := by decide +kernel
theorem d_Model_settle_12 : decode b_Model_settle 12 = .ok (.aload_n 0, 1) := by decide +kernel
theorem d_Model_settle_13 : decode b_Model_settle 13 = .ok (.getfield 17, 3) := by decide +kernel
theorem d_Model_settle_16 : decode b_Model_settle 16 = .ok (.iload_n 2, 1) := by decide +kernel
theorem d_Model_settle_17 : decode b_Model_settle 17 = .ok (.iaload, 1) := by decide +kernel
theorem d_Model_settle_18 : decode b_Model_settle 18 = .ok (.iconst (-1), 1) := by decide +kernel
theorem d_Model_settle_19 : decode b_Model_settle 19 = .ok (.if_icmp .eq 18, 3) := by decide +kernel
theorem d_Model_settle_22 : decode b_Model_settle 22 = .ok (.aload_n 0, 1) := by decide +kernel
theorem d_Model_settle_23 : decode b_Model_settle 23 = .ok (.getfield 17, 3) := by decide +kernel
theorem d_Model_settle_26 : decode b_Model_settle 26 = .ok (.iload_n 2, 1) := by decide +kernel
theorem d_Model_settle_27 : decode b_Model_settle 27 = .ok (.iload_n 1, 1) := by decide +kernel
theorem d_Model_settle_28 : decode b_Model_settle 28 = .ok (.iastore, 1) := by decide +kernel
theorem d_Model_settle_29 : decode b_Model_settle 29 = .ok (.iload_n 1, 1) := by decide +kernel
theorem d_Model_settle_30 : decode b_Model_settle 30 = .ok (.aload_n 0, 1) := by decide +kernel
theorem d_Model_settle_31 : decode b_Model_settle 31 = .ok (.iload_n 2, 1) := by decide +kernel
theorem d_Model_settle_32 : decode b_Model_settle 32 = .ok (.invokevirtual 115, 3) := by decide +kernel
theorem d_Model_settle_35 : decode b_Model_settle 35 = .ok (.iadd, 1) := by decide +kernel
theorem d_Model_settle_36 : decode b_Model_settle 36 = .ok (.istore_n 1, 1) := by decide +kernel
theorem d_Model_settle_37 : decode b_Model_settle 37 = .ok (.iload_n 2, 1) := by decide +kernel
theorem d_Model_settle_38 : decode b_Model_settle 38 = .ok (.aload_n 0, 1) := by decide +kernel
theorem d_Model_settle_39 : decode b_Model_settle 39 = .ok (.iload_n 2, 1) := by decide +kernel
theorem d_Model_settle_40 : decode b_Model_settle 40 = .ok (.invokevirtual 115, 3) := by decide +kernel
theorem d_Model_settle_43 : decode b_Model_settle 43 = .ok (.iadd, 1) := by decide +kernel
theorem d_Model_settle_44 : decode b_Model_settle 44 = .ok (.istore_n 2, 1) := by decide +kernel
theorem d_Model_settle_45 : decode b_Model_settle 45 = .ok (.goto (-41), 3) := by decide +kernel
theorem d_Model_settle_48 : decode b_Model_settle 48 = .ok (.iload_n 1, 1) := by decide +kernel
theorem d_Model_settle_49 : decode b_Model_settle 49 = .ok (.ireturn, 1) := by decide +kernel
theorem d_Model_hasRoom_0 : decode b_Model_hasRoom 0 = .ok (.aload_n 0, 1) := by decide +kernel
theorem d_Model_hasRoom_1 : decode b_Model_hasRoom 1 = .ok (.getfield 125, 3) := by decide +kernel
theorem d_Model_hasRoom_4 : decode b_Model_hasRoom 4 = .ok (.iload_n 1, 1) := by decide +kernel
theorem d_Model_hasRoom_5 : decode b_Model_hasRoom 5 = .ok (.iadd, 1) := by decide +kernel
theorem d_Model_hasRoom_6 : decode b_Model_hasRoom 6 = .ok (.aload_n 0, 1) := by decide +kernel
theorem d_Model_hasRoom_7 : decode b_Model_hasRoom 7 = .ok (.getfield 84, 3) := by decide +kernel
theorem d_Model_hasRoom_10 : decode b_Model_hasRoom 10 = .ok (.if_icmp .gt 16, 3) := by decide +kernel
theorem d_Model_hasRoom_13 : decode b_Model_hasRoom 13 = .ok (.aload_n 0, 1) := by decide +kernel
theorem d_Model_hasRoom_14 : decode b_Model_hasRoom 14 = .ok (.getfield 125, 3) := by decide +kernel
theorem d_Model_hasRoom_17 : decode b_Model_hasRoom 17 = .ok (.iload_n 1, 1) := by decide +kernel
theorem d_Model_hasRoom_18 : decode b_Model_hasRoom 18 = .ok (.iadd, 1) := by decide +kernel
theorem d_Model_hasRoom_19 : decode b_Model_hasRoom 19 = .ok (.ldc 9, 2) := by decide +kernel
theorem d_Model_hasRoom_21 : decode b_Model_hasRoom 21 = .ok (.if_icmp .gt 5, 3) := by decide +kernel
theorem d_Model_hasRoom_24 : decode b_Model_hasRoom 24 = .ok (.iconst 1, 1) := by decide +kernel
theorem d_Model_hasRoom_25 : decode b_Model_hasRoom 25 = .ok (.ireturn, 1) := by decide +kernel
theorem d_Model_hasRoom_26 : decode b_Model_hasRoom 26 = .ok (.aload_n 0, 1) := by decide +kernel
theorem d_Model_hasRoom_27 : decode b_Model_hasRoom 27 = .ok (.invokevirtual 155, 3) := by decide +kernel
theorem d_Model_hasRoom_30 : decode b_Model_hasRoom 30 = .ok (.aload_n 0, 1) := by decide +kernel
theorem d_Model_hasRoom_31 : decode b_Model_hasRoom 31 = .ok (.invokevirtual 158, 3) := by decide +kernel
theorem d_Model_hasRoom_34 : decode b_Model_hasRoom 34 = .ok (.aload_n 0, 1) := by decide +kernel
theorem d_Model_hasRoom_35 : decode b_Model_hasRoom 35 = .ok (.invokevirtual 161, 3) := by decide +kernel
theorem d_Model_hasRoom_38 : decode b_Model_hasRoom 38 = .ok (.aload_n 0, 1) := by decide +kernel
theorem d_Model_hasRoom_39 : decode b_Model_hasRoom 39 = .ok (.getfield 125, 3) := by decide +kernel
theorem d_Model_hasRoom_42 : decode b_Model_hasRoom 42 = .ok (.iload_n 1, 1) := by decide +kernel
theorem d_Model_hasRoom_43 : decode b_Model_hasRoom 43 = .ok (.iadd, 1) := by decide +kernel
theorem d_Model_hasRoom_44 : decode b_Model_hasRoom 44 = .ok (.aload_n 0, 1) := by decide +kernel
theorem d_Model_hasRoom_45 : decode b_Model_hasRoom 45 = .ok (.getfield 84, 3) := by decide +kernel
theorem d_Model_hasRoom_48 : decode b_Model_hasRoom 48 = .ok (.if_icmp .gt 7, 3) := by decide +kernel
theorem d_Model_hasRoom_51 : decode b_Model_hasRoom 51 = .ok (.iconst 1, 1) := by decide +kernel
theorem d_Model_hasRoom_52 : decode b_Model_hasRoom 52 = .ok (.goto 4, 3) := by decide +kernel
theorem d_Model_hasRoom_55 : decode b_Model_hasRoom 55 = .ok (.iconst 0, 1) := by decide +kernel
theorem d_Model_hasRoom_56 : decode b_Model_hasRoom 56 = .ok (.ireturn, 1) := by decide +kernel
theorem d_Model_make_0 : decode b_Model_make 0 = .ok (.aload_n 0, 1) := by decide +kernel
theorem d_Model_make_1 : decode b_Model_make 1 = .ok (.getfield 125, 3) := by decide +kernel
theorem d_Model_make_4 : decode b_Model_make 4 = .ok (.istore 5, 2) := by decide +kernel
theorem d_Model_make_6 : decode b_Model_make 6 = .ok (.aload_n 0, 1) := by decide +kernel
theorem d_Model_make_7 : decode b_Model_make 7 = .ok (.getfield 10, 3) := by decide +kernel
theorem d_Model_make_10 : decode b_Model_make 10 = .ok (.iload 5, 2) := by decide +kernel
theorem d_Model_make_12 : decode b_Model_make 12 = .ok (.iload_n 1, 1) := by decide +kernel
theorem d_Model_make_13 : decode b_Model_make 13 = .ok (.iload_n 2, 1) := by decide +kernel
theorem d_Model_make_14 : decode b_Model_make 14 = .ok (.bipush 8, 2) := by decide +kernel
theorem d_Model_make_16 : decode b_Model_make 16 = .ok (.ishl, 1) := by decide +kernel
theorem d_Model_make_17 : decode b_Model_make 17 = .ok (.ior, 1) := by decide +kernel
theorem d_Model_make_18 : decode b_Model_make 18 = .ok (.iastore, 1) := by decide +kernel
theorem d_Model_make_19 : decode b_Model_make 19 = .ok (.aload_n 0, 1) := by decide +kernel
theorem d_Model_make_20 : decode b_Model_make 20 = .ok (.getfield 14, 3) := by decide +kernel
theorem d_Model_make_23 : decode b_Model_make 23 = .ok (.iload 5, 2) := by decide +kernel
theorem d_Model_make_25 : decode b_Model_make 25 = .ok (.iload_n 3, 1) := by decide +kernel
theorem d_Model_make_26 : decode b_Model_make 26 = .ok (.iastore, 1) := by decide +kernel
theorem d_Model_make_27 : decode b_Model_make 27 = .ok (.aload_n 0, 1) := by decide +kernel
theorem d_Model_make_28 : decode b_Model_make 28 = .ok (.dup, 1) := by decide +kernel
theorem d_Model_make_29 : decode b_Model_make 29 = .ok (.getfield 125, 3) := by decide +kernel
theorem d_Model_make_32 : decode b_Model_make 32 = .ok (.iload 4, 2) := by decide +kernel
theorem d_Model_make_34 : decode b_Model_make 34 = .ok (.iadd, 1) := by decide +kernel
theorem d_Model_make_35 : decode b_Model_make 35 = .ok (.putfield 125, 3) := by decide +kernel
theorem d_Model_make_38 : decode b_Model_make 38 = .ok (.iload 5, 2) := by decide +kernel
theorem d_Model_make_40 : decode b_Model_make 40 = .ok (.ireturn, 1) := by decide +kernel
theorem d_Model_string_0 : decode b_Model_string 0 = .ok (.aload_n 0, 1) := by decide +kernel
theorem d_Model_string_1 : decode b_Model_string 1 = .ok (.bipush 6, 2) := by decide +kernel
theorem d_Model_string_3 : decode b_Model_string 3 = .ok (.iconst 0, 1) := by decide +kernel
theorem d_Model_string_4 : decode b_Model_string 4 = .ok (.iload_n 1, 1) := by decide +kernel
theorem d_Model_string_5 : decode b_Model_string 5 = .ok (.iconst 1, 1) := by decide +kernel
theorem d_Model_string_6 : decode b_Model_string 6 = .ok (.iload_n 1, 1) := by decide +kernel
theorem d_Model_string_7 : decode b_Model_string 7 = .ok (.iconst 3, 1) := by decide +kernel
theorem d_Model_string_8 : decode b_Model_string 8 = .ok (.iadd, 1) := by decide +kernel
theorem d_Model_string_9 : decode b_Model_string 9 = .ok (.iconst 4, 1) := by decide +kernel
theorem d_Model_string_10 : decode b_Model_string 10 = .ok (.idiv, 1) := by decide +kernel
theorem d_Model_string_11 : decode b_Model_string 11 = .ok (.iadd, 1) := by decide +kernel
theorem d_Model_string_12 : decode b_Model_string 12 = .ok (.invokevirtual 318, 3) := by decide +kernel
theorem d_Model_string_15 : decode b_Model_string 15 = .ok (.istore_n 2, 1) := by decide +kernel
theorem d_Model_string_16 : decode b_Model_string 16 = .ok (.iconst 1, 1) := by decide +kernel
theorem d_Model_string_17 : decode b_Model_string 17 = .ok (.istore_n 3, 1) := by decide +kernel
theorem d_Model_string_18 : decode b_Model_string 18 = .ok (.iload_n 3, 1) := by decide +kernel
theorem d_Model_string_19 : decode b_Model_string 19 = .ok (.iload_n 1, 1) := by decide +kernel
theorem d_Model_string_20 : decode b_Model_string 20 = .ok (.iconst 3, 1) := by decide +kernel
theorem d_Model_string_21 : decode b_Model_string 21 = .ok (.iadd, 1) := by decide +kernel
theorem d_Model_string_22 : decode b_Model_string 22 = .ok (.iconst 4, 1) := by decide +kernel
theorem d_Model_string_23 : decode b_Model_string 23 = .ok (.idiv, 1) := by decide +kernel
theorem d_Model_string_24 : decode b_Model_string 24 = .ok (.if_icmp .gt 27, 3) := by decide +kernel
theorem d_Model_string_27 : decode b_Model_string 27 = .ok (.aload_n 0, 1) := by decide +kernel
theorem d_Model_string_28 : decode b_Model_string 28 = .ok (.getfield 10, 3) := by decide +kernel
theorem d_Model_string_31 : decode b_Model_string 31 = .ok (.iload_n 2, 1) := by decide +kernel
theorem d_Model_string_32 : decode b_Model_string 32 = .ok (.iload_n 3, 1) := by decide +kernel
theorem d_Model_string_33 : decode b_Model_string 33 = .ok (.iadd, 1) := by decide +kernel
theorem d_Model_string_34 : decode b_Model_string 34 = .ok (.iconst 0, 1) := by decide +kernel
theorem d_Model_string_35 : decode b_Model_string 35 = .ok (.iastore, 1) := by decide +kernel
theorem d_Model_string_36 : decode b_Model_string 36 = .ok (.aload_n 0, 1) := by decide +kernel
theorem d_Model_string_37 : decode b_Model_string 37 = .ok (.getfield 14, 3) := by decide +kernel
theorem d_Model_string_40 : decode b_Model_string 40 = .ok (.iload_n 2, 1) := by decide +kernel
theorem d_Model_string_41 : decode b_Model_string 41 = .ok (.iload_n 3, 1) := by decide +kernel
theorem d_Model_string_42 : decode b_Model_string 42 = .ok (.iadd, 1) := by decide +kernel
theorem d_Model_string_43 : decode b_Model_string 43 = .ok (.iconst 0, 1) := by decide +kernel
theorem d_Model_string_44 : decode b_Model_string 44 = .ok (.iastore, 1) := by decide +kernel
theorem d_Model_string_45 : decode b_Model_string 45 = .ok (.iinc 3 1, 3) := by decide +kernel
theorem d_Model_string_48 : decode b_Model_string 48 = .ok (.goto (-30), 3) := by decide +kernel
theorem d_Model_string_51 : decode b_Model_string 51 = .ok (.iload_n 2, 1) := by decide +kernel
theorem d_Model_string_52 : decode b_Model_string 52 = .ok (.ireturn, 1) := by decide +kernel
theorem d_Model_setByte_0 : decode b_Model_setByte 0 = .ok (.aload_n 0, 1) := by decide +kernel
theorem d_Model_setByte_1 : decode b_Model_setByte 1 = .ok (.getfield 14, 3) := by decide +kernel
theorem d_Model_setByte_4 : decode b_Model_setByte 4 = .ok (.iload_n 1, 1) := by decide +kernel
theorem d_Model_setByte_5 : decode b_Model_setByte 5 = .ok (.iconst 1, 1) := by decide +kernel
theorem d_Model_setByte_6 : decode b_Model_setByte 6 = .ok (.iadd, 1) := by decide +kernel
theorem d_Model_setByte_7 : decode b_Model_setByte 7 = .ok (.iload_n 2, 1) := by decide +kernel
theorem d_Model_setByte_8 : decode b_Model_setByte 8 = .ok (.iconst 4, 1) := by decide +kernel
theorem d_Model_setByte_9 : decode b_Model_setByte 9 = .ok (.idiv, 1) := by decide +kernel
theorem d_Model_setByte_10 : decode b_Model_setByte 10 = .ok (.iadd, 1) := by decide +kernel
theorem d_Model_setByte_11 : decode b_Model_setByte 11 = .ok (.dup2, 1) := by decide +kernel
theorem d_Model_setByte_12 : decode b_Model_setByte 12 = .ok (.iaload, 1) := by decide +kernel
theorem d_Model_setByte_13 : decode b_Model_setByte 13 = .ok (.iload_n 3, 1) := by decide +kernel
theorem d_Model_setByte_14 : decode b_Model_setByte 14 = .ok (.sipush 255, 3) := by decide +kernel
theorem d_Model_setByte_17 : decode b_Model_setByte 17 = .ok (.iand, 1) := by decide +kernel
theorem d_Model_setByte_18 : decode b_Model_setByte 18 = .ok (.bipush 8, 2) := by decide +kernel
theorem d_Model_setByte_20 : decode b_Model_setByte 20 = .ok (.iload_n 2, 1) := by decide +kernel
theorem d_Model_setByte_21 : decode b_Model_setByte 21 = .ok (.iconst 4, 1) := by decide +kernel
theorem d_Model_setByte_22 : decode b_Model_setByte 22 = .ok (.irem, 1) := by decide +kernel
theorem d_Model_setByte_23 : decode b_Model_setByte 23 = .ok (.imul, 1) := by decide +kernel
theorem d_Model_setByte_24 : decode b_Model_setByte 24 = .ok (.ishl, 1) := by decide +kernel
theorem d_Model_setByte_25 : decode b_Model_setByte 25 = .ok (.ior, 1) := by decide +kernel
theorem d_Model_setByte_26 : decode b_Model_setByte 26 = .ok (.iastore, 1) := by decide +kernel
theorem d_Model_setByte_27 : decode b_Model_setByte 27 = .ok (.return_, 1) := by decide +kernel
theorem k737 : Cond.fieldLink R_Model 10 "CellEngineModel" "tags" "[I" ∈ lw_g := kg (List.mem_append_right _ (List.mem_of_getElem? (i := 1019) (by decide +kernel))) rfl
theorem k738 : Cond.code y_Model_kindAt b_Model_kindAt 2 (some .int) ∈ lw_g := kg (List.mem_append_right _ (List.mem_of_getElem? (i := 1267) (by decide +kernel))) rfl
theorem k739 : Cond.methodLink R_Model 102 y_Model_kindAt ∈ lw_g := kg (List.mem_append_right _ (List.mem_of_getElem? (i := 1264) (by decide +kernel))) rfl
theorem k740 : Cond.instanceMethod y_Model_kindAt ∈ lw_g := kg (List.mem_append_right _ (List.mem_of_getElem? (i := 1266) (by decide +kernel))) rfl
theorem k741 : Cond.selects R_Model y_Model_kindAt y_Model_kindAt ∈ lw_g := kg (List.mem_append_left _ (List.mem_of_getElem? (i := 51) (by decide +kernel))) rfl
theorem k742 : Cond.fieldLink R_Model 14 "CellEngineModel" "cells" "[I" ∈ lw_g := kg (List.mem_append_right _ (List.mem_of_getElem? (i := 1020) (by decide +kernel))) rfl
theorem k743 : Cond.code y_Model_partsAt b_Model_partsAt 3 (some .int) ∈ lw_g := kg (List.mem_append_right _ (List.mem_of_getElem? (i := 1271) (by decide +kernel))) rfl
theorem k744 : Cond.methodLink R_Model 106 y_Model_partsAt ∈ lw_g := kg (List.mem_append_right _ (List.mem_of_getElem? (i := 1268) (by decide +kernel))) rfl
theorem k745 : Cond.instanceMethod y_Model_partsAt ∈ lw_g := kg (List.mem_append_right _ (List.mem_of_getElem? (i := 1270) (by decide +kernel))) rfl
theorem k746 : Cond.selects R_Model y_Model_partsAt y_Model_partsAt ∈ lw_g := kg (List.mem_append_left _ (List.mem_of_getElem? (i := 52) (by decide +kernel))) rfl
theorem k747 : Cond.fieldLink R_Model 17 "CellEngineModel" "chain" "[I" ∈ lw_g := kg (List.mem_append_right _ (List.mem_of_getElem? (i := 1021) (by decide +kernel))) rfl
theorem k748 : Cond.fieldLink R_Model 109 "CellEngineModel" "marked" "I" ∈ lw_g := kg (List.mem_append_right _ (List.mem_of_getElem? (i := 1069) (by decide +kernel))) rfl
theorem k749 : Cond.fieldLink R_Model 112 "CellEngineModel" "reached" "I" ∈ lw_g := kg (List.mem_append_right _ (List.mem_of_getElem? (i := 1070) (by decide +kernel))) rfl
theorem k750 : Cond.code y_Model_sizeAt b_Model_sizeAt 2 (some .int) ∈ lw_g := kg (List.mem_append_right _ (List.mem_of_getElem? (i := 1263) (by decide +kernel))) rfl
theorem k751 : Cond.methodLink R_Model 115 y_Model_sizeAt ∈ lw_g := kg (List.mem_append_right _ (List.mem_of_getElem? (i := 1260) (by decide +kernel))) rfl
theorem k752 : Cond.instanceMethod y_Model_sizeAt ∈ lw_g := kg (List.mem_append_right _ (List.mem_of_getElem? (i := 1262) (by decide +kernel))) rfl
theorem k753 : Cond.selects R_Model y_Model_sizeAt y_Model_sizeAt ∈ lw_g := kg (List.mem_append_left _ (List.mem_of_getElem? (i := 50) (by decide +kernel))) rfl
theorem k754 : Cond.code y_Model_mark b_Model_mark 3 none ∈ lw_g := kg (List.mem_append_right _ (List.mem_of_getElem? (i := 1259) (by decide +kernel))) rfl
theorem k755 : Cond.methodLink R_Model 118 y_Model_mark ∈ lw_g := kg (List.mem_append_right _ (List.mem_of_getElem? (i := 1256) (by decide +kernel))) rfl
theorem k756 : Cond.instanceMethod y_Model_mark ∈ lw_g := kg (List.mem_append_right _ (List.mem_of_getElem? (i := 1258) (by decide +kernel))) rfl
theorem k757 : Cond.selects R_Model y_Model_mark y_Model_mark ∈ lw_g := kg (List.mem_append_left _ (List.mem_of_getElem? (i := 49) (by decide +kernel))) rfl
theorem k758 : Cond.fieldLink R_Model 20 "CellEngineModel" "globalTags" "[I" ∈ lw_g := kg (List.mem_append_right _ (List.mem_of_getElem? (i := 1024) (by decide +kernel))) rfl
theorem k759 : Cond.fieldLink R_Model 23 "CellEngineModel" "globals" "[I" ∈ lw_g := kg (List.mem_append_right _ (List.mem_of_getElem? (i := 1025) (by decide +kernel))) rfl
theorem k760 : Cond.code y_Model_markAll b_Model_markAll 3 none ∈ lw_g := kg (List.mem_append_right _ (List.mem_of_getElem? (i := 1275) (by decide +kernel))) rfl
theorem k761 : Cond.methodLink R_Model 122 y_Model_markAll ∈ lw_g := kg (List.mem_append_right _ (List.mem_of_getElem? (i := 1272) (by decide +kernel))) rfl
theorem k762 : Cond.instanceMethod y_Model_markAll ∈ lw_g := kg (List.mem_append_right _ (List.mem_of_getElem? (i := 1274) (by decide +kernel))) rfl
theorem k763 : Cond.selects R_Model y_Model_markAll y_Model_markAll ∈ lw_g := kg (List.mem_append_left _ (List.mem_of_getElem? (i := 53) (by decide +kernel))) rfl
theorem k764 : Cond.fieldLink R_Model 125 "CellEngineModel" "used" "I" ∈ lw_g := kg (List.mem_append_right _ (List.mem_of_getElem? (i := 1022) (by decide +kernel))) rfl
theorem k765 : Cond.code y_Model_settle b_Model_settle 3 (some .int) ∈ lw_g := kg (List.mem_append_right _ (List.mem_of_getElem? (i := 1287) (by decide +kernel))) rfl
theorem k766 : Cond.methodLink R_Model 151 y_Model_settle ∈ lw_g := kg (List.mem_append_right _ (List.mem_of_getElem? (i := 1284) (by decide +kernel))) rfl
theorem k767 : Cond.instanceMethod y_Model_settle ∈ lw_g := kg (List.mem_append_right _ (List.mem_of_getElem? (i := 1286) (by decide +kernel))) rfl
theorem k768 : Cond.selects R_Model y_Model_settle y_Model_settle ∈ lw_g := kg (List.mem_append_left _ (List.mem_of_getElem? (i := 56) (by decide +kernel))) rfl
theorem k769 : Cond.fieldLink R_Model 84 "CellEngineModel" "mostReached" "I" ∈ lw_g := kg (List.mem_append_right _ (List.mem_of_getElem? (i := 1062) (by decide +kernel))) rfl
theorem k770 : Cond.constant R_Model 9 131072 ∈ lw_g := kg (List.mem_append_right _ (List.mem_of_getElem? (i := 1013) (by decide +kernel))) rfl
theorem k771 : Cond.code y_Model_markGlobals b_Model_markGlobals 2 none ∈ lw_g := kg (List.mem_append_right _ (List.mem_of_getElem? (i := 1255) (by decide +kernel))) rfl
theorem k772 : Cond.methodLink R_Model 155 y_Model_markGlobals ∈ lw_g := kg (List.mem_append_right _ (List.mem_of_getElem? (i := 1252) (by decide +kernel))) rfl
theorem k773 : Cond.instanceMethod y_Model_markGlobals ∈ lw_g := kg (List.mem_append_right _ (List.mem_of_getElem? (i := 1254) (by decide +kernel))) rfl
theorem k774 : Cond.selects R_Model y_Model_markGlobals y_Model_markGlobals ∈ lw_g := kg (List.mem_append_left _ (List.mem_of_getElem? (i := 48) (by decide +kernel))) rfl
theorem k775 : Cond.code y_Model_markRun b_Model_markRun 2 none ∈ lw_g := kg (List.mem_append_right _ (List.mem_of_getElem? (i := 1279) (by decide +kernel))) rfl
theorem k776 : Cond.methodLink R_Model 158 y_Model_markRun ∈ lw_g := kg (List.mem_append_right _ (List.mem_of_getElem? (i := 1276) (by decide +kernel))) rfl
theorem k777 : Cond.instanceMethod y_Model_markRun ∈ lw_g := kg (List.mem_append_right _ (List.mem_of_getElem? (i := 1278) (by decide +kernel))) rfl
theorem k778 : Cond.selects R_Model y_Model_markRun y_Model_markRun ∈ lw_g := kg (List.mem_append_left _ (List.mem_of_getElem? (i := 54) (by decide +kernel))) rfl
set_option maxRecDepth 20000 in
theorem k779 : Cond.code y_Model_slide b_Model_slide 6 none ∈ lw_g := kg (List.mem_append_right _ (show _ ∈ tables_1 from List.mem_append_right _ (List.mem_append_right _ (List.mem_append_right _ (List.mem_append_right _ (List.mem_append_right _ (List.mem_append_left _ (List.mem_of_getElem? (i := 83) rfl)))))))) rfl
theorem k780 : Cond.methodLink R_Model 161 y_Model_slide ∈ lw_g := kg (List.mem_append_right _ (List.mem_of_getElem? (i := 1280) (by decide +kernel))) rfl
theorem k781 : Cond.instanceMethod y_Model_slide ∈ lw_g := kg (List.mem_append_right _ (List.mem_of_getElem? (i := 1282) (by decide +kernel))) rfl
theorem k782 : Cond.selects R_Model y_Model_slide y_Model_slide ∈ lw_g := kg (List.mem_append_left _ (List.mem_of_getElem? (i := 55) (by decide +kernel))) rfl
theorem k783 : Cond.code y_Model_make b_Model_make 6 (some .int) ∈ lw_g := kg (List.mem_append_right _ (List.mem_of_getElem? (i := 1295) (by decide +kernel))) rfl
theorem k784 : Cond.methodLink R_Model 318 y_Model_make ∈ lw_g := kg (List.mem_append_right _ (List.mem_of_getElem? (i := 1292) (by decide +kernel))) rfl
theorem k785 : Cond.instanceMethod y_Model_make ∈ lw_g := kg (List.mem_append_right _ (List.mem_of_getElem? (i := 1294) (by decide +kernel))) rfl
theorem k786 : Cond.selects R_Model y_Model_make y_Model_make ∈ lw_g := kg (List.mem_append_left _ (List.mem_of_getElem? (i := 58) (by decide +kernel))) rfl
set_option maxHeartbeats 4000000 in
set_option maxRecDepth 100000 in
theorem c_Model_next (l : Launch) (dC : Nat → ClassId) (dI : Nat → Nat → Nat) (N : Nat) (cB : ClassId) (cI : ClassId) (o_Model : Nat) (r : Nat → Nat) (I : Nat → Int32) (F : Nat → Nat → Int32) (p0 : Int32) (p1 : Int32) (sz : Nat) (z : Int32 × (Nat → Int32)) (h : m_Model_next N I F p0 p1 = some z) : Met l y_Model_next (.code y_Model_next b_Model_next 3 (some .int) :: lw_g) ({ frames := 0, cells := 0, slots := 0, locals := 0 }) (va_Pc [.ref o_Model, .int p0, .int p1] (fun U => dz_N U ∧ U.heap.size = sz ∧ va_P (dC, dI) classes (wD cB cI o_Model r I F) U.heap ∧ va_K (dC, dI) classes [(cB, .byte), (cI, .int)] U ∧ va_D (fun _ => True) (wD cB cI o_Model r I F))) (va_Qi (fun (r : Int32) (_ : Unit) => r = z.1) (fun (u : Unit) t => va_P (dC, dI) classes (wD cB cI o_Model r z.2 F) t.heap ∧ va_K (dC, dI) classes [(cB, .byte), (cI, .int)] t ∧ va_D (va_A (wD cB cI o_Model r I F) sz) (wD cB cI o_Model r z.2 F)) (va_A (wD cB cI o_Model r I F) sz)) 0 0 (va_A (wD cB cI o_Model r I F) sz) := by
  refine Met.ofW (cc := b_Model_next) (maxL := 3) (ret := (some .int)) (by decide +kernel) rfl ?_
  intro p e s m args below meth c s₁ B hml hv
  obtain ⟨rfl, hN, hsz, hP, hK, hD0⟩ := hv
  have hx := B.exec
  have hb := B.bytes
  have hr := B.returns
  have hg : ∀ w ∈ lw_g, w.before _ s = true := fun w hw => atoms_spec (ws := .code y_Model_next b_Model_next 3 (some .int) :: lw_g) B.pre w (List.mem_cons_of_mem _ hw)
  have hown : s.vm.findClass R_Model = some m.cls := findClass_of_methodNamed B.named
  have hlocks := B.notSynchronized
  clear B
  subst hsz
  have hD := hD0.self (sz := s.heap.size)
  generalize hAe : va_A (wD cB cI o_Model r I F) s.heap.size = A at hD ⊢
  have hA : ∀ q : Nat, s.heap.size ≤ q → A q := fun q h => by rw [← hAe]; exact Or.inr h
  have hS : va_S A s.heap s.heap [] := va_S.rf
  have hP : va_P (dC, dI) classes (wD cB cI o_Model r I F) s.heap := hP
  have hl := lv_entry ([.ref o_Model, .int p0, .int p1]) (n := 3) (Nat.le_of_ble_eq_true rfl)
  rw [lg_entry_eq]
  generalize (lg_sl ([.ref o_Model, .int p0, .int p1]) ++ List.replicate (3 - (lg_sl ([.ref o_Model, .int p0, .int p1])).length) Slot.unset).toArray = ls at hl ⊢
  have hl : lv_has ls 3 [(0, .ref o_Model), (1, .int p0), (2, .int p1)] := hl
  unfold m_Model_next at h
  refine lv_aload_n hx hb d_Model_next_0 rfl (lv_at hl 0 rfl) ?_
  refine lv_iload_n hx hb d_Model_next_1 rfl (lv_at hl 2 rfl) ?_
  refine lv_iconst (v := 5) hx hb d_Model_next_2 (by decide) ?_
  refine lv_icmp_ne (tgt := 15) hx hb d_Model_next_3 (by decide) (fun c1 => ?_) (fun c1 => ?_)
  · rw [if_neg c1] at h
    refine lv_aload_n hx hb d_Model_next_15 rfl (lv_at hl 0 rfl) ?_
    refine va_get (D := (dC, dI)) (ci := 10) (v := .int (I 35)) (C := R_Model) (T := F_Model) (N := 54) hx hb hg i_Model hown hK hP 0 rfl rfl 35 (by decide) (hg _ k721) (fun _ h9 => h9) rfl d_Model_next_16 ?_
    refine va_put (D := (dC, dI)) (ci := 10) (v := .int (I 35)) (ty := .int) (C := R_Model) (T := F_Model) (N := 54) hx hb hg i_Model t_Model t_Model_ok n_Model hown hK hP hD hS 0 rfl rfl 35 (by decide) (hg _ k721) (fun _ h9 => h9) rfl (by decide +kernel) rfl rfl (Nat.le_of_ble_eq_true rfl) d_Model_next_19 (fun H locs hP hD hS => ?_)
    obtain ⟨J2, eJ2, h⟩ := dz_lt h
    have hP : va_P (dC, dI) classes (wD cB cI o_Model r J2 F) H := by rw [eJ2]; exact hP
    have hD : va_D A (wD cB cI o_Model r J2 F) := by rw [eJ2]; exact hD
    refine lv_iload_n hx hb d_Model_next_22 rfl (lv_at hl 2 rfl) ?_
    obtain rfl := Option.some.inj h
    have hP9 := hP
    have hD9 := hD
    have hK9 := hK
    exact W.iret (v := p1) hx hb hr (fun t ht hW => ⟨⟨p1, (), rfl, rfl, by rw [ht]; exact hP9, va_K.moved hW.alike hK9, hD9⟩, hS.F ht⟩) hS.2.2 d_Model_next_23
  · rw [if_pos c1] at h
    refine lv_aload_n hx hb d_Model_next_6 rfl (lv_at hl 0 rfl) ?_
    refine va_get (D := (dC, dI)) (ci := 10) (v := .int (I 35)) (C := R_Model) (T := F_Model) (N := 54) hx hb hg i_Model hown hK hP 0 rfl rfl 35 (by decide) (hg _ k721) (fun _ h9 => h9) rfl d_Model_next_7 ?_
    refine lv_iload_n hx hb d_Model_next_10 rfl (lv_at hl 1 rfl) ?_
    refine lv_iadd hx hb d_Model_next_11 ?_
    refine lv_goto (tgt := 19) hx hb d_Model_next_12 (by decide) ?_
    refine va_put (D := (dC, dI)) (ci := 10) (v := .int ((I 35) + p0)) (ty := .int) (C := R_Model) (T := F_Model) (N := 54) hx hb hg i_Model t_Model t_Model_ok n_Model hown hK hP hD hS 0 rfl rfl 35 (by decide) (hg _ k721) (fun _ h9 => h9) rfl (by decide +kernel) rfl rfl (Nat.le_of_ble_eq_true rfl) d_Model_next_19 (fun H locs hP hD hS => ?_)
    obtain ⟨J3, eJ3, h⟩ := dz_lt h
    have hP : va_P (dC, dI) classes (wD cB cI o_Model r J3 F) H := by rw [eJ3]; exact hP
    have hD : va_D A (wD cB cI o_Model r J3 F) := by rw [eJ3]; exact hD
    refine lv_iload_n hx hb d_Model_next_22 rfl (lv_at hl 2 rfl) ?_
    obtain rfl := Option.some.inj h
    have hP9 := hP
    have hD9 := hD
    have hK9 := hK
    exact W.iret (v := p1) hx hb hr (fun t ht hW => ⟨⟨p1, (), rfl, rfl, by rw [ht]; exact hP9, va_K.moved hW.alike hK9, hD9⟩, hS.F ht⟩) hS.2.2 d_Model_next_23

set_option maxHeartbeats 4000000 in
set_option maxRecDepth 100000 in
theorem c_Model_kindAt (l : Launch) (dC : Nat → ClassId) (dI : Nat → Nat → Nat) (N : Nat) (cB : ClassId) (cI : ClassId) (o_Model : Nat) (r : Nat → Nat) (I : Nat → Int32) (F : Nat → Nat → Int32) (p0 : Int32) (z : Int32) (h : m_Model_kindAt N I F p0 = some z) : Met l y_Model_kindAt (.code y_Model_kindAt b_Model_kindAt 2 (some .int) :: lw_g) ({ frames := 0, cells := 0, slots := 0, locals := 0 }) (va_Pc [.ref o_Model, .int p0] (fun U => dz_N U ∧ va_P (dC, dI) classes (wD cB cI o_Model r I F) U.heap ∧ va_K (dC, dI) classes [(cB, .byte), (cI, .int)] U)) (vp_Si (fun r => r = z)) 0 0 (fun _ => False) := by
  refine Met.ofW (cc := b_Model_kindAt) (maxL := 2) (ret := (some .int)) (by decide +kernel) rfl ?_
  intro p e s m args below meth c s₁ B hml hv
  obtain ⟨rfl, hN, hP, hK⟩ := hv
  have hx := B.exec
  have hb := B.bytes
  have hr := B.returns
  have hg : ∀ w ∈ lw_g, w.before _ s = true := fun w hw => atoms_spec (ws := .code y_Model_kindAt b_Model_kindAt 2 (some .int) :: lw_g) B.pre w (List.mem_cons_of_mem _ hw)
  have hown : s.vm.findClass R_Model = some m.cls := findClass_of_methodNamed B.named
  have hlocks := B.notSynchronized
  clear B
  have hP : va_P (dC, dI) classes (wD cB cI o_Model r I F) s.heap := hP
  have hl := lv_entry ([.ref o_Model, .int p0]) (n := 2) (Nat.le_of_ble_eq_true rfl)
  rw [lg_entry_eq]
  generalize (lg_sl ([.ref o_Model, .int p0]) ++ List.replicate (2 - (lg_sl ([.ref o_Model, .int p0])).length) Slot.unset).toArray = ls at hl ⊢
  have hl : lv_has ls 2 [(0, .ref o_Model), (1, .int p0)] := hl
  unfold m_Model_kindAt at h
  refine lv_aload_n hx hb d_Model_kindAt_0 rfl (lv_at hl 0 rfl) ?_
  refine va_get (D := (dC, dI)) (ci := 10) (v := .ref (r 0)) (C := R_Model) (T := F_Model) (N := 54) hx hb hg i_Model hown hK hP 0 rfl rfl 0 (by decide) (hg _ k737) (fun _ h9 => h9) rfl d_Model_kindAt_1 ?_
  refine lv_iload_n hx hb d_Model_kindAt_4 rfl (lv_at hl 1 rfl) ?_
  obtain ⟨i1, h⟩ := dz_oi h
  refine va_iald (D := (dC, dI)) (f := F 0) hx hb hK hP 1 1 rfl rfl i1 d_Model_kindAt_5 ?_
  refine lv_sipush (v := 255) hx hb d_Model_kindAt_6 (by decide) ?_
  refine lv_iand hx hb d_Model_kindAt_9 ?_
  obtain rfl := Option.some.inj h
  exact W.iret (v := ((F 0) p0.toNatClampNeg) &&& 255) hx hb hr (fun t ht hW => ⟨_, rfl, rfl, ht⟩) (fun _ h => by cases h) d_Model_kindAt_10

set_option maxHeartbeats 4000000 in
set_option maxRecDepth 100000 in
theorem c_Model_partsAt (l : Launch) (dC : Nat → ClassId) (dI : Nat → Nat → Nat) (N : Nat) (cB : ClassId) (cI : ClassId) (o_Model : Nat) (r : Nat → Nat) (I : Nat → Int32) (F : Nat → Nat → Int32) (p0 : Int32) (z : Int32) (h : m_Model_partsAt N I F p0 = some z) : Met l y_Model_partsAt (.code y_Model_partsAt b_Model_partsAt 3 (some .int) :: lw_g) ({ frames := 1, cells := 0, slots := 0, locals := 21 }) (va_Pc [.ref o_Model, .int p0] (fun U => dz_N U ∧ va_P (dC, dI) classes (wD cB cI o_Model r I F) U.heap ∧ va_K (dC, dI) classes [(cB, .byte), (cI, .int)] U)) (vp_Si (fun r => r = z)) 0 0 (fun _ => False) := by
  refine Met.ofW (cc := b_Model_partsAt) (maxL := 3) (ret := (some .int)) (by decide +kernel) rfl ?_
  intro p e s m args below meth c s₁ B hml hv
  obtain ⟨rfl, hN, hP, hK⟩ := hv
  have hx := B.exec
  have hb := B.bytes
  have hr := B.returns
  have hg : ∀ w ∈ lw_g, w.before _ s = true := fun w hw => atoms_spec (ws := .code y_Model_partsAt b_Model_partsAt 3 (some .int) :: lw_g) B.pre w (List.mem_cons_of_mem _ hw)
  have hown : s.vm.findClass R_Model = some m.cls := findClass_of_methodNamed B.named
  have hlocks := B.notSynchronized
  clear B
  have hP : va_P (dC, dI) classes (wD cB cI o_Model r I F) s.heap := hP
  have hl := lv_entry ([.ref o_Model, .int p0]) (n := 3) (Nat.le_of_ble_eq_true rfl)
  rw [lg_entry_eq]
  generalize (lg_sl ([.ref o_Model, .int p0]) ++ List.replicate (3 - (lg_sl ([.ref o_Model, .int p0])).length) Slot.unset).toArray = ls at hl ⊢
  have hl : lv_has ls 3 [(0, .ref o_Model), (1, .int p0)] := hl
  unfold m_Model_partsAt at h
  refine lv_aload_n hx hb d_Model_partsAt_0 rfl (lv_at hl 0 rfl) ?_
  refine lv_iload_n hx hb d_Model_partsAt_1 rfl (lv_at hl 1 rfl) ?_
  obtain ⟨z1_1, hc1, h⟩ := dz_ob h
  try dsimp only at h
  have hPc := hP
  have hKc := hK
  refine vp_callSi (va_Run.run (va_runV (As := [.int p0]) (rest := []) ⟨hx, hb, hml, hown, hg⟩ (c_Model_kindAt l dC dI N cB cI o_Model r I F p0 z1_1 hc1) (cwV 1 hg (gd_V k739 k740 k741 k707 k738) rfl rfl rfl (by decide +kernel) ⟨Nat.le_of_ble_eq_true rfl, Nat.le_of_ble_eq_true rfl⟩) ⟨dz_blindR, va_recv hKc hPc (ci := 10) (q0 := 0) rfl rfl, fun U hU hW => ⟨rfl, dz_Nw hW hN, by rw [hU]; exact hPc, va_K.moved hW.alike hKc⟩⟩ rfl rfl hl.1 rfl (lv_room (Nat.le_of_ble_eq_true rfl)) d_Model_partsAt_2 ⟨Nat.le_of_ble_eq_true rfl, Nat.le_of_ble_eq_true rfl⟩)) (fun r1 hw => ?_)
  have hw : z1_1 = r1 := hw.symm
  subst hw
  refine lv_istore_n (lv' := [(2, .int z1_1), (0, .ref o_Model), (1, .int p0)]) hx hb d_Model_partsAt_5 rfl hl (by decide) rfl (fun ls hl => ?_)
  refine lv_iload_n hx hb d_Model_partsAt_6 rfl (lv_at hl 0 rfl) ?_
  refine lv_bipush (v := 6) hx hb d_Model_partsAt_7 (by decide) ?_
  refine lv_icmp_ne (tgt := 16) hx hb d_Model_partsAt_9 (by decide) (fun c2 => ?_) (fun c2 => ?_)
  · rw [if_neg c2] at h
    refine lv_iload_n hx hb d_Model_partsAt_16 rfl (lv_at hl 0 rfl) ?_
    refine lv_iconst (v := 2) hx hb d_Model_partsAt_17 (by decide) ?_
    refine lv_icmp_eq (tgt := 26) hx hb d_Model_partsAt_18 (by decide) (fun c3 => ?_) (fun c3 => ?_)
    · rw [if_pos c3] at h
      refine lv_aload_n hx hb d_Model_partsAt_26 rfl (lv_at hl 1 rfl) ?_
      refine va_get (D := (dC, dI)) (ci := 10) (v := .ref (r 0)) (C := R_Model) (T := F_Model) (N := 54) hx hb hg i_Model hown hK hP 0 rfl rfl 0 (by decide) (hg _ k737) (fun _ h9 => h9) rfl d_Model_partsAt_27 ?_
      refine lv_iload_n hx hb d_Model_partsAt_30 rfl (lv_at hl 2 rfl) ?_
      obtain ⟨i4, h⟩ := dz_oi h
      refine va_iald (D := (dC, dI)) (f := F 0) hx hb hK hP 1 1 rfl rfl i4 d_Model_partsAt_31 ?_
      refine lv_bipush (v := 8) hx hb d_Model_partsAt_32 (by decide) ?_
      refine lv_iushr (v := (((F 0) p0.toNatClampNeg).toUInt32 >>> ((8 : Int32).toUInt32 &&& Int32.toUInt32 31)).toInt32) hx hb d_Model_partsAt_34 rfl ?_
      obtain ⟨x5, ex5, h⟩ := dz_lt h
      refine dz_topi ex5 ?_
      refine lv_goto (tgt := 39) hx hb d_Model_partsAt_35 (by decide) ?_
      obtain rfl := Option.some.inj h
      exact W.iret (v := x5) hx hb hr (fun t ht hW => ⟨_, rfl, rfl, ht⟩) (fun _ h => by cases h) d_Model_partsAt_39
    · rw [if_neg c3] at h
      refine lv_iload_n hx hb d_Model_partsAt_21 rfl (lv_at hl 0 rfl) ?_
      refine lv_iconst (v := 4) hx hb d_Model_partsAt_22 (by decide) ?_
      refine lv_icmp_ne (tgt := 38) hx hb d_Model_partsAt_23 (by decide) (fun c6 => ?_) (fun c6 => ?_)
      · rw [if_neg c6] at h
        refine lv_iconst (v := 1) hx hb d_Model_partsAt_38 (by decide) ?_
        obtain rfl := Option.some.inj h
        exact W.iret (v := 1) hx hb hr (fun t ht hW => ⟨_, rfl, rfl, ht⟩) (fun _ h => by cases h) d_Model_partsAt_39
      · rw [if_pos c6] at h
        refine lv_aload_n hx hb d_Model_partsAt_26 rfl (lv_at hl 1 rfl) ?_
        refine va_get (D := (dC, dI)) (ci := 10) (v := .ref (r 0)) (C := R_Model) (T := F_Model) (N := 54) hx hb hg i_Model hown hK hP 0 rfl rfl 0 (by decide) (hg _ k737) (fun _ h9 => h9) rfl d_Model_partsAt_27 ?_
        refine lv_iload_n hx hb d_Model_partsAt_30 rfl (lv_at hl 2 rfl) ?_
        obtain ⟨i7, h⟩ := dz_oi h
        refine va_iald (D := (dC, dI)) (f := F 0) hx hb hK hP 1 1 rfl rfl i7 d_Model_partsAt_31 ?_
        refine lv_bipush (v := 8) hx hb d_Model_partsAt_32 (by decide) ?_
        refine lv_iushr (v := (((F 0) p0.toNatClampNeg).toUInt32 >>> ((8 : Int32).toUInt32 &&& Int32.toUInt32 31)).toInt32) hx hb d_Model_partsAt_34 rfl ?_
        obtain ⟨x8, ex8, h⟩ := dz_lt h
        refine dz_topi ex8 ?_
        refine lv_goto (tgt := 39) hx hb d_Model_partsAt_35 (by decide) ?_
        obtain rfl := Option.some.inj h
        exact W.iret (v := x8) hx hb hr (fun t ht hW => ⟨_, rfl, rfl, ht⟩) (fun _ h => by cases h) d_Model_partsAt_39
  · rw [if_pos c2] at h
    refine lv_iconst (v := 0) hx hb d_Model_partsAt_12 (by decide) ?_
    refine lv_goto (tgt := 39) hx hb d_Model_partsAt_13 (by decide) ?_
    obtain rfl := Option.some.inj h
    exact W.iret (v := 0) hx hb hr (fun t ht hW => ⟨_, rfl, rfl, ht⟩) (fun _ h => by cases h) d_Model_partsAt_39

set_option maxHeartbeats 4000000 in
set_option maxRecDepth 100000 in
theorem c_Model_sizeAt (l : Launch) (dC : Nat → ClassId) (dI : Nat → Nat → Nat) (N : Nat) (cB : ClassId) (cI : ClassId) (o_Model : Nat) (r : Nat → Nat) (I : Nat → Int32) (F : Nat → Nat → Int32) (p0 : Int32) (z : Int32) (h : m_Model_sizeAt N I F p0 = some z) : Met l y_Model_sizeAt (.code y_Model_sizeAt b_Model_sizeAt 2 (some .int) :: lw_g) ({ frames := 2, cells := 0, slots := 0, locals := 43 }) (va_Pc [.ref o_Model, .int p0] (fun U => dz_N U ∧ va_P (dC, dI) classes (wD cB cI o_Model r I F) U.heap ∧ va_K (dC, dI) classes [(cB, .byte), (cI, .int)] U)) (vp_Si (fun r => r = z)) 0 0 (fun _ => False) := by
  refine Met.ofW (cc := b_Model_sizeAt) (maxL := 2) (ret := (some .int)) (by decide +kernel) rfl ?_
  intro p e s m args below meth c s₁ B hml hv
  obtain ⟨rfl, hN, hP, hK⟩ := hv
  have hx := B.exec
  have hb := B.bytes
  have hr := B.returns
  have hg : ∀ w ∈ lw_g, w.before _ s = true := fun w hw => atoms_spec (ws := .code y_Model_sizeAt b_Model_sizeAt 2 (some .int) :: lw_g) B.pre w (List.mem_cons_of_mem _ hw)
  have hown : s.vm.findClass R_Model = some m.cls := findClass_of_methodNamed B.named
  have hlocks := B.notSynchronized
  clear B
  have hP : va_P (dC, dI) classes (wD cB cI o_Model r I F) s.heap := hP
  have hl := lv_entry ([.ref o_Model, .int p0]) (n := 2) (Nat.le_of_ble_eq_true rfl)
  rw [lg_entry_eq]
  generalize (lg_sl ([.ref o_Model, .int p0]) ++ List.replicate (2 - (lg_sl ([.ref o_Model, .int p0])).length) Slot.unset).toArray = ls at hl ⊢
  have hl : lv_has ls 2 [(0, .ref o_Model), (1, .int p0)] := hl
  unfold m_Model_sizeAt at h
  refine lv_iconst (v := 1) hx hb d_Model_sizeAt_0 (by decide) ?_
  refine lv_aload_n hx hb d_Model_sizeAt_1 rfl (lv_at hl 0 rfl) ?_
  refine lv_iload_n hx hb d_Model_sizeAt_2 rfl (lv_at hl 1 rfl) ?_
  obtain ⟨z1_1, hc1, h⟩ := dz_ob h
  try dsimp only at h
  have hPc := hP
  have hKc := hK
  refine vp_callSi (va_Run.run (va_runV (As := [.int p0]) (rest := [.int 1]) ⟨hx, hb, hml, hown, hg⟩ (c_Model_kindAt l dC dI N cB cI o_Model r I F p0 z1_1 hc1) (cwV 1 hg (gd_V k739 k740 k741 k707 k738) rfl rfl rfl (by decide +kernel) ⟨Nat.le_of_ble_eq_true rfl, Nat.le_of_ble_eq_true rfl⟩) ⟨dz_blindR, va_recv hKc hPc (ci := 10) (q0 := 0) rfl rfl, fun U hU hW => ⟨rfl, dz_Nw hW hN, by rw [hU]; exact hPc, va_K.moved hW.alike hKc⟩⟩ rfl rfl hl.1 rfl (lv_room (Nat.le_of_ble_eq_true rfl)) d_Model_sizeAt_3 ⟨Nat.le_of_ble_eq_true rfl, Nat.le_of_ble_eq_true rfl⟩)) (fun r1 hw => ?_)
  have hw : z1_1 = r1 := hw.symm
  subst hw
  refine lv_bipush (v := 6) hx hb d_Model_sizeAt_6 (by decide) ?_
  refine lv_icmp_ne (tgt := 24) hx hb d_Model_sizeAt_8 (by decide) (fun c2 => ?_) (fun c2 => ?_)
  · rw [if_neg c2] at h
    refine lv_aload_n hx hb d_Model_sizeAt_24 rfl (lv_at hl 0 rfl) ?_
    refine lv_iload_n hx hb d_Model_sizeAt_25 rfl (lv_at hl 1 rfl) ?_
    obtain ⟨z3_1, hc3, h⟩ := dz_ob h
    try dsimp only at h
    have hPc := hP
    have hKc := hK
    refine vp_callSi (va_Run.run (va_runV (As := [.int p0]) (rest := [.int 1]) ⟨hx, hb, hml, hown, hg⟩ (c_Model_partsAt l dC dI N cB cI o_Model r I F p0 z3_1 hc3) (cwV 1 hg (gd_V k744 k745 k746 k707 k743) rfl rfl rfl (by decide +kernel) ⟨Nat.le_of_ble_eq_true rfl, Nat.le_of_ble_eq_true rfl⟩) ⟨dz_blindR, va_recv hKc hPc (ci := 10) (q0 := 0) rfl rfl, fun U hU hW => ⟨rfl, dz_Nw hW hN, by rw [hU]; exact hPc, va_K.moved hW.alike hKc⟩⟩ rfl rfl hl.1 rfl (lv_room (Nat.le_of_ble_eq_true rfl)) d_Model_sizeAt_26 ⟨Nat.le_of_ble_eq_true rfl, Nat.le_of_ble_eq_true rfl⟩)) (fun r3 hw => ?_)
    have hw : z3_1 = r3 := hw.symm
    subst hw
    refine lv_iadd hx hb d_Model_sizeAt_29 ?_
    obtain rfl := Option.some.inj h
    exact W.iret (v := 1 + z3_1) hx hb hr (fun t ht hW => ⟨_, rfl, rfl, ht⟩) (fun _ h => by cases h) d_Model_sizeAt_30
  · rw [if_pos c2] at h
    refine lv_aload_n hx hb d_Model_sizeAt_11 rfl (lv_at hl 0 rfl) ?_
    refine va_get (D := (dC, dI)) (ci := 10) (v := .ref (r 1)) (C := R_Model) (T := F_Model) (N := 54) hx hb hg i_Model hown hK hP 0 rfl rfl 1 (by decide) (hg _ k742) (fun _ h9 => h9) rfl d_Model_sizeAt_12 ?_
    refine lv_iload_n hx hb d_Model_sizeAt_15 rfl (lv_at hl 1 rfl) ?_
    obtain ⟨i4, h⟩ := dz_oi h
    refine va_iald (D := (dC, dI)) (f := F 1) hx hb hK hP 2 1 rfl rfl i4 d_Model_sizeAt_16 ?_
    refine lv_iconst (v := 3) hx hb d_Model_sizeAt_17 (by decide) ?_
    refine lv_iadd hx hb d_Model_sizeAt_18 ?_
    refine lv_iconst (v := 4) hx hb d_Model_sizeAt_19 (by decide) ?_
    refine lv_idiv hx hb d_Model_sizeAt_20 (by decide) ?_
    refine lv_goto (tgt := 29) hx hb d_Model_sizeAt_21 (by decide) ?_
    refine lv_iadd hx hb d_Model_sizeAt_29 ?_
    obtain rfl := Option.some.inj h
    exact W.iret (v := 1 + ((((F 1) p0.toNatClampNeg) + 3) / 4)) hx hb hr (fun t ht hW => ⟨_, rfl, rfl, ht⟩) (fun _ h => by cases h) d_Model_sizeAt_30

set_option maxHeartbeats 4000000 in
set_option maxRecDepth 100000 in
theorem c_Model_mark (l : Launch) (dC : Nat → ClassId) (dI : Nat → Nat → Nat) (N : Nat) (cB : ClassId) (cI : ClassId) (o_Model : Nat) (r : Nat → Nat) (I : Nat → Int32) (F : Nat → Nat → Int32) (p0 : Int32) (p1 : Int32) (sz : Nat) (z : (Nat → Nat → Int32) × (Nat → Int32)) (h : m_Model_mark N I F p0 p1 = some z) : Met l y_Model_mark (.code y_Model_mark b_Model_mark 3 none :: lw_g) ({ frames := 3, cells := 0, slots := 0, locals := 64 }) (va_Pc [.ref o_Model, .int p0, .int p1] (fun U => dz_N U ∧ U.heap.size = sz ∧ va_P (dC, dI) classes (wD cB cI o_Model r I F) U.heap ∧ va_K (dC, dI) classes [(cB, .byte), (cI, .int)] U ∧ va_D (fun _ => True) (wD cB cI o_Model r I F))) (va_Qv (fun (_ : Unit) => True) (fun (u : Unit) t => va_P (dC, dI) classes (wD cB cI o_Model r z.2 z.1) t.heap ∧ va_K (dC, dI) classes [(cB, .byte), (cI, .int)] t ∧ va_D (va_A (wD cB cI o_Model r I F) sz) (wD cB cI o_Model r z.2 z.1)) (va_A (wD cB cI o_Model r I F) sz)) 0 0 (va_A (wD cB cI o_Model r I F) sz) := by
  refine Met.ofW (cc := b_Model_mark) (maxL := 3) (ret := none) (by decide +kernel) rfl ?_
  intro p e s m args below meth c s₁ B hml hv
  obtain ⟨rfl, hN, hsz, hP, hK, hD0⟩ := hv
  have hx := B.exec
  have hb := B.bytes
  have hr := B.returns
  have hg : ∀ w ∈ lw_g, w.before _ s = true := fun w hw => atoms_spec (ws := .code y_Model_mark b_Model_mark 3 none :: lw_g) B.pre w (List.mem_cons_of_mem _ hw)
  have hown : s.vm.findClass R_Model = some m.cls := findClass_of_methodNamed B.named
  have hlocks := B.notSynchronized
  clear B
  subst hsz
  have hD := hD0.self (sz := s.heap.size)
  generalize hAe : va_A (wD cB cI o_Model r I F) s.heap.size = A at hD ⊢
  have hA : ∀ q : Nat, s.heap.size ≤ q → A q := fun q h => by rw [← hAe]; exact Or.inr h
  have hS : va_S A s.heap s.heap [] := va_S.rf
  have hP : va_P (dC, dI) classes (wD cB cI o_Model r I F) s.heap := hP
  have hl := lv_entry ([.ref o_Model, .int p0, .int p1]) (n := 3) (Nat.le_of_ble_eq_true rfl)
  rw [lg_entry_eq]
  generalize (lg_sl ([.ref o_Model, .int p0, .int p1]) ++ List.replicate (3 - (lg_sl ([.ref o_Model, .int p0, .int p1])).length) Slot.unset).toArray = ls at hl ⊢
  have hl : lv_has ls 3 [(0, .ref o_Model), (1, .int p0), (2, .int p1)] := hl
  unfold m_Model_mark at h
  refine lv_iload_n hx hb d_Model_mark_0 rfl (lv_at hl 1 rfl) ?_
  refine lv_iconst (v := 2) hx hb d_Model_mark_1 (by decide) ?_
  refine lv_icmp_ne (tgt := 44) hx hb d_Model_mark_2 (by decide) (fun c1 => ?_) (fun c1 => ?_)
  · rw [if_neg c1] at h
    obtain rfl := Option.some.inj h
    have hP9 := hP
    have hD9 := hD
    have hK9 := hK
    exact W.vret hx hb hr (fun t ht hW => ⟨⟨(), rfl, trivial, by rw [ht]; exact hP9, va_K.moved hW.alike hK9, hD9⟩, hS.F ht⟩) hS.2.2 d_Model_mark_44
  · rw [if_pos c1] at h
    refine lv_aload_n hx hb d_Model_mark_5 rfl (lv_at hl 0 rfl) ?_
    refine va_get (D := (dC, dI)) (ci := 10) (v := .ref (r 2)) (C := R_Model) (T := F_Model) (N := 54) hx hb hg i_Model hown hK hP 0 rfl rfl 2 (by decide) (hg _ k747) (fun _ h9 => h9) rfl d_Model_mark_6 ?_
    refine lv_iload_n hx hb d_Model_mark_9 rfl (lv_at hl 2 rfl) ?_
    obtain ⟨i2, h⟩ := dz_oi h
    refine va_iald (D := (dC, dI)) (f := F 2) hx hb hK hP 3 1 rfl rfl i2 d_Model_mark_10 ?_
    refine lv_iconst (v := (-1)) hx hb d_Model_mark_11 (by decide) ?_
    refine lv_icmp_ne (tgt := 44) hx hb d_Model_mark_12 (by decide) (fun c3 => ?_) (fun c3 => ?_)
    · rw [if_neg c3] at h
      obtain rfl := Option.some.inj h
      have hP9 := hP
      have hD9 := hD
      have hK9 := hK
      exact W.vret hx hb hr (fun t ht hW => ⟨⟨(), rfl, trivial, by rw [ht]; exact hP9, va_K.moved hW.alike hK9, hD9⟩, hS.F ht⟩) hS.2.2 d_Model_mark_44
    · rw [if_pos c3] at h
      refine lv_aload_n hx hb d_Model_mark_15 rfl (lv_at hl 0 rfl) ?_
      refine va_get (D := (dC, dI)) (ci := 10) (v := .ref (r 2)) (C := R_Model) (T := F_Model) (N := 54) hx hb hg i_Model hown hK hP 0 rfl rfl 2 (by decide) (hg _ k747) (fun _ h9 => h9) rfl d_Model_mark_16 ?_
      refine lv_iload_n hx hb d_Model_mark_19 rfl (lv_at hl 2 rfl) ?_
      refine lv_aload_n hx hb d_Model_mark_20 rfl (lv_at hl 0 rfl) ?_
      refine va_get (D := (dC, dI)) (ci := 10) (v := .int (I 50)) (C := R_Model) (T := F_Model) (N := 54) hx hb hg i_Model hown hK hP 0 rfl rfl 50 (by decide) (hg _ k748) (fun _ h9 => h9) rfl d_Model_mark_21 ?_
      obtain ⟨i4, h⟩ := dz_oi h
      refine va_iast (D := (dC, dI)) (f := F 2) hx hb hK hP hD hS 3 1 rfl rfl i4 d_Model_mark_24 (fun H locs hP hD hS => ?_)
      obtain ⟨G5, eG5, h⟩ := dz_lt h
      have hP : va_P (dC, dI) classes (wD cB cI o_Model r I G5) H := by rw [eG5]; exact hP
      have hD : va_D A (wD cB cI o_Model r I G5) := by rw [eG5]; exact hD
      refine lv_aload_n hx hb d_Model_mark_25 rfl (lv_at hl 0 rfl) ?_
      refine lv_iload_n hx hb d_Model_mark_26 rfl (lv_at hl 2 rfl) ?_
      refine va_put (D := (dC, dI)) (ci := 10) (v := .int p1) (ty := .int) (C := R_Model) (T := F_Model) (N := 54) hx hb hg i_Model t_Model t_Model_ok n_Model hown hK hP hD hS 0 rfl rfl 50 (by decide) (hg _ k748) (fun _ h9 => h9) rfl (by decide +kernel) rfl rfl (Nat.le_of_ble_eq_true rfl) d_Model_mark_27 (fun H locs hP hD hS => ?_)
      obtain ⟨J6, eJ6, h⟩ := dz_lt h
      have hP : va_P (dC, dI) classes (wD cB cI o_Model r J6 G5) H := by rw [eJ6]; exact hP
      have hD : va_D A (wD cB cI o_Model r J6 G5) := by rw [eJ6]; exact hD
      refine lv_aload_n hx hb d_Model_mark_30 rfl (lv_at hl 0 rfl) ?_
      refine lv_dup hx hb d_Model_mark_31 rfl ?_
      refine va_get (D := (dC, dI)) (ci := 10) (v := .int (J6 51)) (C := R_Model) (T := F_Model) (N := 54) hx hb hg i_Model hown hK hP 0 rfl rfl 51 (by decide) (hg _ k749) (fun _ h9 => h9) rfl d_Model_mark_32 ?_
      refine lv_aload_n hx hb d_Model_mark_35 rfl (lv_at hl 0 rfl) ?_
      refine lv_iload_n hx hb d_Model_mark_36 rfl (lv_at hl 2 rfl) ?_
      obtain ⟨z7_1, hc7, h⟩ := dz_ob h
      try dsimp only at h
      have hPc := hP
      have hKc := hK
      refine vp_callSi (va_Run.run (va_runV (As := [.int p1]) (rest := [.int (J6 51), .ref o_Model]) ⟨hx, hb, hml, hown, hg⟩ (c_Model_sizeAt l dC dI N cB cI o_Model r J6 G5 p1 z7_1 hc7) (cwV 1 hg (gd_V k751 k752 k753 k707 k750) rfl rfl rfl (by decide +kernel) ⟨Nat.le_of_ble_eq_true rfl, Nat.le_of_ble_eq_true rfl⟩) ⟨dz_blindR, va_recv hKc hPc (ci := 10) (q0 := 0) rfl rfl, fun U hU hW => ⟨rfl, dz_Nw hW hN, by rw [hU]; exact hPc, va_K.moved hW.alike hKc⟩⟩ rfl rfl hl.1 rfl (lv_room (Nat.le_of_ble_eq_true rfl)) d_Model_mark_37 ⟨Nat.le_of_ble_eq_true rfl, Nat.le_of_ble_eq_true rfl⟩)) (fun r7 hw => ?_)
      have hw : z7_1 = r7 := hw.symm
      subst hw
      refine lv_iadd hx hb d_Model_mark_40 ?_
      refine va_put (D := (dC, dI)) (ci := 10) (v := .int ((J6 51) + z7_1)) (ty := .int) (C := R_Model) (T := F_Model) (N := 54) hx hb hg i_Model t_Model t_Model_ok n_Model hown hK hP hD hS 0 rfl rfl 51 (by decide) (hg _ k749) (fun _ h9 => h9) rfl (by decide +kernel) rfl rfl (Nat.le_of_ble_eq_true rfl) d_Model_mark_41 (fun H locs hP hD hS => ?_)
      obtain ⟨J8, eJ8, h⟩ := dz_lt h
      have hP : va_P (dC, dI) classes (wD cB cI o_Model r J8 G5) H := by rw [eJ8]; exact hP
      have hD : va_D A (wD cB cI o_Model r J8 G5) := by rw [eJ8]; exact hD
      obtain rfl := Option.some.inj h
      have hP9 := hP
      have hD9 := hD
      have hK9 := hK
      exact W.vret hx hb hr (fun t ht hW => ⟨⟨(), rfl, trivial, by rw [ht]; exact hP9, va_K.moved hW.alike hK9, hD9⟩, hS.F ht⟩) hS.2.2 d_Model_mark_44

set_option maxHeartbeats 4000000 in
set_option maxRecDepth 100000 in
theorem l_Model_markAll_2 {p : Program} {l : Launch} {e : Env} {s : State} {m : MethodId} {args : Array Value} {below : List Frame} {meth : Method} {c : Code} {Q : State → Prop} {A : Nat → Prop} (dC : Nat → ClassId) (dI : Nat → Nat → Nat) (N : Nat) (cB : ClassId) (cI : ClassId) (o_Model : Nat) (r : Nat → Nat) (w1_I : Nat → Int32) {ζ : Type} {z : ζ} (hx : p.tables.exec = Jvm.exec) (hb : c.code = b_Model_markAll) (hml : c.maxLocals = 3) (hown : s.vm.findClass R_Model = some m.cls) (hg : ∀ w ∈ lw_g, w.before args s = true) (hN : dz_N s) (hK : va_K (dC, dI) classes [(cB, .byte), (cI, .int)] s) (hA : ∀ q : Nat, s.heap.size ≤ q → A q) {k2_69 : Int32 → (Nat → Nat → Int32) → (Nat → Int32) → Option (ζ)} (hk2_69 : ∀ (v2_2 : Int32) (w2_F : (Nat → Nat → Int32)) (w2_I : (Nat → Int32))    (H : Heap) (locs : List Loc) (ls : Array Slot), k2_69 v2_2 w2_F w2_I = some z → va_P (dC, dI) classes (wD cB cI o_Model r w2_I w2_F) H → va_D A (wD cB cI o_Model r w2_I w2_F) → va_S A s.heap H locs → lv_has ls 3 [(2, .int v2_2), (1, .int (w1_I 50)), (0, .ref o_Model)] → W p l e ({ frames := 4, cells := 0, slots := 0, locals := 86 } : Room) s m args below meth c H locs 0 0 Q (F0 m 69 ls [])) : ∀ (n2 : Nat) (v2_2 : Int32) (w2_F : (Nat → Nat → Int32)) (w2_I : (Nat → Int32))   (H : Heap) (locs : List Loc) (ls : Array Slot), lm_Model_markAll_2 N w1_I k2_69 n2 v2_2 w2_F w2_I = some z → va_P (dC, dI) classes (wD cB cI o_Model r w2_I w2_F) H → va_D A (wD cB cI o_Model r w2_I w2_F) → va_S A s.heap H locs → lv_has ls 3 [(2, .int v2_2), (1, .int (w1_I 50)), (0, .ref o_Model)] → W p l e ({ frames := 4, cells := 0, slots := 0, locals := 86 } : Room) s m args below meth c H locs 0 0 Q (F0 m 34 ls []) := by
  intro n2
  induction n2 with
  | zero =>
    intro v2_2 w2_F w2_I H locs ls h hP hD hS hl
    rw [lm_Model_markAll_2] at h
    cases h
  | succ n2 ih2 =>
    intro v2_2 w2_F w2_I H locs ls h hP hD hS hl
    rw [lm_Model_markAll_2] at h
    refine lv_iload_n hx hb d_Model_markAll_34 rfl (lv_at hl 0 rfl) ?_
    refine lv_aload_n hx hb d_Model_markAll_35 rfl (lv_at hl 2 rfl) ?_
    refine lv_iload_n hx hb d_Model_markAll_36 rfl (lv_at hl 1 rfl) ?_
    obtain ⟨z6_1, hc6, h⟩ := dz_ob h
    try dsimp only at h
    have hPc := hP
    have hKc := hK
    refine vp_callSi (va_Run.run (va_runV (As := [.int (w1_I 50)]) (rest := [.int v2_2]) ⟨hx, hb, hml, hown, hg⟩ (c_Model_partsAt l dC dI N cB cI o_Model r w2_I w2_F (w1_I 50) z6_1 hc6) (cwV 1 hg (gd_V k744 k745 k746 k707 k743) rfl rfl rfl (by decide +kernel) ⟨Nat.le_of_ble_eq_true rfl, Nat.le_of_ble_eq_true rfl⟩) ⟨dz_blindR, va_recv hKc hPc (ci := 10) (q0 := 0) rfl rfl, fun U hU hW => ⟨rfl, dz_Nw hW hN, by rw [hU]; exact hPc, va_K.moved hW.alike hKc⟩⟩ rfl rfl hl.1 rfl (lv_room (Nat.le_of_ble_eq_true rfl)) d_Model_markAll_37 ⟨Nat.le_of_ble_eq_true rfl, Nat.le_of_ble_eq_true rfl⟩)) (fun r6 hw => ?_)
    have hw : z6_1 = r6 := hw.symm
    subst hw
    refine lv_icmp_gt (tgt := 69) hx hb d_Model_markAll_40 (by decide) (fun c7 => ?_) (fun c7 => ?_)
    · rw [if_pos c7] at h
      exact hk2_69 v2_2 w2_F w2_I _ _ _ h hP hD hS (lv_sub hl [0, 1, 2] rfl)
    · rw [if_neg c7] at h
      refine lv_aload_n hx hb d_Model_markAll_43 rfl (lv_at hl 2 rfl) ?_
      refine lv_aload_n hx hb d_Model_markAll_44 rfl (lv_at hl 2 rfl) ?_
      refine va_get (D := (dC, dI)) (ci := 10) (v := .ref (r 0)) (C := R_Model) (T := F_Model) (N := 54) hx hb hg i_Model hown hK hP 0 rfl rfl 0 (by decide) (hg _ k737) (fun _ h9 => h9) rfl d_Model_markAll_45 ?_
      refine lv_iload_n hx hb d_Model_markAll_48 rfl (lv_at hl 1 rfl) ?_
      refine lv_iload_n hx hb d_Model_markAll_49 rfl (lv_at hl 0 rfl) ?_
      refine lv_iadd hx hb d_Model_markAll_50 ?_
      obtain ⟨i8, h⟩ := dz_oi h
      refine va_iald (D := (dC, dI)) (f := w2_F 0) hx hb hK hP 1 1 rfl rfl i8 d_Model_markAll_51 ?_
      refine lv_aload_n hx hb d_Model_markAll_52 rfl (lv_at hl 2 rfl) ?_
      refine va_get (D := (dC, dI)) (ci := 10) (v := .ref (r 1)) (C := R_Model) (T := F_Model) (N := 54) hx hb hg i_Model hown hK hP 0 rfl rfl 1 (by decide) (hg _ k742) (fun _ h9 => h9) rfl d_Model_markAll_53 ?_
      refine lv_iload_n hx hb d_Model_markAll_56 rfl (lv_at hl 1 rfl) ?_
      refine lv_iload_n hx hb d_Model_markAll_57 rfl (lv_at hl 0 rfl) ?_
      refine lv_iadd hx hb d_Model_markAll_58 ?_
      obtain ⟨i9, h⟩ := dz_oi h
      refine va_iald (D := (dC, dI)) (f := w2_F 1) hx hb hK hP 2 1 rfl rfl i9 d_Model_markAll_59 ?_
      obtain ⟨⟨z10_1, z10_2⟩, hc10, h⟩ := dz_ob h
      try dsimp only at h
      have hPc := hP
      have hKc := hK
      have hDc := hD
      have hFc := dz_freeall hD hS hA
      refine va_callv (va_runV (As := [.int ((w2_F 0) ((w1_I 50) + v2_2).toNatClampNeg), .int ((w2_F 1) ((w1_I 50) + v2_2).toNatClampNeg)]) (rest := []) ⟨hx, hb, hml, hown, hg⟩ (c_Model_mark l dC dI N cB cI o_Model r w2_I w2_F ((w2_F 0) ((w1_I 50) + v2_2).toNatClampNeg) ((w2_F 1) ((w1_I 50) + v2_2).toNatClampNeg) H.size (z10_1, z10_2) hc10) (cwV 2 hg (gd_V k755 k756 k757 k707 k754) rfl rfl rfl (by decide +kernel) ⟨Nat.le_of_ble_eq_true rfl, Nat.le_of_ble_eq_true rfl⟩) ⟨dz_blind, va_recv hKc hPc (ci := 10) (q0 := 0) rfl rfl, fun U hU hW => ⟨rfl, dz_Nw hW hN, by rw [hU], by rw [hU]; exact hPc, va_K.moved hW.alike hKc, hDc.weaken (fun _ _ _ _ => trivial)⟩⟩ rfl rfl hl.1 rfl (lv_room (Nat.le_of_ble_eq_true rfl)) d_Model_markAll_60 ⟨Nat.le_of_ble_eq_true rfl, Nat.le_of_ble_eq_true rfl⟩) hS (fun q _ h => hFc q h) hFc (fun u10 t10 H1 locs ht hvm hw hB hz1 hk1 hS => ?_)
      obtain ⟨hP1, hK1, hD1⟩ := hB
      rw [ht] at hP1
      have hP := hP1
      have hD := hD1.weaken (fun _ q _ h => hFc q.1 h)
      generalize H1 = H at hP hS ⊢
      have hP : va_P (dC, dI) classes (wD cB cI o_Model r z10_2 z10_1) H := hP
      have hD : va_D A (wD cB cI o_Model r z10_2 z10_1) := hD
      refine lv_iinc (v := v2_2 + 1) (lv' := [(2, .int (v2_2 + 1)), (1, .int (w1_I 50)), (0, .ref o_Model)]) hx hb d_Model_markAll_63 hl (k := 0) rfl rfl (by decide) rfl (fun ls hl => ?_)
      refine lv_goto (tgt := 34) hx hb d_Model_markAll_66 (by decide) ?_
      exact ih2 (v2_2 + 1) z10_1 z10_2 _ _ _ h hP hD hS (lv_sub hl [0, 1, 2] rfl)
set_option maxHeartbeats 4000000 in
set_option maxRecDepth 100000 in
theorem l_Model_markAll_1 {p : Program} {l : Launch} {e : Env} {s : State} {m : MethodId} {args : Array Value} {below : List Frame} {meth : Method} {c : Code} {Q : State → Prop} {A : Nat → Prop} (dC : Nat → ClassId) (dI : Nat → Nat → Nat) (N : Nat) (cB : ClassId) (cI : ClassId) (o_Model : Nat) (r : Nat → Nat) {ζ : Type} {z : ζ} (hx : p.tables.exec = Jvm.exec) (hb : c.code = b_Model_markAll) (hml : c.maxLocals = 3) (hown : s.vm.findClass R_Model = some m.cls) (hg : ∀ w ∈ lw_g, w.before args s = true) (hN : dz_N s) (hK : va_K (dC, dI) classes [(cB, .byte), (cI, .int)] s) (hA : ∀ q : Nat, s.heap.size ≤ q → A q) {k1_72 : (Nat → Nat → Int32) → (Nat → Int32) → Option (ζ)} (hk1_72 : ∀ (w1_F : (Nat → Nat → Int32)) (w1_I : (Nat → Int32))    (H : Heap) (locs : List Loc) (ls : Array Slot), k1_72 w1_F w1_I = some z → va_P (dC, dI) classes (wD cB cI o_Model r w1_I w1_F) H → va_D A (wD cB cI o_Model r w1_I w1_F) → va_S A s.heap H locs → lv_has ls 3 [(0, .ref o_Model)] → W p l e ({ frames := 4, cells := 0, slots := 0, locals := 86 } : Room) s m args below meth c H locs 0 0 Q (F0 m 72 ls [])) : ∀ (n1 : Nat) (w1_F : (Nat → Nat → Int32)) (w1_I : (Nat → Int32))   (H : Heap) (locs : List Loc) (ls : Array Slot), lm_Model_markAll_1 N k1_72 n1 w1_F w1_I = some z → va_P (dC, dI) classes (wD cB cI o_Model r w1_I w1_F) H → va_D A (wD cB cI o_Model r w1_I w1_F) → va_S A s.heap H locs → lv_has ls 3 [(0, .ref o_Model)] → W p l e ({ frames := 4, cells := 0, slots := 0, locals := 86 } : Room) s m args below meth c H locs 0 0 Q (F0 m 0 ls []) := by
  intro n1
  induction n1 with
  | zero =>
    intro w1_F w1_I H locs ls h hP hD hS hl
    rw [lm_Model_markAll_1] at h
    cases h
  | succ n1 ih1 =>
    intro w1_F w1_I H locs ls h hP hD hS hl
    rw [lm_Model_markAll_1] at h
    refine lv_aload_n hx hb d_Model_markAll_0 rfl (lv_at hl 0 rfl) ?_
    refine va_get (D := (dC, dI)) (ci := 10) (v := .int (w1_I 50)) (C := R_Model) (T := F_Model) (N := 54) hx hb hg i_Model hown hK hP 0 rfl rfl 50 (by decide) (hg _ k748) (fun _ h9 => h9) rfl d_Model_markAll_1 ?_
    refine lv_bipush (v := (-2)) hx hb d_Model_markAll_4 (by decide) ?_
    refine lv_icmp_eq (tgt := 72) hx hb d_Model_markAll_6 (by decide) (fun c1 => ?_) (fun c1 => ?_)
    · rw [if_pos c1] at h
      exact hk1_72 w1_F w1_I _ _ _ h hP hD hS (lv_sub hl [0] rfl)
    · rw [if_neg c1] at h
      refine lv_aload_n hx hb d_Model_markAll_9 rfl (lv_at hl 0 rfl) ?_
      refine va_get (D := (dC, dI)) (ci := 10) (v := .int (w1_I 50)) (C := R_Model) (T := F_Model) (N := 54) hx hb hg i_Model hown hK hP 0 rfl rfl 50 (by decide) (hg _ k748) (fun _ h9 => h9) rfl d_Model_markAll_10 ?_
      refine lv_istore_n (lv' := [(1, .int (w1_I 50)), (0, .ref o_Model)]) hx hb d_Model_markAll_13 rfl hl (by decide) rfl (fun ls hl => ?_)
      refine lv_aload_n hx hb d_Model_markAll_14 rfl (lv_at hl 1 rfl) ?_
      refine lv_aload_n hx hb d_Model_markAll_15 rfl (lv_at hl 1 rfl) ?_
      refine va_get (D := (dC, dI)) (ci := 10) (v := .ref (r 2)) (C := R_Model) (T := F_Model) (N := 54) hx hb hg i_Model hown hK hP 0 rfl rfl 2 (by decide) (hg _ k747) (fun _ h9 => h9) rfl d_Model_markAll_16 ?_
      refine lv_iload_n hx hb d_Model_markAll_19 rfl (lv_at hl 0 rfl) ?_
      obtain ⟨i2, h⟩ := dz_oi h
      refine va_iald (D := (dC, dI)) (f := w1_F 2) hx hb hK hP 3 1 rfl rfl i2 d_Model_markAll_20 ?_
      refine va_put (D := (dC, dI)) (ci := 10) (v := .int ((w1_F 2) (w1_I 50).toNatClampNeg)) (ty := .int) (C := R_Model) (T := F_Model) (N := 54) hx hb hg i_Model t_Model t_Model_ok n_Model hown hK hP hD hS 0 rfl rfl 50 (by decide) (hg _ k748) (fun _ h9 => h9) rfl (by decide +kernel) rfl rfl (Nat.le_of_ble_eq_true rfl) d_Model_markAll_21 (fun H locs hP hD hS => ?_)
      obtain ⟨J3, eJ3, h⟩ := dz_lt h
      have hP : va_P (dC, dI) classes (wD cB cI o_Model r J3 w1_F) H := by rw [eJ3]; exact hP
      have hD : va_D A (wD cB cI o_Model r J3 w1_F) := by rw [eJ3]; exact hD
      refine lv_aload_n hx hb d_Model_markAll_24 rfl (lv_at hl 1 rfl) ?_
      refine va_get (D := (dC, dI)) (ci := 10) (v := .ref (r 2)) (C := R_Model) (T := F_Model) (N := 54) hx hb hg i_Model hown hK hP 0 rfl rfl 2 (by decide) (hg _ k747) (fun _ h9 => h9) rfl d_Model_markAll_25 ?_
      refine lv_iload_n hx hb d_Model_markAll_28 rfl (lv_at hl 0 rfl) ?_
      refine lv_bipush (v := (-2)) hx hb d_Model_markAll_29 (by decide) ?_
      obtain ⟨i4, h⟩ := dz_oi h
      refine va_iast (D := (dC, dI)) (f := w1_F 2) hx hb hK hP hD hS 3 1 rfl rfl i4 d_Model_markAll_31 (fun H locs hP hD hS => ?_)
      obtain ⟨G5, eG5, h⟩ := dz_lt h
      have hP : va_P (dC, dI) classes (wD cB cI o_Model r J3 G5) H := by rw [eG5]; exact hP
      have hD : va_D A (wD cB cI o_Model r J3 G5) := by rw [eG5]; exact hD
      refine lv_iconst (v := 1) hx hb d_Model_markAll_32 (by decide) ?_
      refine lv_istore_n (lv' := [(2, .int 1), (1, .int (w1_I 50)), (0, .ref o_Model)]) hx hb d_Model_markAll_33 rfl hl (by decide) rfl (fun ls hl => ?_)
      refine l_Model_markAll_2 dC dI N cB cI o_Model r w1_I hx hb hml hown hg hN hK hA (fun v2_2 w2_F w2_I H locs ls h hP hD hS hl => ?_) N (1 : Int32) G5 J3 _ _ _ h hP hD hS (lv_sub hl [0, 1, 2] rfl)
      refine lv_goto (tgt := 0) hx hb d_Model_markAll_69 (by decide) ?_
      exact ih1 w2_F w2_I _ _ _ h hP hD hS (lv_sub hl [2] rfl)
set_option maxHeartbeats 4000000 in
set_option maxRecDepth 100000 in
theorem c_Model_markAll (l : Launch) (dC : Nat → ClassId) (dI : Nat → Nat → Nat) (N : Nat) (cB : ClassId) (cI : ClassId) (o_Model : Nat) (r : Nat → Nat) (I : Nat → Int32) (F : Nat → Nat → Int32) (sz : Nat) (z : (Nat → Nat → Int32) × (Nat → Int32)) (h : m_Model_markAll N I F = some z) : Met l y_Model_markAll (.code y_Model_markAll b_Model_markAll 3 none :: lw_g) ({ frames := 4, cells := 0, slots := 0, locals := 86 }) (va_Pc [.ref o_Model] (fun U => dz_N U ∧ U.heap.size = sz ∧ va_P (dC, dI) classes (wD cB cI o_Model r I F) U.heap ∧ va_K (dC, dI) classes [(cB, .byte), (cI, .int)] U ∧ va_D (fun _ => True) (wD cB cI o_Model r I F))) (va_Qv (fun (_ : Unit) => True) (fun (u : Unit) t => va_P (dC, dI) classes (wD cB cI o_Model r z.2 z.1) t.heap ∧ va_K (dC, dI) classes [(cB, .byte), (cI, .int)] t ∧ va_D (va_A (wD cB cI o_Model r I F) sz) (wD cB cI o_Model r z.2 z.1)) (va_A (wD cB cI o_Model r I F) sz)) 0 0 (va_A (wD cB cI o_Model r I F) sz) := by
  refine Met.ofW (cc := b_Model_markAll) (maxL := 3) (ret := none) (by decide +kernel) rfl ?_
  intro p e s m args below meth c s₁ B hml hv
  obtain ⟨rfl, hN, hsz, hP, hK, hD0⟩ := hv
  have hx := B.exec
  have hb := B.bytes
  have hr := B.returns
  have hg : ∀ w ∈ lw_g, w.before _ s = true := fun w hw => atoms_spec (ws := .code y_Model_markAll b_Model_markAll 3 none :: lw_g) B.pre w (List.mem_cons_of_mem _ hw)
  have hown : s.vm.findClass R_Model = some m.cls := findClass_of_methodNamed B.named
  have hlocks := B.notSynchronized
  clear B
  subst hsz
  have hD := hD0.self (sz := s.heap.size)
  generalize hAe : va_A (wD cB cI o_Model r I F) s.heap.size = A at hD ⊢
  have hA : ∀ q : Nat, s.heap.size ≤ q → A q := fun q h => by rw [← hAe]; exact Or.inr h
  have hS : va_S A s.heap s.heap [] := va_S.rf
  have hP : va_P (dC, dI) classes (wD cB cI o_Model r I F) s.heap := hP
  have hl := lv_entry ([.ref o_Model]) (n := 3) (Nat.le_of_ble_eq_true rfl)
  rw [lg_entry_eq]
  generalize (lg_sl ([.ref o_Model]) ++ List.replicate (3 - (lg_sl ([.ref o_Model])).length) Slot.unset).toArray = ls at hl ⊢
  have hl : lv_has ls 3 [(0, .ref o_Model)] := hl
  unfold m_Model_markAll at h
  refine l_Model_markAll_1 dC dI N cB cI o_Model r hx hb hml hown hg hN hK hA (fun w1_F w1_I H locs ls h hP hD hS hl => ?_) N F I _ _ _ h hP hD hS (lv_sub hl [0] rfl)
  obtain rfl := Option.some.inj h
  have hP9 := hP
  have hD9 := hD
  have hK9 := hK
  exact W.vret hx hb hr (fun t ht hW => ⟨⟨(), rfl, trivial, by rw [ht]; exact hP9, va_K.moved hW.alike hK9, hD9⟩, hS.F ht⟩) hS.2.2 d_Model_markAll_72

set_option maxHeartbeats 4000000 in
set_option maxRecDepth 100000 in
theorem l_Model_markGlobals_1 {p : Program} {l : Launch} {e : Env} {s : State} {m : MethodId} {args : Array Value} {below : List Frame} {meth : Method} {c : Code} {Q : State → Prop} {A : Nat → Prop} (dC : Nat → ClassId) (dI : Nat → Nat → Nat) (N : Nat) (cB : ClassId) (cI : ClassId) (o_Model : Nat) (r : Nat → Nat) {ζ : Type} {z : ζ} (hx : p.tables.exec = Jvm.exec) (hb : c.code = b_Model_markGlobals) (hml : c.maxLocals = 2) (hown : s.vm.findClass R_Model = some m.cls) (hg : ∀ w ∈ lw_g, w.before args s = true) (hN : dz_N s) (hK : va_K (dC, dI) classes [(cB, .byte), (cI, .int)] s) (hA : ∀ q : Nat, s.heap.size ≤ q → A q) {k1_42 : Int32 → (Nat → Nat → Int32) → (Nat → Int32) → Option (ζ)} (hk1_42 : ∀ (v1_1 : Int32) (w1_F : (Nat → Nat → Int32)) (w1_I : (Nat → Int32))    (H : Heap) (locs : List Loc) (ls : Array Slot), k1_42 v1_1 w1_F w1_I = some z → va_P (dC, dI) classes (wD cB cI o_Model r w1_I w1_F) H → va_D A (wD cB cI o_Model r w1_I w1_F) → va_S A s.heap H locs → lv_has ls 2 [(1, .int v1_1), (0, .ref o_Model)] → W p l e ({ frames := 5, cells := 0, slots := 0, locals := 108 } : Room) s m args below meth c H locs 0 0 Q (F0 m 42 ls [])) : ∀ (n1 : Nat) (v1_1 : Int32) (w1_F : (Nat → Nat → Int32)) (w1_I : (Nat → Int32))   (H : Heap) (locs : List Loc) (ls : Array Slot), lm_Model_markGlobals_1 N k1_42 n1 v1_1 w1_F w1_I = some z → va_P (dC, dI) classes (wD cB cI o_Model r w1_I w1_F) H → va_D A (wD cB cI o_Model r w1_I w1_F) → va_S A s.heap H locs → lv_has ls 2 [(1, .int v1_1), (0, .ref o_Model)] → W p l e ({ frames := 5, cells := 0, slots := 0, locals := 108 } : Room) s m args below meth c H locs 0 0 Q (F0 m 13 ls []) := by
  intro n1
  induction n1 with
  | zero =>
    intro v1_1 w1_F w1_I H locs ls h hP hD hS hl
    rw [lm_Model_markGlobals_1] at h
    cases h
  | succ n1 ih1 =>
    intro v1_1 w1_F w1_I H locs ls h hP hD hS hl
    rw [lm_Model_markGlobals_1] at h
    refine lv_iload_n hx hb d_Model_markGlobals_13 rfl (lv_at hl 0 rfl) ?_
    refine lv_sipush (v := 2048) hx hb d_Model_markGlobals_14 (by decide) ?_
    refine lv_icmp_ge (tgt := 42) hx hb d_Model_markGlobals_17 (by decide) (fun c3 => ?_) (fun c3 => ?_)
    · rw [if_pos c3] at h
      exact hk1_42 v1_1 w1_F w1_I _ _ _ h hP hD hS (lv_sub hl [0, 1] rfl)
    · rw [if_neg c3] at h
      refine lv_aload_n hx hb d_Model_markGlobals_20 rfl (lv_at hl 1 rfl) ?_
      refine lv_aload_n hx hb d_Model_markGlobals_21 rfl (lv_at hl 1 rfl) ?_
      refine va_get (D := (dC, dI)) (ci := 10) (v := .ref (r 5)) (C := R_Model) (T := F_Model) (N := 54) hx hb hg i_Model hown hK hP 0 rfl rfl 5 (by decide) (hg _ k758) (fun _ h9 => h9) rfl d_Model_markGlobals_22 ?_
      refine lv_iload_n hx hb d_Model_markGlobals_25 rfl (lv_at hl 0 rfl) ?_
      obtain ⟨i4, h⟩ := dz_oi h
      refine va_iald (D := (dC, dI)) (f := w1_F 5) hx hb hK hP 4 1 rfl rfl i4 d_Model_markGlobals_26 ?_
      refine lv_aload_n hx hb d_Model_markGlobals_27 rfl (lv_at hl 1 rfl) ?_
      refine va_get (D := (dC, dI)) (ci := 10) (v := .ref (r 6)) (C := R_Model) (T := F_Model) (N := 54) hx hb hg i_Model hown hK hP 0 rfl rfl 6 (by decide) (hg _ k759) (fun _ h9 => h9) rfl d_Model_markGlobals_28 ?_
      refine lv_iload_n hx hb d_Model_markGlobals_31 rfl (lv_at hl 0 rfl) ?_
      obtain ⟨i5, h⟩ := dz_oi h
      refine va_iald (D := (dC, dI)) (f := w1_F 6) hx hb hK hP 5 1 rfl rfl i5 d_Model_markGlobals_32 ?_
      obtain ⟨⟨z6_1, z6_2⟩, hc6, h⟩ := dz_ob h
      try dsimp only at h
      have hPc := hP
      have hKc := hK
      have hDc := hD
      have hFc := dz_freeall hD hS hA
      refine va_callv (va_runV (As := [.int ((w1_F 5) v1_1.toNatClampNeg), .int ((w1_F 6) v1_1.toNatClampNeg)]) (rest := []) ⟨hx, hb, hml, hown, hg⟩ (c_Model_mark l dC dI N cB cI o_Model r w1_I w1_F ((w1_F 5) v1_1.toNatClampNeg) ((w1_F 6) v1_1.toNatClampNeg) H.size (z6_1, z6_2) hc6) (cwV 2 hg (gd_V k755 k756 k757 k707 k754) rfl rfl rfl (by decide +kernel) ⟨Nat.le_of_ble_eq_true rfl, Nat.le_of_ble_eq_true rfl⟩) ⟨dz_blind, va_recv hKc hPc (ci := 10) (q0 := 0) rfl rfl, fun U hU hW => ⟨rfl, dz_Nw hW hN, by rw [hU], by rw [hU]; exact hPc, va_K.moved hW.alike hKc, hDc.weaken (fun _ _ _ _ => trivial)⟩⟩ rfl rfl hl.1 rfl (lv_room (Nat.le_of_ble_eq_true rfl)) d_Model_markGlobals_33 ⟨Nat.le_of_ble_eq_true rfl, Nat.le_of_ble_eq_true rfl⟩) hS (fun q _ h => hFc q h) hFc (fun u6 t6 H1 locs ht hvm hw hB hz1 hk1 hS => ?_)
      obtain ⟨hP1, hK1, hD1⟩ := hB
      rw [ht] at hP1
      have hP := hP1
      have hD := hD1.weaken (fun _ q _ h => hFc q.1 h)
      generalize H1 = H at hP hS ⊢
      have hP : va_P (dC, dI) classes (wD cB cI o_Model r z6_2 z6_1) H := hP
      have hD : va_D A (wD cB cI o_Model r z6_2 z6_1) := hD
      refine lv_iinc (v := v1_1 + 1) (lv' := [(1, .int (v1_1 + 1)), (0, .ref o_Model)]) hx hb d_Model_markGlobals_36 hl (k := 0) rfl rfl (by decide) rfl (fun ls hl => ?_)
      refine lv_goto (tgt := 13) hx hb d_Model_markGlobals_39 (by decide) ?_
      exact ih1 (v1_1 + 1) z6_1 z6_2 _ _ _ h hP hD hS (lv_sub hl [0, 1] rfl)
set_option maxHeartbeats 4000000 in
set_option maxRecDepth 100000 in
theorem c_Model_markGlobals (l : Launch) (dC : Nat → ClassId) (dI : Nat → Nat → Nat) (N : Nat) (cB : ClassId) (cI : ClassId) (o_Model : Nat) (r : Nat → Nat) (I : Nat → Int32) (F : Nat → Nat → Int32) (sz : Nat) (z : (Nat → Nat → Int32) × (Nat → Int32)) (h : m_Model_markGlobals N I F = some z) : Met l y_Model_markGlobals (.code y_Model_markGlobals b_Model_markGlobals 2 none :: lw_g) ({ frames := 5, cells := 0, slots := 0, locals := 108 }) (va_Pc [.ref o_Model] (fun U => dz_N U ∧ U.heap.size = sz ∧ va_P (dC, dI) classes (wD cB cI o_Model r I F) U.heap ∧ va_K (dC, dI) classes [(cB, .byte), (cI, .int)] U ∧ va_D (fun _ => True) (wD cB cI o_Model r I F))) (va_Qv (fun (_ : Unit) => True) (fun (u : Unit) t => va_P (dC, dI) classes (wD cB cI o_Model r z.2 z.1) t.heap ∧ va_K (dC, dI) classes [(cB, .byte), (cI, .int)] t ∧ va_D (va_A (wD cB cI o_Model r I F) sz) (wD cB cI o_Model r z.2 z.1)) (va_A (wD cB cI o_Model r I F) sz)) 0 0 (va_A (wD cB cI o_Model r I F) sz) := by
  refine Met.ofW (cc := b_Model_markGlobals) (maxL := 2) (ret := none) (by decide +kernel) rfl ?_
  intro p e s m args below meth c s₁ B hml hv
  obtain ⟨rfl, hN, hsz, hP, hK, hD0⟩ := hv
  have hx := B.exec
  have hb := B.bytes
  have hr := B.returns
  have hg : ∀ w ∈ lw_g, w.before _ s = true := fun w hw => atoms_spec (ws := .code y_Model_markGlobals b_Model_markGlobals 2 none :: lw_g) B.pre w (List.mem_cons_of_mem _ hw)
  have hown : s.vm.findClass R_Model = some m.cls := findClass_of_methodNamed B.named
  have hlocks := B.notSynchronized
  clear B
  subst hsz
  have hD := hD0.self (sz := s.heap.size)
  generalize hAe : va_A (wD cB cI o_Model r I F) s.heap.size = A at hD ⊢
  have hA : ∀ q : Nat, s.heap.size ≤ q → A q := fun q h => by rw [← hAe]; exact Or.inr h
  have hS : va_S A s.heap s.heap [] := va_S.rf
  have hP : va_P (dC, dI) classes (wD cB cI o_Model r I F) s.heap := hP
  have hl := lv_entry ([.ref o_Model]) (n := 2) (Nat.le_of_ble_eq_true rfl)
  rw [lg_entry_eq]
  generalize (lg_sl ([.ref o_Model]) ++ List.replicate (2 - (lg_sl ([.ref o_Model])).length) Slot.unset).toArray = ls at hl ⊢
  have hl : lv_has ls 2 [(0, .ref o_Model)] := hl
  unfold m_Model_markGlobals at h
  refine lv_aload_n hx hb d_Model_markGlobals_0 rfl (lv_at hl 0 rfl) ?_
  refine lv_bipush (v := (-2)) hx hb d_Model_markGlobals_1 (by decide) ?_
  refine va_put (D := (dC, dI)) (ci := 10) (v := .int (-2)) (ty := .int) (C := R_Model) (T := F_Model) (N := 54) hx hb hg i_Model t_Model t_Model_ok n_Model hown hK hP hD hS 0 rfl rfl 50 (by decide) (hg _ k748) (fun _ h9 => h9) rfl (by decide +kernel) rfl rfl (Nat.le_of_ble_eq_true rfl) d_Model_markGlobals_3 (fun H locs hP hD hS => ?_)
  obtain ⟨J1, eJ1, h⟩ := dz_lt h
  have hP : va_P (dC, dI) classes (wD cB cI o_Model r J1 F) H := by rw [eJ1]; exact hP
  have hD : va_D A (wD cB cI o_Model r J1 F) := by rw [eJ1]; exact hD
  refine lv_aload_n hx hb d_Model_markGlobals_6 rfl (lv_at hl 0 rfl) ?_
  refine lv_iconst (v := 0) hx hb d_Model_markGlobals_7 (by decide) ?_
  refine va_put (D := (dC, dI)) (ci := 10) (v := .int 0) (ty := .int) (C := R_Model) (T := F_Model) (N := 54) hx hb hg i_Model t_Model t_Model_ok n_Model hown hK hP hD hS 0 rfl rfl 51 (by decide) (hg _ k749) (fun _ h9 => h9) rfl (by decide +kernel) rfl rfl (Nat.le_of_ble_eq_true rfl) d_Model_markGlobals_8 (fun H locs hP hD hS => ?_)
  obtain ⟨J2, eJ2, h⟩ := dz_lt h
  have hP : va_P (dC, dI) classes (wD cB cI o_Model r J2 F) H := by rw [eJ2]; exact hP
  have hD : va_D A (wD cB cI o_Model r J2 F) := by rw [eJ2]; exact hD
  refine lv_iconst (v := 0) hx hb d_Model_markGlobals_11 (by decide) ?_
  refine lv_istore_n (lv' := [(1, .int 0), (0, .ref o_Model)]) hx hb d_Model_markGlobals_12 rfl hl (by decide) rfl (fun ls hl => ?_)
  refine l_Model_markGlobals_1 dC dI N cB cI o_Model r hx hb hml hown hg hN hK hA (fun v1_1 w1_F w1_I H locs ls h hP hD hS hl => ?_) N (0 : Int32) F J2 _ _ _ h hP hD hS (lv_sub hl [0, 1] rfl)
  refine lv_aload_n hx hb d_Model_markGlobals_42 rfl (lv_at hl 1 rfl) ?_
  obtain ⟨⟨z7_1, z7_2⟩, hc7, h⟩ := dz_ob h
  try dsimp only at h
  have hPc := hP
  have hKc := hK
  have hDc := hD
  have hFc := dz_freeall hD hS hA
  refine va_callv (va_runV (As := []) (rest := []) ⟨hx, hb, hml, hown, hg⟩ (c_Model_markAll l dC dI N cB cI o_Model r w1_I w1_F H.size (z7_1, z7_2) hc7) (cwV 0 hg (gd_V k761 k762 k763 k707 k760) rfl rfl rfl (by decide +kernel) ⟨Nat.le_of_ble_eq_true rfl, Nat.le_of_ble_eq_true rfl⟩) ⟨dz_blind, va_recv hKc hPc (ci := 10) (q0 := 0) rfl rfl, fun U hU hW => ⟨rfl, dz_Nw hW hN, by rw [hU], by rw [hU]; exact hPc, va_K.moved hW.alike hKc, hDc.weaken (fun _ _ _ _ => trivial)⟩⟩ rfl rfl hl.1 rfl (lv_room (Nat.le_of_ble_eq_true rfl)) d_Model_markGlobals_43 ⟨Nat.le_of_ble_eq_true rfl, Nat.le_of_ble_eq_true rfl⟩) hS (fun q _ h => hFc q h) hFc (fun u7 t7 H1 locs ht hvm hw hB hz1 hk1 hS => ?_)
  obtain ⟨hP1, hK1, hD1⟩ := hB
  rw [ht] at hP1
  have hP := hP1
  have hD := hD1.weaken (fun _ q _ h => hFc q.1 h)
  generalize H1 = H at hP hS ⊢
  have hP : va_P (dC, dI) classes (wD cB cI o_Model r z7_2 z7_1) H := hP
  have hD : va_D A (wD cB cI o_Model r z7_2 z7_1) := hD
  obtain rfl := Option.some.inj h
  have hP9 := hP
  have hD9 := hD
  have hK9 := hK
  exact W.vret hx hb hr (fun t ht hW => ⟨⟨(), rfl, trivial, by rw [ht]; exact hP9, va_K.moved hW.alike hK9, hD9⟩, hS.F ht⟩) hS.2.2 d_Model_markGlobals_46

set_option maxHeartbeats 4000000 in
set_option maxRecDepth 100000 in
theorem l_Model_markRun_1 {p : Program} {l : Launch} {e : Env} {s : State} {m : MethodId} {args : Array Value} {below : List Frame} {meth : Method} {c : Code} {Q : State → Prop} {A : Nat → Prop} (dC : Nat → ClassId) (dI : Nat → Nat → Nat) (N : Nat) (cB : ClassId) (cI : ClassId) (o_Model : Nat) (r : Nat → Nat) {ζ : Type} {z : ζ} (hx : p.tables.exec = Jvm.exec) (hb : c.code = b_Model_markRun) (hml : c.maxLocals = 2) (hown : s.vm.findClass R_Model = some m.cls) (hg : ∀ w ∈ lw_g, w.before args s = true) (hN : dz_N s) (hK : va_K (dC, dI) classes [(cB, .byte), (cI, .int)] s) (hA : ∀ q : Nat, s.heap.size ≤ q → A q) {k1_39 : Int32 → (Nat → Nat → Int32) → (Nat → Int32) → Option (ζ)} (hk1_39 : ∀ (v1_1 : Int32) (w1_F : (Nat → Nat → Int32)) (w1_I : (Nat → Int32))    (H : Heap) (locs : List Loc) (ls : Array Slot), k1_39 v1_1 w1_F w1_I = some z → va_P (dC, dI) classes (wD cB cI o_Model r w1_I w1_F) H → va_D A (wD cB cI o_Model r w1_I w1_F) → va_S A s.heap H locs → lv_has ls 2 [(1, .int v1_1), (0, .ref o_Model)] → W p l e ({ frames := 5, cells := 0, slots := 0, locals := 108 } : Room) s m args below meth c H locs 0 0 Q (F0 m 39 ls [])) : ∀ (n1 : Nat) (v1_1 : Int32) (w1_F : (Nat → Nat → Int32)) (w1_I : (Nat → Int32))   (H : Heap) (locs : List Loc) (ls : Array Slot), lm_Model_markRun_1 N k1_39 n1 v1_1 w1_F w1_I = some z → va_P (dC, dI) classes (wD cB cI o_Model r w1_I w1_F) H → va_D A (wD cB cI o_Model r w1_I w1_F) → va_S A s.heap H locs → lv_has ls 2 [(1, .int v1_1), (0, .ref o_Model)] → W p l e ({ frames := 5, cells := 0, slots := 0, locals := 108 } : Room) s m args below meth c H locs 0 0 Q (F0 m 2 ls []) := by
  intro n1
  induction n1 with
  | zero =>
    intro v1_1 w1_F w1_I H locs ls h hP hD hS hl
    rw [lm_Model_markRun_1] at h
    cases h
  | succ n1 ih1 =>
    intro v1_1 w1_F w1_I H locs ls h hP hD hS hl
    rw [lm_Model_markRun_1] at h
    refine lv_iload_n hx hb d_Model_markRun_2 rfl (lv_at hl 0 rfl) ?_
    refine lv_aload_n hx hb d_Model_markRun_3 rfl (lv_at hl 1 rfl) ?_
    refine va_get (D := (dC, dI)) (ci := 10) (v := .int (w1_I 29)) (C := R_Model) (T := F_Model) (N := 54) hx hb hg i_Model hown hK hP 0 rfl rfl 29 (by decide) (hg _ k719) (fun _ h9 => h9) rfl d_Model_markRun_4 ?_
    refine lv_icmp_ge (tgt := 39) hx hb d_Model_markRun_7 (by decide) (fun c1 => ?_) (fun c1 => ?_)
    · rw [if_pos c1] at h
      exact hk1_39 v1_1 w1_F w1_I _ _ _ h hP hD hS (lv_sub hl [0, 1] rfl)
    · rw [if_neg c1] at h
      refine lv_aload_n hx hb d_Model_markRun_10 rfl (lv_at hl 1 rfl) ?_
      obtain ⟨z2_1, hc2, h⟩ := dz_ob h
      try dsimp only at h
      have hPc := hP
      have hKc := hK
      refine vp_callSi (va_Run.run (va_runV (As := []) (rest := []) ⟨hx, hb, hml, hown, hg⟩ (c_Model_isOn l dC dI N cB cI o_Model r w1_I w1_F z2_1 hc2) (cwV 0 hg (gd_V k704 k705 k706 k707 k703) rfl rfl rfl (by decide +kernel) ⟨Nat.le_of_ble_eq_true rfl, Nat.le_of_ble_eq_true rfl⟩) ⟨dz_blindR, va_recv hKc hPc (ci := 10) (q0 := 0) rfl rfl, fun U hU hW => ⟨rfl, dz_Nw hW hN, by rw [hU]; exact hPc, va_K.moved hW.alike hKc⟩⟩ rfl rfl hl.1 rfl (lv_room (Nat.le_of_ble_eq_true rfl)) d_Model_markRun_11 ⟨Nat.le_of_ble_eq_true rfl, Nat.le_of_ble_eq_true rfl⟩)) (fun r2 hw => ?_)
      obtain ⟨hw, hbz2⟩ := hw
      have hw : z2_1 = r2 := hw.symm
      subst hw
      refine lv_if_eq (tgt := 39) hx hb d_Model_markRun_14 (by decide) (fun c3 => ?_) (fun c3 => ?_)
      · rw [if_pos c3] at h
        exact hk1_39 v1_1 w1_F w1_I _ _ _ h hP hD hS (lv_sub hl [0, 1] rfl)
      · rw [if_neg c3] at h
        refine lv_aload_n hx hb d_Model_markRun_17 rfl (lv_at hl 1 rfl) ?_
        refine lv_aload_n hx hb d_Model_markRun_18 rfl (lv_at hl 1 rfl) ?_
        refine va_get (D := (dC, dI)) (ci := 10) (v := .ref (r 27)) (C := R_Model) (T := F_Model) (N := 54) hx hb hg i_Model hown hK hP 0 rfl rfl 27 (by decide) (hg _ k731) (fun _ h9 => h9) rfl d_Model_markRun_19 ?_
        refine lv_iload_n hx hb d_Model_markRun_22 rfl (lv_at hl 0 rfl) ?_
        obtain ⟨i4, h⟩ := dz_oi h
        refine va_iald (D := (dC, dI)) (f := w1_F 27) hx hb hK hP 17 1 rfl rfl i4 d_Model_markRun_23 ?_
        refine lv_aload_n hx hb d_Model_markRun_24 rfl (lv_at hl 1 rfl) ?_
        refine va_get (D := (dC, dI)) (ci := 10) (v := .ref (r 28)) (C := R_Model) (T := F_Model) (N := 54) hx hb hg i_Model hown hK hP 0 rfl rfl 28 (by decide) (hg _ k732) (fun _ h9 => h9) rfl d_Model_markRun_25 ?_
        refine lv_iload_n hx hb d_Model_markRun_28 rfl (lv_at hl 0 rfl) ?_
        obtain ⟨i5, h⟩ := dz_oi h
        refine va_iald (D := (dC, dI)) (f := w1_F 28) hx hb hK hP 18 1 rfl rfl i5 d_Model_markRun_29 ?_
        obtain ⟨⟨z6_1, z6_2⟩, hc6, h⟩ := dz_ob h
        try dsimp only at h
        have hPc := hP
        have hKc := hK
        have hDc := hD
        have hFc := dz_freeall hD hS hA
        refine va_callv (va_runV (As := [.int ((w1_F 27) v1_1.toNatClampNeg), .int ((w1_F 28) v1_1.toNatClampNeg)]) (rest := []) ⟨hx, hb, hml, hown, hg⟩ (c_Model_mark l dC dI N cB cI o_Model r w1_I w1_F ((w1_F 27) v1_1.toNatClampNeg) ((w1_F 28) v1_1.toNatClampNeg) H.size (z6_1, z6_2) hc6) (cwV 2 hg (gd_V k755 k756 k757 k707 k754) rfl rfl rfl (by decide +kernel) ⟨Nat.le_of_ble_eq_true rfl, Nat.le_of_ble_eq_true rfl⟩) ⟨dz_blind, va_recv hKc hPc (ci := 10) (q0 := 0) rfl rfl, fun U hU hW => ⟨rfl, dz_Nw hW hN, by rw [hU], by rw [hU]; exact hPc, va_K.moved hW.alike hKc, hDc.weaken (fun _ _ _ _ => trivial)⟩⟩ rfl rfl hl.1 rfl (lv_room (Nat.le_of_ble_eq_true rfl)) d_Model_markRun_30 ⟨Nat.le_of_ble_eq_true rfl, Nat.le_of_ble_eq_true rfl⟩) hS (fun q _ h => hFc q h) hFc (fun u6 t6 H1 locs ht hvm hw hB hz1 hk1 hS => ?_)
        obtain ⟨hP1, hK1, hD1⟩ := hB
        rw [ht] at hP1
        have hP := hP1
        have hD := hD1.weaken (fun _ q _ h => hFc q.1 h)
        generalize H1 = H at hP hS ⊢
        have hP : va_P (dC, dI) classes (wD cB cI o_Model r z6_2 z6_1) H := hP
        have hD : va_D A (wD cB cI o_Model r z6_2 z6_1) := hD
        refine lv_iinc (v := v1_1 + 1) (lv' := [(1, .int (v1_1 + 1)), (0, .ref o_Model)]) hx hb d_Model_markRun_33 hl (k := 0) rfl rfl (by decide) rfl (fun ls hl => ?_)
        refine lv_goto (tgt := 2) hx hb d_Model_markRun_36 (by decide) ?_
        exact ih1 (v1_1 + 1) z6_1 z6_2 _ _ _ h hP hD hS (lv_sub hl [0, 1] rfl)
set_option maxHeartbeats 4000000 in
set_option maxRecDepth 100000 in
theorem l_Model_markRun_3 {p : Program} {l : Launch} {e : Env} {s : State} {m : MethodId} {args : Array Value} {below : List Frame} {meth : Method} {c : Code} {Q : State → Prop} {A : Nat → Prop} (dC : Nat → ClassId) (dI : Nat → Nat → Nat) (N : Nat) (cB : ClassId) (cI : ClassId) (o_Model : Nat) (r : Nat → Nat) (v2_1 : Int32) (w2_F : Nat → Nat → Int32) (w2_I : Nat → Int32) {ζ : Type} {z : ζ} (hx : p.tables.exec = Jvm.exec) (hb : c.code = b_Model_markRun) (hml : c.maxLocals = 2) (hown : s.vm.findClass R_Model = some m.cls) (hg : ∀ w ∈ lw_g, w.before args s = true) (hN : dz_N s) (hK : va_K (dC, dI) classes [(cB, .byte), (cI, .int)] s) (hA : ∀ q : Nat, s.heap.size ≤ q → A q) {k3_71 : Int32 → Option (ζ)} (hk3_71 : ∀   (y3_0 : Int32)  (H : Heap) (locs : List Loc) (ls : Array Slot), k3_71 y3_0 = some z → va_P (dC, dI) classes (wD cB cI o_Model r w2_I w2_F) H → va_D A (wD cB cI o_Model r w2_I w2_F) → va_S A s.heap H locs → lv_has ls 2 [(1, .int v2_1), (0, .ref o_Model)] → W p l e ({ frames := 5, cells := 0, slots := 0, locals := 108 } : Room) s m args below meth c H locs 0 0 Q (F0 m 71 ls [.int y3_0, .ref o_Model])) : ∀    (H : Heap) (locs : List Loc) (ls : Array Slot), lm_Model_markRun_3 N v2_1 w2_F k3_71  = some z → va_P (dC, dI) classes (wD cB cI o_Model r w2_I w2_F) H → va_D A (wD cB cI o_Model r w2_I w2_F) → va_S A s.heap H locs → lv_has ls 2 [(1, .int v2_1), (0, .ref o_Model)] → W p l e ({ frames := 5, cells := 0, slots := 0, locals := 108 } : Room) s m args below meth c H locs 0 0 Q (F0 m 57 ls [.ref o_Model]) := by
  intro H locs ls h hP hD hS hl
  unfold lm_Model_markRun_3 at h
  refine lv_aload_n hx hb d_Model_markRun_57 rfl (lv_at hl 1 rfl) ?_
  refine va_get (D := (dC, dI)) (ci := 10) (v := .ref (r 23)) (C := R_Model) (T := F_Model) (N := 54) hx hb hg i_Model hown hK hP 0 rfl rfl 23 (by decide) (hg _ k716) (fun _ h9 => h9) rfl d_Model_markRun_58 ?_
  refine lv_iload_n hx hb d_Model_markRun_61 rfl (lv_at hl 0 rfl) ?_
  obtain ⟨i10, h⟩ := dz_oi h
  refine va_iald (D := (dC, dI)) (f := w2_F 23) hx hb hK hP 13 1 rfl rfl i10 d_Model_markRun_62 ?_
  refine lv_if_ge (tgt := 70) hx hb d_Model_markRun_63 (by decide) (fun c11 => ?_) (fun c11 => ?_)
  · rw [if_pos c11] at h
    refine lv_iconst (v := 2) hx hb d_Model_markRun_70 (by decide) ?_
    exact hk3_71 (2 : Int32) _ _ _ h hP hD hS (lv_sub hl [0, 1] rfl)
  · rw [if_neg c11] at h
    refine lv_iconst (v := 0) hx hb d_Model_markRun_66 (by decide) ?_
    refine lv_goto (tgt := 71) hx hb d_Model_markRun_67 (by decide) ?_
    exact hk3_71 (0 : Int32) _ _ _ h hP hD hS (lv_sub hl [0, 1] rfl)
set_option maxHeartbeats 4000000 in
set_option maxRecDepth 100000 in
theorem l_Model_markRun_2 {p : Program} {l : Launch} {e : Env} {s : State} {m : MethodId} {args : Array Value} {below : List Frame} {meth : Method} {c : Code} {Q : State → Prop} {A : Nat → Prop} (dC : Nat → ClassId) (dI : Nat → Nat → Nat) (N : Nat) (cB : ClassId) (cI : ClassId) (o_Model : Nat) (r : Nat → Nat) {ζ : Type} {z : ζ} (hx : p.tables.exec = Jvm.exec) (hb : c.code = b_Model_markRun) (hml : c.maxLocals = 2) (hown : s.vm.findClass R_Model = some m.cls) (hg : ∀ w ∈ lw_g, w.before args s = true) (hN : dz_N s) (hK : va_K (dC, dI) classes [(cB, .byte), (cI, .int)] s) (hA : ∀ q : Nat, s.heap.size ≤ q → A q) {k2_86 : Int32 → (Nat → Nat → Int32) → (Nat → Int32) → Option (ζ)} (hk2_86 : ∀ (v2_1 : Int32) (w2_F : (Nat → Nat → Int32)) (w2_I : (Nat → Int32))    (H : Heap) (locs : List Loc) (ls : Array Slot), k2_86 v2_1 w2_F w2_I = some z → va_P (dC, dI) classes (wD cB cI o_Model r w2_I w2_F) H → va_D A (wD cB cI o_Model r w2_I w2_F) → va_S A s.heap H locs → lv_has ls 2 [(1, .int v2_1), (0, .ref o_Model)] → W p l e ({ frames := 5, cells := 0, slots := 0, locals := 108 } : Room) s m args below meth c H locs 0 0 Q (F0 m 86 ls [])) : ∀ (n2 : Nat) (v2_1 : Int32) (w2_F : (Nat → Nat → Int32)) (w2_I : (Nat → Int32))   (H : Heap) (locs : List Loc) (ls : Array Slot), lm_Model_markRun_2 N k2_86 n2 v2_1 w2_F w2_I = some z → va_P (dC, dI) classes (wD cB cI o_Model r w2_I w2_F) H → va_D A (wD cB cI o_Model r w2_I w2_F) → va_S A s.heap H locs → lv_has ls 2 [(1, .int v2_1), (0, .ref o_Model)] → W p l e ({ frames := 5, cells := 0, slots := 0, locals := 108 } : Room) s m args below meth c H locs 0 0 Q (F0 m 41 ls []) := by
  intro n2
  induction n2 with
  | zero =>
    intro v2_1 w2_F w2_I H locs ls h hP hD hS hl
    rw [lm_Model_markRun_2] at h
    cases h
  | succ n2 ih2 =>
    intro v2_1 w2_F w2_I H locs ls h hP hD hS hl
    rw [lm_Model_markRun_2] at h
    refine lv_iload_n hx hb d_Model_markRun_41 rfl (lv_at hl 0 rfl) ?_
    refine lv_aload_n hx hb d_Model_markRun_42 rfl (lv_at hl 1 rfl) ?_
    refine va_get (D := (dC, dI)) (ci := 10) (v := .int (w2_I 22)) (C := R_Model) (T := F_Model) (N := 54) hx hb hg i_Model hown hK hP 0 rfl rfl 22 (by decide) (hg _ k715) (fun _ h9 => h9) rfl d_Model_markRun_43 ?_
    refine lv_icmp_ge (tgt := 86) hx hb d_Model_markRun_46 (by decide) (fun c7 => ?_) (fun c7 => ?_)
    · rw [if_pos c7] at h
      exact hk2_86 v2_1 w2_F w2_I _ _ _ h hP hD hS (lv_sub hl [0, 1] rfl)
    · rw [if_neg c7] at h
      refine lv_aload_n hx hb d_Model_markRun_49 rfl (lv_at hl 1 rfl) ?_
      obtain ⟨z8_1, hc8, h⟩ := dz_ob h
      try dsimp only at h
      have hPc := hP
      have hKc := hK
      refine vp_callSi (va_Run.run (va_runV (As := []) (rest := []) ⟨hx, hb, hml, hown, hg⟩ (c_Model_isOn l dC dI N cB cI o_Model r w2_I w2_F z8_1 hc8) (cwV 0 hg (gd_V k704 k705 k706 k707 k703) rfl rfl rfl (by decide +kernel) ⟨Nat.le_of_ble_eq_true rfl, Nat.le_of_ble_eq_true rfl⟩) ⟨dz_blindR, va_recv hKc hPc (ci := 10) (q0 := 0) rfl rfl, fun U hU hW => ⟨rfl, dz_Nw hW hN, by rw [hU]; exact hPc, va_K.moved hW.alike hKc⟩⟩ rfl rfl hl.1 rfl (lv_room (Nat.le_of_ble_eq_true rfl)) d_Model_markRun_50 ⟨Nat.le_of_ble_eq_true rfl, Nat.le_of_ble_eq_true rfl⟩)) (fun r8 hw => ?_)
      obtain ⟨hw, hbz8⟩ := hw
      have hw : z8_1 = r8 := hw.symm
      subst hw
      refine lv_if_eq (tgt := 86) hx hb d_Model_markRun_53 (by decide) (fun c9 => ?_) (fun c9 => ?_)
      · rw [if_pos c9] at h
        exact hk2_86 v2_1 w2_F w2_I _ _ _ h hP hD hS (lv_sub hl [0, 1] rfl)
      · rw [if_neg c9] at h
        refine lv_aload_n hx hb d_Model_markRun_56 rfl (lv_at hl 1 rfl) ?_
        refine l_Model_markRun_3 dC dI N cB cI o_Model r v2_1 w2_F w2_I hx hb hml hown hg hN hK hA (fun y3_0 H locs ls h hP hD hS hl => ?_)  _ _ _ h hP hD hS (lv_sub hl [0, 1] rfl)
        refine lv_aload_n hx hb d_Model_markRun_71 rfl (lv_at hl 1 rfl) ?_
        refine va_get (D := (dC, dI)) (ci := 10) (v := .ref (r 23)) (C := R_Model) (T := F_Model) (N := 54) hx hb hg i_Model hown hK hP 0 rfl rfl 23 (by decide) (hg _ k716) (fun _ h9 => h9) rfl d_Model_markRun_72 ?_
        refine lv_iload_n hx hb d_Model_markRun_75 rfl (lv_at hl 0 rfl) ?_
        obtain ⟨i12, h⟩ := dz_oi h
        refine va_iald (D := (dC, dI)) (f := w2_F 23) hx hb hK hP 13 1 rfl rfl i12 d_Model_markRun_76 ?_
        obtain ⟨⟨z13_1, z13_2⟩, hc13, h⟩ := dz_ob h
        try dsimp only at h
        have hPc := hP
        have hKc := hK
        have hDc := hD
        have hFc := dz_freeall hD hS hA
        refine va_callv (va_runV (As := [.int y3_0, .int ((w2_F 23) v2_1.toNatClampNeg)]) (rest := []) ⟨hx, hb, hml, hown, hg⟩ (c_Model_mark l dC dI N cB cI o_Model r w2_I w2_F y3_0 ((w2_F 23) v2_1.toNatClampNeg) H.size (z13_1, z13_2) hc13) (cwV 2 hg (gd_V k755 k756 k757 k707 k754) rfl rfl rfl (by decide +kernel) ⟨Nat.le_of_ble_eq_true rfl, Nat.le_of_ble_eq_true rfl⟩) ⟨dz_blind, va_recv hKc hPc (ci := 10) (q0 := 0) rfl rfl, fun U hU hW => ⟨rfl, dz_Nw hW hN, by rw [hU], by rw [hU]; exact hPc, va_K.moved hW.alike hKc, hDc.weaken (fun _ _ _ _ => trivial)⟩⟩ rfl rfl hl.1 rfl (lv_room (Nat.le_of_ble_eq_true rfl)) d_Model_markRun_77 ⟨Nat.le_of_ble_eq_true rfl, Nat.le_of_ble_eq_true rfl⟩) hS (fun q _ h => hFc q h) hFc (fun u13 t13 H1 locs ht hvm hw hB hz1 hk1 hS => ?_)
        obtain ⟨hP1, hK1, hD1⟩ := hB
        rw [ht] at hP1
        have hP := hP1
        have hD := hD1.weaken (fun _ q _ h => hFc q.1 h)
        generalize H1 = H at hP hS ⊢
        have hP : va_P (dC, dI) classes (wD cB cI o_Model r z13_2 z13_1) H := hP
        have hD : va_D A (wD cB cI o_Model r z13_2 z13_1) := hD
        refine lv_iinc (v := v2_1 + 1) (lv' := [(1, .int (v2_1 + 1)), (0, .ref o_Model)]) hx hb d_Model_markRun_80 hl (k := 0) rfl rfl (by decide) rfl (fun ls hl => ?_)
        refine lv_goto (tgt := 41) hx hb d_Model_markRun_83 (by decide) ?_
        exact ih2 (v2_1 + 1) z13_1 z13_2 _ _ _ h hP hD hS (lv_sub hl [0, 1] rfl)
set_option maxHeartbeats 4000000 in
set_option maxRecDepth 100000 in
theorem c_Model_markRun (l : Launch) (dC : Nat → ClassId) (dI : Nat → Nat → Nat) (N : Nat) (cB : ClassId) (cI : ClassId) (o_Model : Nat) (r : Nat → Nat) (I : Nat → Int32) (F : Nat → Nat → Int32) (sz : Nat) (z : (Nat → Nat → Int32) × (Nat → Int32)) (h : m_Model_markRun N I F = some z) : Met l y_Model_markRun (.code y_Model_markRun b_Model_markRun 2 none :: lw_g) ({ frames := 5, cells := 0, slots := 0, locals := 108 }) (va_Pc [.ref o_Model] (fun U => dz_N U ∧ U.heap.size = sz ∧ va_P (dC, dI) classes (wD cB cI o_Model r I F) U.heap ∧ va_K (dC, dI) classes [(cB, .byte), (cI, .int)] U ∧ va_D (fun _ => True) (wD cB cI o_Model r I F))) (va_Qv (fun (_ : Unit) => True) (fun (u : Unit) t => va_P (dC, dI) classes (wD cB cI o_Model r z.2 z.1) t.heap ∧ va_K (dC, dI) classes [(cB, .byte), (cI, .int)] t ∧ va_D (va_A (wD cB cI o_Model r I F) sz) (wD cB cI o_Model r z.2 z.1)) (va_A (wD cB cI o_Model r I F) sz)) 0 0 (va_A (wD cB cI o_Model r I F) sz) := by
  refine Met.ofW (cc := b_Model_markRun) (maxL := 2) (ret := none) (by decide +kernel) rfl ?_
  intro p e s m args below meth c s₁ B hml hv
  obtain ⟨rfl, hN, hsz, hP, hK, hD0⟩ := hv
  have hx := B.exec
  have hb := B.bytes
  have hr := B.returns
  have hg : ∀ w ∈ lw_g, w.before _ s = true := fun w hw => atoms_spec (ws := .code y_Model_markRun b_Model_markRun 2 none :: lw_g) B.pre w (List.mem_cons_of_mem _ hw)
  have hown : s.vm.findClass R_Model = some m.cls := findClass_of_methodNamed B.named
  have hlocks := B.notSynchronized
  clear B
  subst hsz
  have hD := hD0.self (sz := s.heap.size)
  generalize hAe : va_A (wD cB cI o_Model r I F) s.heap.size = A at hD ⊢
  have hA : ∀ q : Nat, s.heap.size ≤ q → A q := fun q h => by rw [← hAe]; exact Or.inr h
  have hS : va_S A s.heap s.heap [] := va_S.rf
  have hP : va_P (dC, dI) classes (wD cB cI o_Model r I F) s.heap := hP
  have hl := lv_entry ([.ref o_Model]) (n := 2) (Nat.le_of_ble_eq_true rfl)
  rw [lg_entry_eq]
  generalize (lg_sl ([.ref o_Model]) ++ List.replicate (2 - (lg_sl ([.ref o_Model])).length) Slot.unset).toArray = ls at hl ⊢
  have hl : lv_has ls 2 [(0, .ref o_Model)] := hl
  unfold m_Model_markRun at h
  refine lv_iconst (v := 0) hx hb d_Model_markRun_0 (by decide) ?_
  refine lv_istore_n (lv' := [(1, .int 0), (0, .ref o_Model)]) hx hb d_Model_markRun_1 rfl hl (by decide) rfl (fun ls hl => ?_)
  refine l_Model_markRun_1 dC dI N cB cI o_Model r hx hb hml hown hg hN hK hA (fun v1_1 w1_F w1_I H locs ls h hP hD hS hl => ?_) N (0 : Int32) F I _ _ _ h hP hD hS (lv_sub hl [0, 1] rfl)
  refine lv_iconst (v := 0) hx hb d_Model_markRun_39 (by decide) ?_
  refine lv_istore_n (lv' := [(1, .int 0), (0, .ref o_Model)]) hx hb d_Model_markRun_40 rfl hl (by decide) rfl (fun ls hl => ?_)
  refine l_Model_markRun_2 dC dI N cB cI o_Model r hx hb hml hown hg hN hK hA (fun v2_1 w2_F w2_I H locs ls h hP hD hS hl => ?_) N (0 : Int32) w1_F w1_I _ _ _ h hP hD hS (lv_sub hl [0, 1] rfl)
  refine lv_aload_n hx hb d_Model_markRun_86 rfl (lv_at hl 1 rfl) ?_
  refine lv_aload_n hx hb d_Model_markRun_87 rfl (lv_at hl 1 rfl) ?_
  refine va_get (D := (dC, dI)) (ci := 10) (v := .int (w2_I 7)) (C := R_Model) (T := F_Model) (N := 54) hx hb hg i_Model hown hK hP 0 rfl rfl 7 (by decide) (hg _ k728) (fun _ h9 => h9) rfl d_Model_markRun_88 ?_
  refine lv_aload_n hx hb d_Model_markRun_91 rfl (lv_at hl 1 rfl) ?_
  refine va_get (D := (dC, dI)) (ci := 10) (v := .int (w2_I 8)) (C := R_Model) (T := F_Model) (N := 54) hx hb hg i_Model hown hK hP 0 rfl rfl 8 (by decide) (hg _ k729) (fun _ h9 => h9) rfl d_Model_markRun_92 ?_
  obtain ⟨⟨z14_1, z14_2⟩, hc14, h⟩ := dz_ob h
  try dsimp only at h
  have hPc := hP
  have hKc := hK
  have hDc := hD
  have hFc := dz_freeall hD hS hA
  refine va_callv (va_runV (As := [.int (w2_I 7), .int (w2_I 8)]) (rest := []) ⟨hx, hb, hml, hown, hg⟩ (c_Model_mark l dC dI N cB cI o_Model r w2_I w2_F (w2_I 7) (w2_I 8) H.size (z14_1, z14_2) hc14) (cwV 2 hg (gd_V k755 k756 k757 k707 k754) rfl rfl rfl (by decide +kernel) ⟨Nat.le_of_ble_eq_true rfl, Nat.le_of_ble_eq_true rfl⟩) ⟨dz_blind, va_recv hKc hPc (ci := 10) (q0 := 0) rfl rfl, fun U hU hW => ⟨rfl, dz_Nw hW hN, by rw [hU], by rw [hU]; exact hPc, va_K.moved hW.alike hKc, hDc.weaken (fun _ _ _ _ => trivial)⟩⟩ rfl rfl hl.1 rfl (lv_room (Nat.le_of_ble_eq_true rfl)) d_Model_markRun_95 ⟨Nat.le_of_ble_eq_true rfl, Nat.le_of_ble_eq_true rfl⟩) hS (fun q _ h => hFc q h) hFc (fun u14 t14 H1 locs ht hvm hw hB hz1 hk1 hS => ?_)
  obtain ⟨hP1, hK1, hD1⟩ := hB
  rw [ht] at hP1
  have hP := hP1
  have hD := hD1.weaken (fun _ q _ h => hFc q.1 h)
  generalize H1 = H at hP hS ⊢
  have hP : va_P (dC, dI) classes (wD cB cI o_Model r z14_2 z14_1) H := hP
  have hD : va_D A (wD cB cI o_Model r z14_2 z14_1) := hD
  refine lv_aload_n hx hb d_Model_markRun_98 rfl (lv_at hl 1 rfl) ?_
  obtain ⟨⟨z15_1, z15_2⟩, hc15, h⟩ := dz_ob h
  try dsimp only at h
  have hPc := hP
  have hKc := hK
  have hDc := hD
  have hFc := dz_freeall hD hS hA
  refine va_callv (va_runV (As := []) (rest := []) ⟨hx, hb, hml, hown, hg⟩ (c_Model_markAll l dC dI N cB cI o_Model r z14_2 z14_1 H.size (z15_1, z15_2) hc15) (cwV 0 hg (gd_V k761 k762 k763 k707 k760) rfl rfl rfl (by decide +kernel) ⟨Nat.le_of_ble_eq_true rfl, Nat.le_of_ble_eq_true rfl⟩) ⟨dz_blind, va_recv hKc hPc (ci := 10) (q0 := 0) rfl rfl, fun U hU hW => ⟨rfl, dz_Nw hW hN, by rw [hU], by rw [hU]; exact hPc, va_K.moved hW.alike hKc, hDc.weaken (fun _ _ _ _ => trivial)⟩⟩ rfl rfl hl.1 rfl (lv_room (Nat.le_of_ble_eq_true rfl)) d_Model_markRun_99 ⟨Nat.le_of_ble_eq_true rfl, Nat.le_of_ble_eq_true rfl⟩) hS (fun q _ h => hFc q h) hFc (fun u15 t15 H1 locs ht hvm hw hB hz1 hk1 hS => ?_)
  obtain ⟨hP1, hK1, hD1⟩ := hB
  rw [ht] at hP1
  have hP := hP1
  have hD := hD1.weaken (fun _ q _ h => hFc q.1 h)
  generalize H1 = H at hP hS ⊢
  have hP : va_P (dC, dI) classes (wD cB cI o_Model r z15_2 z15_1) H := hP
  have hD : va_D A (wD cB cI o_Model r z15_2 z15_1) := hD
  obtain rfl := Option.some.inj h
  have hP9 := hP
  have hD9 := hD
  have hK9 := hK
  exact W.vret hx hb hr (fun t ht hW => ⟨⟨(), rfl, trivial, by rw [ht]; exact hP9, va_K.moved hW.alike hK9, hD9⟩, hS.F ht⟩) hS.2.2 d_Model_markRun_102

set_option maxHeartbeats 4000000 in
set_option maxRecDepth 100000 in
theorem l_Model_settle_2 {p : Program} {l : Launch} {e : Env} {s : State} {m : MethodId} {args : Array Value} {below : List Frame} {meth : Method} {c : Code} {Q : State → Prop} {A : Nat → Prop} (dC : Nat → ClassId) (dI : Nat → Nat → Nat) (N : Nat) (cB : ClassId) (cI : ClassId) (o_Model : Nat) (r : Nat → Nat) (I : Nat → Int32) (v1_2 : Int32) {ζ : Type} {z : ζ} (hx : p.tables.exec = Jvm.exec) (hb : c.code = b_Model_settle) (hml : c.maxLocals = 3) (hown : s.vm.findClass R_Model = some m.cls) (hg : ∀ w ∈ lw_g, w.before args s = true) (hN : dz_N s) (hK : va_K (dC, dI) classes [(cB, .byte), (cI, .int)] s) (hA : ∀ q : Nat, s.heap.size ≤ q → A q) {k2_37 : Int32 → (Nat → Nat → Int32) → Option (ζ)} (hk2_37 : ∀ (v2_1 : Int32) (w2_F : (Nat → Nat → Int32))    (H : Heap) (locs : List Loc) (ls : Array Slot), k2_37 v2_1 w2_F = some z → va_P (dC, dI) classes (wD cB cI o_Model r I w2_F) H → va_D A (wD cB cI o_Model r I w2_F) → va_S A s.heap H locs → lv_has ls 3 [(2, .int v1_2), (1, .int v2_1), (0, .ref o_Model)] → W p l e ({ frames := 3, cells := 0, slots := 0, locals := 64 } : Room) s m args below meth c H locs 0 0 Q (F0 m 37 ls [])) : ∀ (v2_1 : Int32) (w2_F : (Nat → Nat → Int32))   (H : Heap) (locs : List Loc) (ls : Array Slot), lm_Model_settle_2 N I v1_2 k2_37 v2_1 w2_F = some z → va_P (dC, dI) classes (wD cB cI o_Model r I w2_F) H → va_D A (wD cB cI o_Model r I w2_F) → va_S A s.heap H locs → lv_has ls 3 [(2, .int v1_2), (1, .int v2_1), (0, .ref o_Model)] → W p l e ({ frames := 3, cells := 0, slots := 0, locals := 64 } : Room) s m args below meth c H locs 0 0 Q (F0 m 12 ls []) := by
  intro v2_1 w2_F H locs ls h hP hD hS hl
  unfold lm_Model_settle_2 at h
  refine lv_aload_n hx hb d_Model_settle_12 rfl (lv_at hl 2 rfl) ?_
  refine va_get (D := (dC, dI)) (ci := 10) (v := .ref (r 2)) (C := R_Model) (T := F_Model) (N := 54) hx hb hg i_Model hown hK hP 0 rfl rfl 2 (by decide) (hg _ k747) (fun _ h9 => h9) rfl d_Model_settle_13 ?_
  refine lv_iload_n hx hb d_Model_settle_16 rfl (lv_at hl 0 rfl) ?_
  obtain ⟨i2, h⟩ := dz_oi h
  refine va_iald (D := (dC, dI)) (f := w2_F 2) hx hb hK hP 3 1 rfl rfl i2 d_Model_settle_17 ?_
  refine lv_iconst (v := (-1)) hx hb d_Model_settle_18 (by decide) ?_
  refine lv_icmp_eq (tgt := 37) hx hb d_Model_settle_19 (by decide) (fun c3 => ?_) (fun c3 => ?_)
  · rw [if_pos c3] at h
    exact hk2_37 v2_1 w2_F _ _ _ h hP hD hS (lv_sub hl [0, 1, 2] rfl)
  · rw [if_neg c3] at h
    refine lv_aload_n hx hb d_Model_settle_22 rfl (lv_at hl 2 rfl) ?_
    refine va_get (D := (dC, dI)) (ci := 10) (v := .ref (r 2)) (C := R_Model) (T := F_Model) (N := 54) hx hb hg i_Model hown hK hP 0 rfl rfl 2 (by decide) (hg _ k747) (fun _ h9 => h9) rfl d_Model_settle_23 ?_
    refine lv_iload_n hx hb d_Model_settle_26 rfl (lv_at hl 0 rfl) ?_
    refine lv_iload_n hx hb d_Model_settle_27 rfl (lv_at hl 1 rfl) ?_
    obtain ⟨i4, h⟩ := dz_oi h
    refine va_iast (D := (dC, dI)) (f := w2_F 2) hx hb hK hP hD hS 3 1 rfl rfl i4 d_Model_settle_28 (fun H locs hP hD hS => ?_)
    obtain ⟨G5, eG5, h⟩ := dz_lt h
    have hP : va_P (dC, dI) classes (wD cB cI o_Model r I G5) H := by rw [eG5]; exact hP
    have hD : va_D A (wD cB cI o_Model r I G5) := by rw [eG5]; exact hD
    refine lv_iload_n hx hb d_Model_settle_29 rfl (lv_at hl 1 rfl) ?_
    refine lv_aload_n hx hb d_Model_settle_30 rfl (lv_at hl 2 rfl) ?_
    refine lv_iload_n hx hb d_Model_settle_31 rfl (lv_at hl 0 rfl) ?_
    obtain ⟨z6_1, hc6, h⟩ := dz_ob h
    try dsimp only at h
    have hPc := hP
    have hKc := hK
    refine vp_callSi (va_Run.run (va_runV (As := [.int v1_2]) (rest := [.int v2_1]) ⟨hx, hb, hml, hown, hg⟩ (c_Model_sizeAt l dC dI N cB cI o_Model r I G5 v1_2 z6_1 hc6) (cwV 1 hg (gd_V k751 k752 k753 k707 k750) rfl rfl rfl (by decide +kernel) ⟨Nat.le_of_ble_eq_true rfl, Nat.le_of_ble_eq_true rfl⟩) ⟨dz_blindR, va_recv hKc hPc (ci := 10) (q0 := 0) rfl rfl, fun U hU hW => ⟨rfl, dz_Nw hW hN, by rw [hU]; exact hPc, va_K.moved hW.alike hKc⟩⟩ rfl rfl hl.1 rfl (lv_room (Nat.le_of_ble_eq_true rfl)) d_Model_settle_32 ⟨Nat.le_of_ble_eq_true rfl, Nat.le_of_ble_eq_true rfl⟩)) (fun r6 hw => ?_)
    have hw : z6_1 = r6 := hw.symm
    subst hw
    refine lv_iadd hx hb d_Model_settle_35 ?_
    refine lv_istore_n (lv' := [(1, .int (v2_1 + z6_1)), (2, .int v1_2), (0, .ref o_Model)]) hx hb d_Model_settle_36 rfl hl (by decide) rfl (fun ls hl => ?_)
    exact hk2_37 (v2_1 + z6_1) G5 _ _ _ h hP hD hS (lv_sub hl [1, 0, 2] rfl)
set_option maxHeartbeats 4000000 in
set_option maxRecDepth 100000 in
theorem l_Model_settle_1 {p : Program} {l : Launch} {e : Env} {s : State} {m : MethodId} {args : Array Value} {below : List Frame} {meth : Method} {c : Code} {Q : State → Prop} {A : Nat → Prop} (dC : Nat → ClassId) (dI : Nat → Nat → Nat) (N : Nat) (cB : ClassId) (cI : ClassId) (o_Model : Nat) (r : Nat → Nat) (I : Nat → Int32) {ζ : Type} {z : ζ} (hx : p.tables.exec = Jvm.exec) (hb : c.code = b_Model_settle) (hml : c.maxLocals = 3) (hown : s.vm.findClass R_Model = some m.cls) (hg : ∀ w ∈ lw_g, w.before args s = true) (hN : dz_N s) (hK : va_K (dC, dI) classes [(cB, .byte), (cI, .int)] s) (hA : ∀ q : Nat, s.heap.size ≤ q → A q) {k1_48 : Int32 → Int32 → (Nat → Nat → Int32) → Option (ζ)} (hk1_48 : ∀ (v1_1 : Int32) (v1_2 : Int32) (w1_F : (Nat → Nat → Int32))    (H : Heap) (locs : List Loc) (ls : Array Slot), k1_48 v1_1 v1_2 w1_F = some z → va_P (dC, dI) classes (wD cB cI o_Model r I w1_F) H → va_D A (wD cB cI o_Model r I w1_F) → va_S A s.heap H locs → lv_has ls 3 [(2, .int v1_2), (1, .int v1_1), (0, .ref o_Model)] → W p l e ({ frames := 3, cells := 0, slots := 0, locals := 64 } : Room) s m args below meth c H locs 0 0 Q (F0 m 48 ls [])) : ∀ (n1 : Nat) (v1_1 : Int32) (v1_2 : Int32) (w1_F : (Nat → Nat → Int32))   (H : Heap) (locs : List Loc) (ls : Array Slot), lm_Model_settle_1 N I k1_48 n1 v1_1 v1_2 w1_F = some z → va_P (dC, dI) classes (wD cB cI o_Model r I w1_F) H → va_D A (wD cB cI o_Model r I w1_F) → va_S A s.heap H locs → lv_has ls 3 [(2, .int v1_2), (1, .int v1_1), (0, .ref o_Model)] → W p l e ({ frames := 3, cells := 0, slots := 0, locals := 64 } : Room) s m args below meth c H locs 0 0 Q (F0 m 4 ls []) := by
  intro n1
  induction n1 with
  | zero =>
    intro v1_1 v1_2 w1_F H locs ls h hP hD hS hl
    rw [lm_Model_settle_1] at h
    cases h
  | succ n1 ih1 =>
    intro v1_1 v1_2 w1_F H locs ls h hP hD hS hl
    rw [lm_Model_settle_1] at h
    refine lv_iload_n hx hb d_Model_settle_4 rfl (lv_at hl 0 rfl) ?_
    refine lv_aload_n hx hb d_Model_settle_5 rfl (lv_at hl 2 rfl) ?_
    refine va_get (D := (dC, dI)) (ci := 10) (v := .int (I 3)) (C := R_Model) (T := F_Model) (N := 54) hx hb hg i_Model hown hK hP 0 rfl rfl 3 (by decide) (hg _ k764) (fun _ h9 => h9) rfl d_Model_settle_6 ?_
    refine lv_icmp_ge (tgt := 48) hx hb d_Model_settle_9 (by decide) (fun c1 => ?_) (fun c1 => ?_)
    · rw [if_pos c1] at h
      exact hk1_48 v1_1 v1_2 w1_F _ _ _ h hP hD hS (lv_sub hl [0, 1, 2] rfl)
    · rw [if_neg c1] at h
      refine l_Model_settle_2 dC dI N cB cI o_Model r I v1_2 hx hb hml hown hg hN hK hA (fun v2_1 w2_F H locs ls h hP hD hS hl => ?_) v1_1 w1_F _ _ _ h hP hD hS (lv_sub hl [0, 1, 2] rfl)
      refine lv_iload_n hx hb d_Model_settle_37 rfl (lv_at hl 0 rfl) ?_
      refine lv_aload_n hx hb d_Model_settle_38 rfl (lv_at hl 2 rfl) ?_
      refine lv_iload_n hx hb d_Model_settle_39 rfl (lv_at hl 0 rfl) ?_
      obtain ⟨z7_1, hc7, h⟩ := dz_ob h
      try dsimp only at h
      have hPc := hP
      have hKc := hK
      refine vp_callSi (va_Run.run (va_runV (As := [.int v1_2]) (rest := [.int v1_2]) ⟨hx, hb, hml, hown, hg⟩ (c_Model_sizeAt l dC dI N cB cI o_Model r I w2_F v1_2 z7_1 hc7) (cwV 1 hg (gd_V k751 k752 k753 k707 k750) rfl rfl rfl (by decide +kernel) ⟨Nat.le_of_ble_eq_true rfl, Nat.le_of_ble_eq_true rfl⟩) ⟨dz_blindR, va_recv hKc hPc (ci := 10) (q0 := 0) rfl rfl, fun U hU hW => ⟨rfl, dz_Nw hW hN, by rw [hU]; exact hPc, va_K.moved hW.alike hKc⟩⟩ rfl rfl hl.1 rfl (lv_room (Nat.le_of_ble_eq_true rfl)) d_Model_settle_40 ⟨Nat.le_of_ble_eq_true rfl, Nat.le_of_ble_eq_true rfl⟩)) (fun r7 hw => ?_)
      have hw : z7_1 = r7 := hw.symm
      subst hw
      refine lv_iadd hx hb d_Model_settle_43 ?_
      refine lv_istore_n (lv' := [(2, .int (v1_2 + z7_1)), (1, .int v2_1), (0, .ref o_Model)]) hx hb d_Model_settle_44 rfl hl (by decide) rfl (fun ls hl => ?_)
      refine lv_goto (tgt := 4) hx hb d_Model_settle_45 (by decide) ?_
      exact ih1 v2_1 (v1_2 + z7_1) w2_F _ _ _ h hP hD hS (lv_sub hl [0, 1, 2] rfl)
set_option maxHeartbeats 4000000 in
set_option maxRecDepth 100000 in
theorem c_Model_settle (l : Launch) (dC : Nat → ClassId) (dI : Nat → Nat → Nat) (N : Nat) (cB : ClassId) (cI : ClassId) (o_Model : Nat) (r : Nat → Nat) (I : Nat → Int32) (F : Nat → Nat → Int32) (sz : Nat) (z : Int32 × (Nat → Nat → Int32)) (h : m_Model_settle N I F = some z) : Met l y_Model_settle (.code y_Model_settle b_Model_settle 3 (some .int) :: lw_g) ({ frames := 3, cells := 0, slots := 0, locals := 64 }) (va_Pc [.ref o_Model] (fun U => dz_N U ∧ U.heap.size = sz ∧ va_P (dC, dI) classes (wD cB cI o_Model r I F) U.heap ∧ va_K (dC, dI) classes [(cB, .byte), (cI, .int)] U ∧ va_D (fun _ => True) (wD cB cI o_Model r I F))) (va_Qi (fun (r : Int32) (_ : Unit) => r = z.1) (fun (u : Unit) t => va_P (dC, dI) classes (wD cB cI o_Model r I z.2) t.heap ∧ va_K (dC, dI) classes [(cB, .byte), (cI, .int)] t ∧ va_D (va_A (wD cB cI o_Model r I F) sz) (wD cB cI o_Model r I z.2)) (va_A (wD cB cI o_Model r I F) sz)) 0 0 (va_A (wD cB cI o_Model r I F) sz) := by
  refine Met.ofW (cc := b_Model_settle) (maxL := 3) (ret := (some .int)) (by decide +kernel) rfl ?_
  intro p e s m args below meth c s₁ B hml hv
  obtain ⟨rfl, hN, hsz, hP, hK, hD0⟩ := hv
  have hx := B.exec
  have hb := B.bytes
  have hr := B.returns
  have hg : ∀ w ∈ lw_g, w.before _ s = true := fun w hw => atoms_spec (ws := .code y_Model_settle b_Model_settle 3 (some .int) :: lw_g) B.pre w (List.mem_cons_of_mem _ hw)
  have hown : s.vm.findClass R_Model = some m.cls := findClass_of_methodNamed B.named
  have hlocks := B.notSynchronized
  clear B
  subst hsz
  have hD := hD0.self (sz := s.heap.size)
  generalize hAe : va_A (wD cB cI o_Model r I F) s.heap.size = A at hD ⊢
  have hA : ∀ q : Nat, s.heap.size ≤ q → A q := fun q h => by rw [← hAe]; exact Or.inr h
  have hS : va_S A s.heap s.heap [] := va_S.rf
  have hP : va_P (dC, dI) classes (wD cB cI o_Model r I F) s.heap := hP
  have hl := lv_entry ([.ref o_Model]) (n := 3) (Nat.le_of_ble_eq_true rfl)
  rw [lg_entry_eq]
  generalize (lg_sl ([.ref o_Model]) ++ List.replicate (3 - (lg_sl ([.ref o_Model])).length) Slot.unset).toArray = ls at hl ⊢
  have hl : lv_has ls 3 [(0, .ref o_Model)] := hl
  unfold m_Model_settle at h
  refine lv_iconst (v := 0) hx hb d_Model_settle_0 (by decide) ?_
  refine lv_istore_n (lv' := [(1, .int 0), (0, .ref o_Model)]) hx hb d_Model_settle_1 rfl hl (by decide) rfl (fun ls hl => ?_)
  refine lv_iconst (v := 0) hx hb d_Model_settle_2 (by decide) ?_
  refine lv_istore_n (lv' := [(2, .int 0), (1, .int 0), (0, .ref o_Model)]) hx hb d_Model_settle_3 rfl hl (by decide) rfl (fun ls hl => ?_)
  refine l_Model_settle_1 dC dI N cB cI o_Model r I hx hb hml hown hg hN hK hA (fun v1_1 v1_2 w1_F H locs ls h hP hD hS hl => ?_) N (0 : Int32) (0 : Int32) F _ _ _ h hP hD hS (lv_sub hl [0, 1, 2] rfl)
  refine lv_iload_n hx hb d_Model_settle_48 rfl (lv_at hl 1 rfl) ?_
  obtain rfl := Option.some.inj h
  have hP9 := hP
  have hD9 := hD
  have hK9 := hK
  exact W.iret (v := v1_1) hx hb hr (fun t ht hW => ⟨⟨v1_1, (), rfl, rfl, by rw [ht]; exact hP9, va_K.moved hW.alike hK9, hD9⟩, hS.F ht⟩) hS.2.2 d_Model_settle_49

set_option maxHeartbeats 4000000 in
set_option maxRecDepth 100000 in
theorem l_Model_slide_2 {p : Program} {l : Launch} {e : Env} {s : State} {m : MethodId} {args : Array Value} {below : List Frame} {meth : Method} {c : Code} {Q : State → Prop} {A : Nat → Prop} (dC : Nat → ClassId) (dI : Nat → Nat → Nat) (N : Nat) (cB : ClassId) (cI : ClassId) (o_Model : Nat) (r : Nat → Nat) (I : Nat → Int32) (z1_1 : Int32) (v1_2 : Int32) (w1_F : Nat → Nat → Int32) {ζ : Type} {z : ζ} (hx : p.tables.exec = Jvm.exec) (hb : c.code = b_Model_slide) (hml : c.maxLocals = 6) (hown : s.vm.findClass R_Model = some m.cls) (hg : ∀ w ∈ lw_g, w.before args s = true) (hN : dz_N s) (hK : va_K (dC, dI) classes [(cB, .byte), (cI, .int)] s) (hA : ∀ q : Nat, s.heap.size ≤ q → A q) {k2_49 : Int32 → Option (ζ)} (hk2_49 : ∀   (y2_0 : Int32)  (H : Heap) (locs : List Loc) (ls : Array Slot), k2_49 y2_0 = some z → va_P (dC, dI) classes (wD cB cI o_Model r I w1_F) H → va_D A (wD cB cI o_Model r I w1_F) → va_S A s.heap H locs → lv_has ls 6 [(2, .int v1_2), (1, .int z1_1), (0, .ref o_Model)] → W p l e ({ frames := 4, cells := 0, slots := 0, locals := 86 } : Room) s m args below meth c H locs 0 0 Q (F0 m 49 ls [.int y2_0, .int v1_2, .ref (r 6)])) : ∀    (H : Heap) (locs : List Loc) (ls : Array Slot), lm_Model_slide_2 N v1_2 w1_F k2_49  = some z → va_P (dC, dI) classes (wD cB cI o_Model r I w1_F) H → va_D A (wD cB cI o_Model r I w1_F) → va_S A s.heap H locs → lv_has ls 6 [(2, .int v1_2), (1, .int z1_1), (0, .ref o_Model)] → W p l e ({ frames := 4, cells := 0, slots := 0, locals := 86 } : Room) s m args below meth c H locs 0 0 Q (F0 m 19 ls [.int v1_2, .ref (r 6)]) := by
  intro H locs ls h hP hD hS hl
  unfold lm_Model_slide_2 at h
  refine lv_aload_n hx hb d_Model_slide_19 rfl (lv_at hl 2 rfl) ?_
  refine va_get (D := (dC, dI)) (ci := 10) (v := .ref (r 5)) (C := R_Model) (T := F_Model) (N := 54) hx hb hg i_Model hown hK hP 0 rfl rfl 5 (by decide) (hg _ k758) (fun _ h9 => h9) rfl d_Model_slide_20 ?_
  refine lv_iload_n hx hb d_Model_slide_23 rfl (lv_at hl 0 rfl) ?_
  obtain ⟨i3, h⟩ := dz_oi h
  refine va_iald (D := (dC, dI)) (f := w1_F 5) hx hb hK hP 4 1 rfl rfl i3 d_Model_slide_24 ?_
  refine lv_iconst (v := 2) hx hb d_Model_slide_25 (by decide) ?_
  refine lv_icmp_ne (tgt := 43) hx hb d_Model_slide_26 (by decide) (fun c4 => ?_) (fun c4 => ?_)
  · rw [if_neg c4] at h
    refine lv_aload_n hx hb d_Model_slide_43 rfl (lv_at hl 2 rfl) ?_
    refine va_get (D := (dC, dI)) (ci := 10) (v := .ref (r 6)) (C := R_Model) (T := F_Model) (N := 54) hx hb hg i_Model hown hK hP 0 rfl rfl 6 (by decide) (hg _ k759) (fun _ h9 => h9) rfl d_Model_slide_44 ?_
    refine lv_iload_n hx hb d_Model_slide_47 rfl (lv_at hl 0 rfl) ?_
    obtain ⟨i5, h⟩ := dz_oi h
    refine va_iald (D := (dC, dI)) (f := w1_F 6) hx hb hK hP 5 1 rfl rfl i5 d_Model_slide_48 ?_
    exact hk2_49 ((w1_F 6) v1_2.toNatClampNeg) _ _ _ h hP hD hS (lv_sub hl [0, 1, 2] rfl)
  · rw [if_pos c4] at h
    refine lv_aload_n hx hb d_Model_slide_29 rfl (lv_at hl 2 rfl) ?_
    refine va_get (D := (dC, dI)) (ci := 10) (v := .ref (r 2)) (C := R_Model) (T := F_Model) (N := 54) hx hb hg i_Model hown hK hP 0 rfl rfl 2 (by decide) (hg _ k747) (fun _ h9 => h9) rfl d_Model_slide_30 ?_
    refine lv_aload_n hx hb d_Model_slide_33 rfl (lv_at hl 2 rfl) ?_
    refine va_get (D := (dC, dI)) (ci := 10) (v := .ref (r 6)) (C := R_Model) (T := F_Model) (N := 54) hx hb hg i_Model hown hK hP 0 rfl rfl 6 (by decide) (hg _ k759) (fun _ h9 => h9) rfl d_Model_slide_34 ?_
    refine lv_iload_n hx hb d_Model_slide_37 rfl (lv_at hl 0 rfl) ?_
    obtain ⟨i6, h⟩ := dz_oi h
    refine va_iald (D := (dC, dI)) (f := w1_F 6) hx hb hK hP 5 1 rfl rfl i6 d_Model_slide_38 ?_
    obtain ⟨i7, h⟩ := dz_oi h
    refine va_iald (D := (dC, dI)) (f := w1_F 2) hx hb hK hP 3 1 rfl rfl i7 d_Model_slide_39 ?_
    refine lv_goto (tgt := 49) hx hb d_Model_slide_40 (by decide) ?_
    exact hk2_49 ((w1_F 2) ((w1_F 6) v1_2.toNatClampNeg).toNatClampNeg) _ _ _ h hP hD hS (lv_sub hl [0, 1, 2] rfl)
set_option maxHeartbeats 4000000 in
set_option maxRecDepth 100000 in
theorem l_Model_slide_1 {p : Program} {l : Launch} {e : Env} {s : State} {m : MethodId} {args : Array Value} {below : List Frame} {meth : Method} {c : Code} {Q : State → Prop} {A : Nat → Prop} (dC : Nat → ClassId) (dI : Nat → Nat → Nat) (N : Nat) (cB : ClassId) (cI : ClassId) (o_Model : Nat) (r : Nat → Nat) (I : Nat → Int32) (z1_1 : Int32) {ζ : Type} {z : ζ} (hx : p.tables.exec = Jvm.exec) (hb : c.code = b_Model_slide) (hml : c.maxLocals = 6) (hown : s.vm.findClass R_Model = some m.cls) (hg : ∀ w ∈ lw_g, w.before args s = true) (hN : dz_N s) (hK : va_K (dC, dI) classes [(cB, .byte), (cI, .int)] s) (hA : ∀ q : Nat, s.heap.size ≤ q → A q) {k1_56 : Int32 → (Nat → Nat → Int32) → Option (ζ)} (hk1_56 : ∀ (v1_2 : Int32) (w1_F : (Nat → Nat → Int32))    (H : Heap) (locs : List Loc) (ls : Array Slot), k1_56 v1_2 w1_F = some z → va_P (dC, dI) classes (wD cB cI o_Model r I w1_F) H → va_D A (wD cB cI o_Model r I w1_F) → va_S A s.heap H locs → lv_has ls 6 [(2, .int v1_2), (1, .int z1_1), (0, .ref o_Model)] → W p l e ({ frames := 4, cells := 0, slots := 0, locals := 86 } : Room) s m args below meth c H locs 0 0 Q (F0 m 56 ls [])) : ∀ (n1 : Nat) (v1_2 : Int32) (w1_F : (Nat → Nat → Int32))   (H : Heap) (locs : List Loc) (ls : Array Slot), lm_Model_slide_1 N k1_56 n1 v1_2 w1_F = some z → va_P (dC, dI) classes (wD cB cI o_Model r I w1_F) H → va_D A (wD cB cI o_Model r I w1_F) → va_S A s.heap H locs → lv_has ls 6 [(2, .int v1_2), (1, .int z1_1), (0, .ref o_Model)] → W p l e ({ frames := 4, cells := 0, slots := 0, locals := 86 } : Room) s m args below meth c H locs 0 0 Q (F0 m 7 ls []) := by
  intro n1
  induction n1 with
  | zero =>
    intro v1_2 w1_F H locs ls h hP hD hS hl
    rw [lm_Model_slide_1] at h
    cases h
  | succ n1 ih1 =>
    intro v1_2 w1_F H locs ls h hP hD hS hl
    rw [lm_Model_slide_1] at h
    refine lv_iload_n hx hb d_Model_slide_7 rfl (lv_at hl 0 rfl) ?_
    refine lv_sipush (v := 2048) hx hb d_Model_slide_8 (by decide) ?_
    refine lv_icmp_ge (tgt := 56) hx hb d_Model_slide_11 (by decide) (fun c2 => ?_) (fun c2 => ?_)
    · rw [if_pos c2] at h
      exact hk1_56 v1_2 w1_F _ _ _ h hP hD hS (lv_sub hl [0, 1, 2] rfl)
    · rw [if_neg c2] at h
      refine lv_aload_n hx hb d_Model_slide_14 rfl (lv_at hl 2 rfl) ?_
      refine va_get (D := (dC, dI)) (ci := 10) (v := .ref (r 6)) (C := R_Model) (T := F_Model) (N := 54) hx hb hg i_Model hown hK hP 0 rfl rfl 6 (by decide) (hg _ k759) (fun _ h9 => h9) rfl d_Model_slide_15 ?_
      refine lv_iload_n hx hb d_Model_slide_18 rfl (lv_at hl 0 rfl) ?_
      refine l_Model_slide_2 dC dI N cB cI o_Model r I z1_1 v1_2 w1_F hx hb hml hown hg hN hK hA (fun y2_0 H locs ls h hP hD hS hl => ?_)  _ _ _ h hP hD hS (lv_sub hl [0, 1, 2] rfl)
      obtain ⟨i8, h⟩ := dz_oi h
      refine va_iast (D := (dC, dI)) (f := w1_F 6) hx hb hK hP hD hS 5 1 rfl rfl i8 d_Model_slide_49 (fun H locs hP hD hS => ?_)
      obtain ⟨G9, eG9, h⟩ := dz_lt h
      have hP : va_P (dC, dI) classes (wD cB cI o_Model r I G9) H := by rw [eG9]; exact hP
      have hD : va_D A (wD cB cI o_Model r I G9) := by rw [eG9]; exact hD
      refine lv_iinc (v := v1_2 + 1) (lv' := [(2, .int (v1_2 + 1)), (1, .int z1_1), (0, .ref o_Model)]) hx hb d_Model_slide_50 hl (k := 0) rfl rfl (by decide) rfl (fun ls hl => ?_)
      refine lv_goto (tgt := 7) hx hb d_Model_slide_53 (by decide) ?_
      exact ih1 (v1_2 + 1) G9 _ _ _ h hP hD hS (lv_sub hl [0, 1, 2] rfl)
set_option maxHeartbeats 4000000 in
set_option maxRecDepth 100000 in
theorem l_Model_slide_4 {p : Program} {l : Launch} {e : Env} {s : State} {m : MethodId} {args : Array Value} {below : List Frame} {meth : Method} {c : Code} {Q : State → Prop} {A : Nat → Prop} (dC : Nat → ClassId) (dI : Nat → Nat → Nat) (N : Nat) (cB : ClassId) (cI : ClassId) (o_Model : Nat) (r : Nat → Nat) (I : Nat → Int32) (z1_1 : Int32) (v3_2 : Int32) (w3_F : Nat → Nat → Int32) {ζ : Type} {z : ζ} (hx : p.tables.exec = Jvm.exec) (hb : c.code = b_Model_slide) (hml : c.maxLocals = 6) (hown : s.vm.findClass R_Model = some m.cls) (hg : ∀ w ∈ lw_g, w.before args s = true) (hN : dz_N s) (hK : va_K (dC, dI) classes [(cB, .byte), (cI, .int)] s) (hA : ∀ q : Nat, s.heap.size ≤ q → A q) {k4_108 : Int32 → Option (ζ)} (hk4_108 : ∀   (y4_0 : Int32)  (H : Heap) (locs : List Loc) (ls : Array Slot), k4_108 y4_0 = some z → va_P (dC, dI) classes (wD cB cI o_Model r I w3_F) H → va_D A (wD cB cI o_Model r I w3_F) → va_S A s.heap H locs → lv_has ls 6 [(2, .int v3_2), (1, .int z1_1), (0, .ref o_Model)] → W p l e ({ frames := 4, cells := 0, slots := 0, locals := 86 } : Room) s m args below meth c H locs 0 0 Q (F0 m 108 ls [.int y4_0, .int v3_2, .ref (r 28)])) : ∀    (H : Heap) (locs : List Loc) (ls : Array Slot), lm_Model_slide_4 N v3_2 w3_F k4_108  = some z → va_P (dC, dI) classes (wD cB cI o_Model r I w3_F) H → va_D A (wD cB cI o_Model r I w3_F) → va_S A s.heap H locs → lv_has ls 6 [(2, .int v3_2), (1, .int z1_1), (0, .ref o_Model)] → W p l e ({ frames := 4, cells := 0, slots := 0, locals := 86 } : Room) s m args below meth c H locs 0 0 Q (F0 m 78 ls [.int v3_2, .ref (r 28)]) := by
  intro H locs ls h hP hD hS hl
  unfold lm_Model_slide_4 at h
  refine lv_aload_n hx hb d_Model_slide_78 rfl (lv_at hl 2 rfl) ?_
  refine va_get (D := (dC, dI)) (ci := 10) (v := .ref (r 27)) (C := R_Model) (T := F_Model) (N := 54) hx hb hg i_Model hown hK hP 0 rfl rfl 27 (by decide) (hg _ k731) (fun _ h9 => h9) rfl d_Model_slide_79 ?_
  refine lv_iload_n hx hb d_Model_slide_82 rfl (lv_at hl 0 rfl) ?_
  obtain ⟨i13, h⟩ := dz_oi h
  refine va_iald (D := (dC, dI)) (f := w3_F 27) hx hb hK hP 17 1 rfl rfl i13 d_Model_slide_83 ?_
  refine lv_iconst (v := 2) hx hb d_Model_slide_84 (by decide) ?_
  refine lv_icmp_ne (tgt := 102) hx hb d_Model_slide_85 (by decide) (fun c14 => ?_) (fun c14 => ?_)
  · rw [if_neg c14] at h
    refine lv_aload_n hx hb d_Model_slide_102 rfl (lv_at hl 2 rfl) ?_
    refine va_get (D := (dC, dI)) (ci := 10) (v := .ref (r 28)) (C := R_Model) (T := F_Model) (N := 54) hx hb hg i_Model hown hK hP 0 rfl rfl 28 (by decide) (hg _ k732) (fun _ h9 => h9) rfl d_Model_slide_103 ?_
    refine lv_iload_n hx hb d_Model_slide_106 rfl (lv_at hl 0 rfl) ?_
    obtain ⟨i15, h⟩ := dz_oi h
    refine va_iald (D := (dC, dI)) (f := w3_F 28) hx hb hK hP 18 1 rfl rfl i15 d_Model_slide_107 ?_
    exact hk4_108 ((w3_F 28) v3_2.toNatClampNeg) _ _ _ h hP hD hS (lv_sub hl [0, 1, 2] rfl)
  · rw [if_pos c14] at h
    refine lv_aload_n hx hb d_Model_slide_88 rfl (lv_at hl 2 rfl) ?_
    refine va_get (D := (dC, dI)) (ci := 10) (v := .ref (r 2)) (C := R_Model) (T := F_Model) (N := 54) hx hb hg i_Model hown hK hP 0 rfl rfl 2 (by decide) (hg _ k747) (fun _ h9 => h9) rfl d_Model_slide_89 ?_
    refine lv_aload_n hx hb d_Model_slide_92 rfl (lv_at hl 2 rfl) ?_
    refine va_get (D := (dC, dI)) (ci := 10) (v := .ref (r 28)) (C := R_Model) (T := F_Model) (N := 54) hx hb hg i_Model hown hK hP 0 rfl rfl 28 (by decide) (hg _ k732) (fun _ h9 => h9) rfl d_Model_slide_93 ?_
    refine lv_iload_n hx hb d_Model_slide_96 rfl (lv_at hl 0 rfl) ?_
    obtain ⟨i16, h⟩ := dz_oi h
    refine va_iald (D := (dC, dI)) (f := w3_F 28) hx hb hK hP 18 1 rfl rfl i16 d_Model_slide_97 ?_
    obtain ⟨i17, h⟩ := dz_oi h
    refine va_iald (D := (dC, dI)) (f := w3_F 2) hx hb hK hP 3 1 rfl rfl i17 d_Model_slide_98 ?_
    refine lv_goto (tgt := 108) hx hb d_Model_slide_99 (by decide) ?_
    exact hk4_108 ((w3_F 2) ((w3_F 28) v3_2.toNatClampNeg).toNatClampNeg) _ _ _ h hP hD hS (lv_sub hl [0, 1, 2] rfl)
set_option maxHeartbeats 4000000 in
set_option maxRecDepth 100000 in
theorem l_Model_slide_3 {p : Program} {l : Launch} {e : Env} {s : State} {m : MethodId} {args : Array Value} {below : List Frame} {meth : Method} {c : Code} {Q : State → Prop} {A : Nat → Prop} (dC : Nat → ClassId) (dI : Nat → Nat → Nat) (N : Nat) (cB : ClassId) (cI : ClassId) (o_Model : Nat) (r : Nat → Nat) (I : Nat → Int32) (z1_1 : Int32) {ζ : Type} {z : ζ} (hx : p.tables.exec = Jvm.exec) (hb : c.code = b_Model_slide) (hml : c.maxLocals = 6) (hown : s.vm.findClass R_Model = some m.cls) (hg : ∀ w ∈ lw_g, w.before args s = true) (hN : dz_N s) (hK : va_K (dC, dI) classes [(cB, .byte), (cI, .int)] s) (hA : ∀ q : Nat, s.heap.size ≤ q → A q) {k3_115 : Int32 → (Nat → Nat → Int32) → Option (ζ)} (hk3_115 : ∀ (v3_2 : Int32) (w3_F : (Nat → Nat → Int32))    (H : Heap) (locs : List Loc) (ls : Array Slot), k3_115 v3_2 w3_F = some z → va_P (dC, dI) classes (wD cB cI o_Model r I w3_F) H → va_D A (wD cB cI o_Model r I w3_F) → va_S A s.heap H locs → lv_has ls 6 [(2, .int v3_2), (1, .int z1_1), (0, .ref o_Model)] → W p l e ({ frames := 4, cells := 0, slots := 0, locals := 86 } : Room) s m args below meth c H locs 0 0 Q (F0 m 115 ls [])) : ∀ (n3 : Nat) (v3_2 : Int32) (w3_F : (Nat → Nat → Int32))   (H : Heap) (locs : List Loc) (ls : Array Slot), lm_Model_slide_3 N I k3_115 n3 v3_2 w3_F = some z → va_P (dC, dI) classes (wD cB cI o_Model r I w3_F) H → va_D A (wD cB cI o_Model r I w3_F) → va_S A s.heap H locs → lv_has ls 6 [(2, .int v3_2), (1, .int z1_1), (0, .ref o_Model)] → W p l e ({ frames := 4, cells := 0, slots := 0, locals := 86 } : Room) s m args below meth c H locs 0 0 Q (F0 m 58 ls []) := by
  intro n3
  induction n3 with
  | zero =>
    intro v3_2 w3_F H locs ls h hP hD hS hl
    rw [lm_Model_slide_3] at h
    cases h
  | succ n3 ih3 =>
    intro v3_2 w3_F H locs ls h hP hD hS hl
    rw [lm_Model_slide_3] at h
    refine lv_iload_n hx hb d_Model_slide_58 rfl (lv_at hl 0 rfl) ?_
    refine lv_aload_n hx hb d_Model_slide_59 rfl (lv_at hl 2 rfl) ?_
    refine va_get (D := (dC, dI)) (ci := 10) (v := .int (I 29)) (C := R_Model) (T := F_Model) (N := 54) hx hb hg i_Model hown hK hP 0 rfl rfl 29 (by decide) (hg _ k719) (fun _ h9 => h9) rfl d_Model_slide_60 ?_
    refine lv_icmp_ge (tgt := 115) hx hb d_Model_slide_63 (by decide) (fun c10 => ?_) (fun c10 => ?_)
    · rw [if_pos c10] at h
      exact hk3_115 v3_2 w3_F _ _ _ h hP hD hS (lv_sub hl [0, 1, 2] rfl)
    · rw [if_neg c10] at h
      refine lv_aload_n hx hb d_Model_slide_66 rfl (lv_at hl 2 rfl) ?_
      obtain ⟨z11_1, hc11, h⟩ := dz_ob h
      try dsimp only at h
      have hPc := hP
      have hKc := hK
      refine vp_callSi (va_Run.run (va_runV (As := []) (rest := []) ⟨hx, hb, hml, hown, hg⟩ (c_Model_isOn l dC dI N cB cI o_Model r I w3_F z11_1 hc11) (cwV 0 hg (gd_V k704 k705 k706 k707 k703) rfl rfl rfl (by decide +kernel) ⟨Nat.le_of_ble_eq_true rfl, Nat.le_of_ble_eq_true rfl⟩) ⟨dz_blindR, va_recv hKc hPc (ci := 10) (q0 := 0) rfl rfl, fun U hU hW => ⟨rfl, dz_Nw hW hN, by rw [hU]; exact hPc, va_K.moved hW.alike hKc⟩⟩ rfl rfl hl.1 rfl (lv_room (Nat.le_of_ble_eq_true rfl)) d_Model_slide_67 ⟨Nat.le_of_ble_eq_true rfl, Nat.le_of_ble_eq_true rfl⟩)) (fun r11 hw => ?_)
      obtain ⟨hw, hbz11⟩ := hw
      have hw : z11_1 = r11 := hw.symm
      subst hw
      refine lv_if_eq (tgt := 115) hx hb d_Model_slide_70 (by decide) (fun c12 => ?_) (fun c12 => ?_)
      · rw [if_pos c12] at h
        exact hk3_115 v3_2 w3_F _ _ _ h hP hD hS (lv_sub hl [0, 1, 2] rfl)
      · rw [if_neg c12] at h
        refine lv_aload_n hx hb d_Model_slide_73 rfl (lv_at hl 2 rfl) ?_
        refine va_get (D := (dC, dI)) (ci := 10) (v := .ref (r 28)) (C := R_Model) (T := F_Model) (N := 54) hx hb hg i_Model hown hK hP 0 rfl rfl 28 (by decide) (hg _ k732) (fun _ h9 => h9) rfl d_Model_slide_74 ?_
        refine lv_iload_n hx hb d_Model_slide_77 rfl (lv_at hl 0 rfl) ?_
        refine l_Model_slide_4 dC dI N cB cI o_Model r I z1_1 v3_2 w3_F hx hb hml hown hg hN hK hA (fun y4_0 H locs ls h hP hD hS hl => ?_)  _ _ _ h hP hD hS (lv_sub hl [0, 1, 2] rfl)
        obtain ⟨i18, h⟩ := dz_oi h
        refine va_iast (D := (dC, dI)) (f := w3_F 28) hx hb hK hP hD hS 18 1 rfl rfl i18 d_Model_slide_108 (fun H locs hP hD hS => ?_)
        obtain ⟨G19, eG19, h⟩ := dz_lt h
        have hP : va_P (dC, dI) classes (wD cB cI o_Model r I G19) H := by rw [eG19]; exact hP
        have hD : va_D A (wD cB cI o_Model r I G19) := by rw [eG19]; exact hD
        refine lv_iinc (v := v3_2 + 1) (lv' := [(2, .int (v3_2 + 1)), (1, .int z1_1), (0, .ref o_Model)]) hx hb d_Model_slide_109 hl (k := 0) rfl rfl (by decide) rfl (fun ls hl => ?_)
        refine lv_goto (tgt := 58) hx hb d_Model_slide_112 (by decide) ?_
        exact ih3 (v3_2 + 1) G19 _ _ _ h hP hD hS (lv_sub hl [0, 1, 2] rfl)
set_option maxHeartbeats 4000000 in
set_option maxRecDepth 100000 in
theorem l_Model_slide_6 {p : Program} {l : Launch} {e : Env} {s : State} {m : MethodId} {args : Array Value} {below : List Frame} {meth : Method} {c : Code} {Q : State → Prop} {A : Nat → Prop} (dC : Nat → ClassId) (dI : Nat → Nat → Nat) (N : Nat) (cB : ClassId) (cI : ClassId) (o_Model : Nat) (r : Nat → Nat) (I : Nat → Int32) (z1_1 : Int32) (v5_2 : Int32) (w5_F : Nat → Nat → Int32) {ζ : Type} {z : ζ} (hx : p.tables.exec = Jvm.exec) (hb : c.code = b_Model_slide) (hml : c.maxLocals = 6) (hown : s.vm.findClass R_Model = some m.cls) (hg : ∀ w ∈ lw_g, w.before args s = true) (hN : dz_N s) (hK : va_K (dC, dI) classes [(cB, .byte), (cI, .int)] s) (hA : ∀ q : Nat, s.heap.size ≤ q → A q) {k6_161 : Int32 → Option (ζ)} (hk6_161 : ∀   (y6_0 : Int32)  (H : Heap) (locs : List Loc) (ls : Array Slot), k6_161 y6_0 = some z → va_P (dC, dI) classes (wD cB cI o_Model r I w5_F) H → va_D A (wD cB cI o_Model r I w5_F) → va_S A s.heap H locs → lv_has ls 6 [(2, .int v5_2), (1, .int z1_1), (0, .ref o_Model)] → W p l e ({ frames := 4, cells := 0, slots := 0, locals := 86 } : Room) s m args below meth c H locs 0 0 Q (F0 m 161 ls [.int y6_0, .int v5_2, .ref (r 23)])) : ∀    (H : Heap) (locs : List Loc) (ls : Array Slot), lm_Model_slide_6 N v5_2 w5_F k6_161  = some z → va_P (dC, dI) classes (wD cB cI o_Model r I w5_F) H → va_D A (wD cB cI o_Model r I w5_F) → va_S A s.heap H locs → lv_has ls 6 [(2, .int v5_2), (1, .int z1_1), (0, .ref o_Model)] → W p l e ({ frames := 4, cells := 0, slots := 0, locals := 86 } : Room) s m args below meth c H locs 0 0 Q (F0 m 137 ls [.int v5_2, .ref (r 23)]) := by
  intro H locs ls h hP hD hS hl
  unfold lm_Model_slide_6 at h
  refine lv_aload_n hx hb d_Model_slide_137 rfl (lv_at hl 2 rfl) ?_
  refine va_get (D := (dC, dI)) (ci := 10) (v := .ref (r 23)) (C := R_Model) (T := F_Model) (N := 54) hx hb hg i_Model hown hK hP 0 rfl rfl 23 (by decide) (hg _ k716) (fun _ h9 => h9) rfl d_Model_slide_138 ?_
  refine lv_iload_n hx hb d_Model_slide_141 rfl (lv_at hl 0 rfl) ?_
  obtain ⟨i23, h⟩ := dz_oi h
  refine va_iald (D := (dC, dI)) (f := w5_F 23) hx hb hK hP 13 1 rfl rfl i23 d_Model_slide_142 ?_
  refine lv_if_ge (tgt := 150) hx hb d_Model_slide_143 (by decide) (fun c24 => ?_) (fun c24 => ?_)
  · rw [if_pos c24] at h
    refine lv_aload_n hx hb d_Model_slide_150 rfl (lv_at hl 2 rfl) ?_
    refine va_get (D := (dC, dI)) (ci := 10) (v := .ref (r 2)) (C := R_Model) (T := F_Model) (N := 54) hx hb hg i_Model hown hK hP 0 rfl rfl 2 (by decide) (hg _ k747) (fun _ h9 => h9) rfl d_Model_slide_151 ?_
    refine lv_aload_n hx hb d_Model_slide_154 rfl (lv_at hl 2 rfl) ?_
    refine va_get (D := (dC, dI)) (ci := 10) (v := .ref (r 23)) (C := R_Model) (T := F_Model) (N := 54) hx hb hg i_Model hown hK hP 0 rfl rfl 23 (by decide) (hg _ k716) (fun _ h9 => h9) rfl d_Model_slide_155 ?_
    refine lv_iload_n hx hb d_Model_slide_158 rfl (lv_at hl 0 rfl) ?_
    obtain ⟨i25, h⟩ := dz_oi h
    refine va_iald (D := (dC, dI)) (f := w5_F 23) hx hb hK hP 13 1 rfl rfl i25 d_Model_slide_159 ?_
    obtain ⟨i26, h⟩ := dz_oi h
    refine va_iald (D := (dC, dI)) (f := w5_F 2) hx hb hK hP 3 1 rfl rfl i26 d_Model_slide_160 ?_
    exact hk6_161 ((w5_F 2) ((w5_F 23) v5_2.toNatClampNeg).toNatClampNeg) _ _ _ h hP hD hS (lv_sub hl [0, 1, 2] rfl)
  · rw [if_neg c24] at h
    refine lv_iconst (v := (-1)) hx hb d_Model_slide_146 (by decide) ?_
    refine lv_goto (tgt := 161) hx hb d_Model_slide_147 (by decide) ?_
    exact hk6_161 (-1 : Int32) _ _ _ h hP hD hS (lv_sub hl [0, 1, 2] rfl)
set_option maxHeartbeats 4000000 in
set_option maxRecDepth 100000 in
theorem l_Model_slide_5 {p : Program} {l : Launch} {e : Env} {s : State} {m : MethodId} {args : Array Value} {below : List Frame} {meth : Method} {c : Code} {Q : State → Prop} {A : Nat → Prop} (dC : Nat → ClassId) (dI : Nat → Nat → Nat) (N : Nat) (cB : ClassId) (cI : ClassId) (o_Model : Nat) (r : Nat → Nat) (I : Nat → Int32) (z1_1 : Int32) {ζ : Type} {z : ζ} (hx : p.tables.exec = Jvm.exec) (hb : c.code = b_Model_slide) (hml : c.maxLocals = 6) (hown : s.vm.findClass R_Model = some m.cls) (hg : ∀ w ∈ lw_g, w.before args s = true) (hN : dz_N s) (hK : va_K (dC, dI) classes [(cB, .byte), (cI, .int)] s) (hA : ∀ q : Nat, s.heap.size ≤ q → A q) {k5_168 : Int32 → (Nat → Nat → Int32) → Option (ζ)} (hk5_168 : ∀ (v5_2 : Int32) (w5_F : (Nat → Nat → Int32))    (H : Heap) (locs : List Loc) (ls : Array Slot), k5_168 v5_2 w5_F = some z → va_P (dC, dI) classes (wD cB cI o_Model r I w5_F) H → va_D A (wD cB cI o_Model r I w5_F) → va_S A s.heap H locs → lv_has ls 6 [(2, .int v5_2), (1, .int z1_1), (0, .ref o_Model)] → W p l e ({ frames := 4, cells := 0, slots := 0, locals := 86 } : Room) s m args below meth c H locs 0 0 Q (F0 m 168 ls [])) : ∀ (n5 : Nat) (v5_2 : Int32) (w5_F : (Nat → Nat → Int32))   (H : Heap) (locs : List Loc) (ls : Array Slot), lm_Model_slide_5 N I k5_168 n5 v5_2 w5_F = some z → va_P (dC, dI) classes (wD cB cI o_Model r I w5_F) H → va_D A (wD cB cI o_Model r I w5_F) → va_S A s.heap H locs → lv_has ls 6 [(2, .int v5_2), (1, .int z1_1), (0, .ref o_Model)] → W p l e ({ frames := 4, cells := 0, slots := 0, locals := 86 } : Room) s m args below meth c H locs 0 0 Q (F0 m 117 ls []) := by
  intro n5
  induction n5 with
  | zero =>
    intro v5_2 w5_F H locs ls h hP hD hS hl
    rw [lm_Model_slide_5] at h
    cases h
  | succ n5 ih5 =>
    intro v5_2 w5_F H locs ls h hP hD hS hl
    rw [lm_Model_slide_5] at h
    refine lv_iload_n hx hb d_Model_slide_117 rfl (lv_at hl 0 rfl) ?_
    refine lv_aload_n hx hb d_Model_slide_118 rfl (lv_at hl 2 rfl) ?_
    refine va_get (D := (dC, dI)) (ci := 10) (v := .int (I 22)) (C := R_Model) (T := F_Model) (N := 54) hx hb hg i_Model hown hK hP 0 rfl rfl 22 (by decide) (hg _ k715) (fun _ h9 => h9) rfl d_Model_slide_119 ?_
    refine lv_icmp_ge (tgt := 168) hx hb d_Model_slide_122 (by decide) (fun c20 => ?_) (fun c20 => ?_)
    · rw [if_pos c20] at h
      exact hk5_168 v5_2 w5_F _ _ _ h hP hD hS (lv_sub hl [0, 1, 2] rfl)
    · rw [if_neg c20] at h
      refine lv_aload_n hx hb d_Model_slide_125 rfl (lv_at hl 2 rfl) ?_
      obtain ⟨z21_1, hc21, h⟩ := dz_ob h
      try dsimp only at h
      have hPc := hP
      have hKc := hK
      refine vp_callSi (va_Run.run (va_runV (As := []) (rest := []) ⟨hx, hb, hml, hown, hg⟩ (c_Model_isOn l dC dI N cB cI o_Model r I w5_F z21_1 hc21) (cwV 0 hg (gd_V k704 k705 k706 k707 k703) rfl rfl rfl (by decide +kernel) ⟨Nat.le_of_ble_eq_true rfl, Nat.le_of_ble_eq_true rfl⟩) ⟨dz_blindR, va_recv hKc hPc (ci := 10) (q0 := 0) rfl rfl, fun U hU hW => ⟨rfl, dz_Nw hW hN, by rw [hU]; exact hPc, va_K.moved hW.alike hKc⟩⟩ rfl rfl hl.1 rfl (lv_room (Nat.le_of_ble_eq_true rfl)) d_Model_slide_126 ⟨Nat.le_of_ble_eq_true rfl, Nat.le_of_ble_eq_true rfl⟩)) (fun r21 hw => ?_)
      obtain ⟨hw, hbz21⟩ := hw
      have hw : z21_1 = r21 := hw.symm
      subst hw
      refine lv_if_eq (tgt := 168) hx hb d_Model_slide_129 (by decide) (fun c22 => ?_) (fun c22 => ?_)
      · rw [if_pos c22] at h
        exact hk5_168 v5_2 w5_F _ _ _ h hP hD hS (lv_sub hl [0, 1, 2] rfl)
      · rw [if_neg c22] at h
        refine lv_aload_n hx hb d_Model_slide_132 rfl (lv_at hl 2 rfl) ?_
        refine va_get (D := (dC, dI)) (ci := 10) (v := .ref (r 23)) (C := R_Model) (T := F_Model) (N := 54) hx hb hg i_Model hown hK hP 0 rfl rfl 23 (by decide) (hg _ k716) (fun _ h9 => h9) rfl d_Model_slide_133 ?_
        refine lv_iload_n hx hb d_Model_slide_136 rfl (lv_at hl 0 rfl) ?_
        refine l_Model_slide_6 dC dI N cB cI o_Model r I z1_1 v5_2 w5_F hx hb hml hown hg hN hK hA (fun y6_0 H locs ls h hP hD hS hl => ?_)  _ _ _ h hP hD hS (lv_sub hl [0, 1, 2] rfl)
        obtain ⟨i27, h⟩ := dz_oi h
        refine va_iast (D := (dC, dI)) (f := w5_F 23) hx hb hK hP hD hS 13 1 rfl rfl i27 d_Model_slide_161 (fun H locs hP hD hS => ?_)
        obtain ⟨G28, eG28, h⟩ := dz_lt h
        have hP : va_P (dC, dI) classes (wD cB cI o_Model r I G28) H := by rw [eG28]; exact hP
        have hD : va_D A (wD cB cI o_Model r I G28) := by rw [eG28]; exact hD
        refine lv_iinc (v := v5_2 + 1) (lv' := [(2, .int (v5_2 + 1)), (1, .int z1_1), (0, .ref o_Model)]) hx hb d_Model_slide_162 hl (k := 0) rfl rfl (by decide) rfl (fun ls hl => ?_)
        refine lv_goto (tgt := 117) hx hb d_Model_slide_165 (by decide) ?_
        exact ih5 (v5_2 + 1) G28 _ _ _ h hP hD hS (lv_sub hl [0, 1, 2] rfl)
set_option maxHeartbeats 4000000 in
set_option maxRecDepth 100000 in
theorem l_Model_slide_7 {p : Program} {l : Launch} {e : Env} {s : State} {m : MethodId} {args : Array Value} {below : List Frame} {meth : Method} {c : Code} {Q : State → Prop} {A : Nat → Prop} (dC : Nat → ClassId) (dI : Nat → Nat → Nat) (N : Nat) (cB : ClassId) (cI : ClassId) (o_Model : Nat) (r : Nat → Nat) (I : Nat → Int32) (z1_1 : Int32) (v5_2 : Int32) (w5_F : Nat → Nat → Int32) {ζ : Type} {z : ζ} (hx : p.tables.exec = Jvm.exec) (hb : c.code = b_Model_slide) (hml : c.maxLocals = 6) (hown : s.vm.findClass R_Model = some m.cls) (hg : ∀ w ∈ lw_g, w.before args s = true) (hN : dz_N s) (hK : va_K (dC, dI) classes [(cB, .byte), (cI, .int)] s) (hA : ∀ q : Nat, s.heap.size ≤ q → A q) {k7_193 : Int32 → Option (ζ)} (hk7_193 : ∀   (y7_0 : Int32)  (H : Heap) (locs : List Loc) (ls : Array Slot), k7_193 y7_0 = some z → va_P (dC, dI) classes (wD cB cI o_Model r I w5_F) H → va_D A (wD cB cI o_Model r I w5_F) → va_S A s.heap H locs → lv_has ls 6 [(2, .int v5_2), (1, .int z1_1), (0, .ref o_Model)] → W p l e ({ frames := 4, cells := 0, slots := 0, locals := 86 } : Room) s m args below meth c H locs 0 0 Q (F0 m 193 ls [.int y7_0, .ref o_Model])) : ∀    (H : Heap) (locs : List Loc) (ls : Array Slot), lm_Model_slide_7 N I w5_F k7_193  = some z → va_P (dC, dI) classes (wD cB cI o_Model r I w5_F) H → va_D A (wD cB cI o_Model r I w5_F) → va_S A s.heap H locs → lv_has ls 6 [(2, .int v5_2), (1, .int z1_1), (0, .ref o_Model)] → W p l e ({ frames := 4, cells := 0, slots := 0, locals := 86 } : Room) s m args below meth c H locs 0 0 Q (F0 m 169 ls [.ref o_Model]) := by
  intro H locs ls h hP hD hS hl
  unfold lm_Model_slide_7 at h
  refine lv_aload_n hx hb d_Model_slide_169 rfl (lv_at hl 2 rfl) ?_
  refine va_get (D := (dC, dI)) (ci := 10) (v := .int (I 7)) (C := R_Model) (T := F_Model) (N := 54) hx hb hg i_Model hown hK hP 0 rfl rfl 7 (by decide) (hg _ k728) (fun _ h9 => h9) rfl d_Model_slide_170 ?_
  refine lv_iconst (v := 2) hx hb d_Model_slide_173 (by decide) ?_
  refine lv_icmp_ne (tgt := 189) hx hb d_Model_slide_174 (by decide) (fun c29 => ?_) (fun c29 => ?_)
  · rw [if_neg c29] at h
    refine lv_aload_n hx hb d_Model_slide_189 rfl (lv_at hl 2 rfl) ?_
    refine va_get (D := (dC, dI)) (ci := 10) (v := .int (I 8)) (C := R_Model) (T := F_Model) (N := 54) hx hb hg i_Model hown hK hP 0 rfl rfl 8 (by decide) (hg _ k729) (fun _ h9 => h9) rfl d_Model_slide_190 ?_
    exact hk7_193 (I 8) _ _ _ h hP hD hS (lv_sub hl [0, 1, 2] rfl)
  · rw [if_pos c29] at h
    refine lv_aload_n hx hb d_Model_slide_177 rfl (lv_at hl 2 rfl) ?_
    refine va_get (D := (dC, dI)) (ci := 10) (v := .ref (r 2)) (C := R_Model) (T := F_Model) (N := 54) hx hb hg i_Model hown hK hP 0 rfl rfl 2 (by decide) (hg _ k747) (fun _ h9 => h9) rfl d_Model_slide_178 ?_
    refine lv_aload_n hx hb d_Model_slide_181 rfl (lv_at hl 2 rfl) ?_
    refine va_get (D := (dC, dI)) (ci := 10) (v := .int (I 8)) (C := R_Model) (T := F_Model) (N := 54) hx hb hg i_Model hown hK hP 0 rfl rfl 8 (by decide) (hg _ k729) (fun _ h9 => h9) rfl d_Model_slide_182 ?_
    obtain ⟨i30, h⟩ := dz_oi h
    refine va_iald (D := (dC, dI)) (f := w5_F 2) hx hb hK hP 3 1 rfl rfl i30 d_Model_slide_185 ?_
    refine lv_goto (tgt := 193) hx hb d_Model_slide_186 (by decide) ?_
    exact hk7_193 ((w5_F 2) (I 8).toNatClampNeg) _ _ _ h hP hD hS (lv_sub hl [0, 1, 2] rfl)
set_option maxHeartbeats 4000000 in
set_option maxRecDepth 100000 in
theorem l_Model_slide_10 {p : Program} {l : Launch} {e : Env} {s : State} {m : MethodId} {args : Array Value} {below : List Frame} {meth : Method} {c : Code} {Q : State → Prop} {A : Nat → Prop} (dC : Nat → ClassId) (dI : Nat → Nat → Nat) (N : Nat) (cB : ClassId) (cI : ClassId) (o_Model : Nat) (r : Nat → Nat) (z1_1 : Int32) (J31 : Nat → Int32) (v8_2 : Int32) (v9_3 : Int32) (w9_F : Nat → Nat → Int32) {ζ : Type} {z : ζ} (hx : p.tables.exec = Jvm.exec) (hb : c.code = b_Model_slide) (hml : c.maxLocals = 6) (hown : s.vm.findClass R_Model = some m.cls) (hg : ∀ w ∈ lw_g, w.before args s = true) (hN : dz_N s) (hK : va_K (dC, dI) classes [(cB, .byte), (cI, .int)] s) (hA : ∀ q : Nat, s.heap.size ≤ q → A q) {k10_270 : Int32 → Option (ζ)} (hk10_270 : ∀   (y10_0 : Int32)  (H : Heap) (locs : List Loc) (ls : Array Slot), k10_270 y10_0 = some z → va_P (dC, dI) classes (wD cB cI o_Model r J31 w9_F) H → va_D A (wD cB cI o_Model r J31 w9_F) → va_S A s.heap H locs → lv_has ls 6 [(3, .int v9_3), (2, .int v8_2), (1, .int z1_1), (0, .ref o_Model)] → W p l e ({ frames := 4, cells := 0, slots := 0, locals := 86 } : Room) s m args below meth c H locs 0 0 Q (F0 m 270 ls [.int y10_0, .int (v8_2 + v9_3), .ref (r 1)])) : ∀    (H : Heap) (locs : List Loc) (ls : Array Slot), lm_Model_slide_10 N v8_2 v9_3 w9_F k10_270  = some z → va_P (dC, dI) classes (wD cB cI o_Model r J31 w9_F) H → va_D A (wD cB cI o_Model r J31 w9_F) → va_S A s.heap H locs → lv_has ls 6 [(3, .int v9_3), (2, .int v8_2), (1, .int z1_1), (0, .ref o_Model)] → W p l e ({ frames := 4, cells := 0, slots := 0, locals := 86 } : Room) s m args below meth c H locs 0 0 Q (F0 m 234 ls [.int (v8_2 + v9_3), .ref (r 1)]) := by
  intro H locs ls h hP hD hS hl
  unfold lm_Model_slide_10 at h
  refine lv_aload_n hx hb d_Model_slide_234 rfl (lv_at hl 3 rfl) ?_
  refine va_get (D := (dC, dI)) (ci := 10) (v := .ref (r 0)) (C := R_Model) (T := F_Model) (N := 54) hx hb hg i_Model hown hK hP 0 rfl rfl 0 (by decide) (hg _ k737) (fun _ h9 => h9) rfl d_Model_slide_235 ?_
  refine lv_iload_n hx hb d_Model_slide_238 rfl (lv_at hl 1 rfl) ?_
  refine lv_iload_n hx hb d_Model_slide_239 rfl (lv_at hl 0 rfl) ?_
  refine lv_iadd hx hb d_Model_slide_240 ?_
  obtain ⟨i37, h⟩ := dz_oi h
  refine va_iald (D := (dC, dI)) (f := w9_F 0) hx hb hK hP 1 1 rfl rfl i37 d_Model_slide_241 ?_
  refine lv_iconst (v := 2) hx hb d_Model_slide_242 (by decide) ?_
  refine lv_icmp_ne (tgt := 262) hx hb d_Model_slide_243 (by decide) (fun c38 => ?_) (fun c38 => ?_)
  · rw [if_neg c38] at h
    refine lv_aload_n hx hb d_Model_slide_262 rfl (lv_at hl 3 rfl) ?_
    refine va_get (D := (dC, dI)) (ci := 10) (v := .ref (r 1)) (C := R_Model) (T := F_Model) (N := 54) hx hb hg i_Model hown hK hP 0 rfl rfl 1 (by decide) (hg _ k742) (fun _ h9 => h9) rfl d_Model_slide_263 ?_
    refine lv_iload_n hx hb d_Model_slide_266 rfl (lv_at hl 1 rfl) ?_
    refine lv_iload_n hx hb d_Model_slide_267 rfl (lv_at hl 0 rfl) ?_
    refine lv_iadd hx hb d_Model_slide_268 ?_
    obtain ⟨i39, h⟩ := dz_oi h
    refine va_iald (D := (dC, dI)) (f := w9_F 1) hx hb hK hP 2 1 rfl rfl i39 d_Model_slide_269 ?_
    exact hk10_270 ((w9_F 1) (v8_2 + v9_3).toNatClampNeg) _ _ _ h hP hD hS (lv_sub hl [0, 1, 2, 3] rfl)
  · rw [if_pos c38] at h
    refine lv_aload_n hx hb d_Model_slide_246 rfl (lv_at hl 3 rfl) ?_
    refine va_get (D := (dC, dI)) (ci := 10) (v := .ref (r 2)) (C := R_Model) (T := F_Model) (N := 54) hx hb hg i_Model hown hK hP 0 rfl rfl 2 (by decide) (hg _ k747) (fun _ h9 => h9) rfl d_Model_slide_247 ?_
    refine lv_aload_n hx hb d_Model_slide_250 rfl (lv_at hl 3 rfl) ?_
    refine va_get (D := (dC, dI)) (ci := 10) (v := .ref (r 1)) (C := R_Model) (T := F_Model) (N := 54) hx hb hg i_Model hown hK hP 0 rfl rfl 1 (by decide) (hg _ k742) (fun _ h9 => h9) rfl d_Model_slide_251 ?_
    refine lv_iload_n hx hb d_Model_slide_254 rfl (lv_at hl 1 rfl) ?_
    refine lv_iload_n hx hb d_Model_slide_255 rfl (lv_at hl 0 rfl) ?_
    refine lv_iadd hx hb d_Model_slide_256 ?_
    obtain ⟨i40, h⟩ := dz_oi h
    refine va_iald (D := (dC, dI)) (f := w9_F 1) hx hb hK hP 2 1 rfl rfl i40 d_Model_slide_257 ?_
    obtain ⟨i41, h⟩ := dz_oi h
    refine va_iald (D := (dC, dI)) (f := w9_F 2) hx hb hK hP 3 1 rfl rfl i41 d_Model_slide_258 ?_
    refine lv_goto (tgt := 270) hx hb d_Model_slide_259 (by decide) ?_
    exact hk10_270 ((w9_F 2) ((w9_F 1) (v8_2 + v9_3).toNatClampNeg).toNatClampNeg) _ _ _ h hP hD hS (lv_sub hl [0, 1, 2, 3] rfl)
set_option maxHeartbeats 4000000 in
set_option maxRecDepth 100000 in
theorem l_Model_slide_9 {p : Program} {l : Launch} {e : Env} {s : State} {m : MethodId} {args : Array Value} {below : List Frame} {meth : Method} {c : Code} {Q : State → Prop} {A : Nat → Prop} (dC : Nat → ClassId) (dI : Nat → Nat → Nat) (N : Nat) (cB : ClassId) (cI : ClassId) (o_Model : Nat) (r : Nat → Nat) (z1_1 : Int32) (J31 : Nat → Int32) (v8_2 : Int32) {ζ : Type} {z : ζ} (hx : p.tables.exec = Jvm.exec) (hb : c.code = b_Model_slide) (hml : c.maxLocals = 6) (hown : s.vm.findClass R_Model = some m.cls) (hg : ∀ w ∈ lw_g, w.before args s = true) (hN : dz_N s) (hK : va_K (dC, dI) classes [(cB, .byte), (cI, .int)] s) (hA : ∀ q : Nat, s.heap.size ≤ q → A q) {k9_277 : Int32 → (Nat → Nat → Int32) → Option (ζ)} (hk9_277 : ∀ (v9_3 : Int32) (w9_F : (Nat → Nat → Int32))    (H : Heap) (locs : List Loc) (ls : Array Slot), k9_277 v9_3 w9_F = some z → va_P (dC, dI) classes (wD cB cI o_Model r J31 w9_F) H → va_D A (wD cB cI o_Model r J31 w9_F) → va_S A s.heap H locs → lv_has ls 6 [(3, .int v9_3), (2, .int v8_2), (1, .int z1_1), (0, .ref o_Model)] → W p l e ({ frames := 4, cells := 0, slots := 0, locals := 86 } : Room) s m args below meth c H locs 0 0 Q (F0 m 277 ls [])) : ∀ (n9 : Nat) (v9_3 : Int32) (w9_F : (Nat → Nat → Int32))   (H : Heap) (locs : List Loc) (ls : Array Slot), lm_Model_slide_9 N J31 v8_2 k9_277 n9 v9_3 w9_F = some z → va_P (dC, dI) classes (wD cB cI o_Model r J31 w9_F) H → va_D A (wD cB cI o_Model r J31 w9_F) → va_S A s.heap H locs → lv_has ls 6 [(3, .int v9_3), (2, .int v8_2), (1, .int z1_1), (0, .ref o_Model)] → W p l e ({ frames := 4, cells := 0, slots := 0, locals := 86 } : Room) s m args below meth c H locs 0 0 Q (F0 m 208 ls []) := by
  intro n9
  induction n9 with
  | zero =>
    intro v9_3 w9_F H locs ls h hP hD hS hl
    rw [lm_Model_slide_9] at h
    cases h
  | succ n9 ih9 =>
    intro v9_3 w9_F H locs ls h hP hD hS hl
    rw [lm_Model_slide_9] at h
    refine lv_iload_n hx hb d_Model_slide_208 rfl (lv_at hl 0 rfl) ?_
    refine lv_aload_n hx hb d_Model_slide_209 rfl (lv_at hl 3 rfl) ?_
    refine lv_iload_n hx hb d_Model_slide_210 rfl (lv_at hl 1 rfl) ?_
    obtain ⟨z33_1, hc33, h⟩ := dz_ob h
    try dsimp only at h
    have hPc := hP
    have hKc := hK
    refine vp_callSi (va_Run.run (va_runV (As := [.int v8_2]) (rest := [.int v9_3]) ⟨hx, hb, hml, hown, hg⟩ (c_Model_partsAt l dC dI N cB cI o_Model r J31 w9_F v8_2 z33_1 hc33) (cwV 1 hg (gd_V k744 k745 k746 k707 k743) rfl rfl rfl (by decide +kernel) ⟨Nat.le_of_ble_eq_true rfl, Nat.le_of_ble_eq_true rfl⟩) ⟨dz_blindR, va_recv hKc hPc (ci := 10) (q0 := 0) rfl rfl, fun U hU hW => ⟨rfl, dz_Nw hW hN, by rw [hU]; exact hPc, va_K.moved hW.alike hKc⟩⟩ rfl rfl hl.1 rfl (lv_room (Nat.le_of_ble_eq_true rfl)) d_Model_slide_211 ⟨Nat.le_of_ble_eq_true rfl, Nat.le_of_ble_eq_true rfl⟩)) (fun r33 hw => ?_)
    have hw : z33_1 = r33 := hw.symm
    subst hw
    refine lv_icmp_gt (tgt := 277) hx hb d_Model_slide_214 (by decide) (fun c34 => ?_) (fun c34 => ?_)
    · rw [if_pos c34] at h
      exact hk9_277 v9_3 w9_F _ _ _ h hP hD hS (lv_sub hl [0, 1, 2, 3] rfl)
    · rw [if_neg c34] at h
      refine lv_aload_n hx hb d_Model_slide_217 rfl (lv_at hl 3 rfl) ?_
      refine va_get (D := (dC, dI)) (ci := 10) (v := .ref (r 2)) (C := R_Model) (T := F_Model) (N := 54) hx hb hg i_Model hown hK hP 0 rfl rfl 2 (by decide) (hg _ k747) (fun _ h9 => h9) rfl d_Model_slide_218 ?_
      refine lv_iload_n hx hb d_Model_slide_221 rfl (lv_at hl 1 rfl) ?_
      obtain ⟨i35, h⟩ := dz_oi h
      refine va_iald (D := (dC, dI)) (f := w9_F 2) hx hb hK hP 3 1 rfl rfl i35 d_Model_slide_222 ?_
      refine lv_iconst (v := (-1)) hx hb d_Model_slide_223 (by decide) ?_
      refine lv_icmp_eq (tgt := 277) hx hb d_Model_slide_224 (by decide) (fun c36 => ?_) (fun c36 => ?_)
      · rw [if_pos c36] at h
        exact hk9_277 v9_3 w9_F _ _ _ h hP hD hS (lv_sub hl [0, 1, 2, 3] rfl)
      · rw [if_neg c36] at h
        refine lv_aload_n hx hb d_Model_slide_227 rfl (lv_at hl 3 rfl) ?_
        refine va_get (D := (dC, dI)) (ci := 10) (v := .ref (r 1)) (C := R_Model) (T := F_Model) (N := 54) hx hb hg i_Model hown hK hP 0 rfl rfl 1 (by decide) (hg _ k742) (fun _ h9 => h9) rfl d_Model_slide_228 ?_
        refine lv_iload_n hx hb d_Model_slide_231 rfl (lv_at hl 1 rfl) ?_
        refine lv_iload_n hx hb d_Model_slide_232 rfl (lv_at hl 0 rfl) ?_
        refine lv_iadd hx hb d_Model_slide_233 ?_
        refine l_Model_slide_10 dC dI N cB cI o_Model r z1_1 J31 v8_2 v9_3 w9_F hx hb hml hown hg hN hK hA (fun y10_0 H locs ls h hP hD hS hl => ?_)  _ _ _ h hP hD hS (lv_sub hl [0, 1, 2, 3] rfl)
        obtain ⟨i42, h⟩ := dz_oi h
        refine va_iast (D := (dC, dI)) (f := w9_F 1) hx hb hK hP hD hS 2 1 rfl rfl i42 d_Model_slide_270 (fun H locs hP hD hS => ?_)
        obtain ⟨G43, eG43, h⟩ := dz_lt h
        have hP : va_P (dC, dI) classes (wD cB cI o_Model r J31 G43) H := by rw [eG43]; exact hP
        have hD : va_D A (wD cB cI o_Model r J31 G43) := by rw [eG43]; exact hD
        refine lv_iinc (v := v9_3 + 1) (lv' := [(3, .int (v9_3 + 1)), (2, .int v8_2), (1, .int z1_1), (0, .ref o_Model)]) hx hb d_Model_slide_271 hl (k := 0) rfl rfl (by decide) rfl (fun ls hl => ?_)
        refine lv_goto (tgt := 208) hx hb d_Model_slide_274 (by decide) ?_
        exact ih9 (v9_3 + 1) G43 _ _ _ h hP hD hS (lv_sub hl [0, 1, 2, 3] rfl)
set_option maxHeartbeats 4000000 in
set_option maxRecDepth 100000 in
theorem l_Model_slide_8 {p : Program} {l : Launch} {e : Env} {s : State} {m : MethodId} {args : Array Value} {below : List Frame} {meth : Method} {c : Code} {Q : State → Prop} {A : Nat → Prop} (dC : Nat → ClassId) (dI : Nat → Nat → Nat) (N : Nat) (cB : ClassId) (cI : ClassId) (o_Model : Nat) (r : Nat → Nat) (z1_1 : Int32) (J31 : Nat → Int32) {ζ : Type} {z : ζ} (hx : p.tables.exec = Jvm.exec) (hb : c.code = b_Model_slide) (hml : c.maxLocals = 6) (hown : s.vm.findClass R_Model = some m.cls) (hg : ∀ w ∈ lw_g, w.before args s = true) (hN : dz_N s) (hK : va_K (dC, dI) classes [(cB, .byte), (cI, .int)] s) (hA : ∀ q : Nat, s.heap.size ≤ q → A q) {k8_288 : Int32 → (Nat → Nat → Int32) → Option (ζ)} (hk8_288 : ∀ (v8_2 : Int32) (w8_F : (Nat → Nat → Int32))    (H : Heap) (locs : List Loc) (ls : Array Slot), k8_288 v8_2 w8_F = some z → va_P (dC, dI) classes (wD cB cI o_Model r J31 w8_F) H → va_D A (wD cB cI o_Model r J31 w8_F) → va_S A s.heap H locs → lv_has ls 6 [(2, .int v8_2), (1, .int z1_1), (0, .ref o_Model)] → W p l e ({ frames := 4, cells := 0, slots := 0, locals := 86 } : Room) s m args below meth c H locs 0 0 Q (F0 m 288 ls [])) : ∀ (n8 : Nat) (v8_2 : Int32) (w8_F : (Nat → Nat → Int32))   (H : Heap) (locs : List Loc) (ls : Array Slot), lm_Model_slide_8 N J31 k8_288 n8 v8_2 w8_F = some z → va_P (dC, dI) classes (wD cB cI o_Model r J31 w8_F) H → va_D A (wD cB cI o_Model r J31 w8_F) → va_S A s.heap H locs → lv_has ls 6 [(2, .int v8_2), (1, .int z1_1), (0, .ref o_Model)] → W p l e ({ frames := 4, cells := 0, slots := 0, locals := 86 } : Room) s m args below meth c H locs 0 0 Q (F0 m 198 ls []) := by
  intro n8
  induction n8 with
  | zero =>
    intro v8_2 w8_F H locs ls h hP hD hS hl
    rw [lm_Model_slide_8] at h
    cases h
  | succ n8 ih8 =>
    intro v8_2 w8_F H locs ls h hP hD hS hl
    rw [lm_Model_slide_8] at h
    refine lv_iload_n hx hb d_Model_slide_198 rfl (lv_at hl 0 rfl) ?_
    refine lv_aload_n hx hb d_Model_slide_199 rfl (lv_at hl 2 rfl) ?_
    refine va_get (D := (dC, dI)) (ci := 10) (v := .int (J31 3)) (C := R_Model) (T := F_Model) (N := 54) hx hb hg i_Model hown hK hP 0 rfl rfl 3 (by decide) (hg _ k764) (fun _ h9 => h9) rfl d_Model_slide_200 ?_
    refine lv_icmp_ge (tgt := 288) hx hb d_Model_slide_203 (by decide) (fun c32 => ?_) (fun c32 => ?_)
    · rw [if_pos c32] at h
      exact hk8_288 v8_2 w8_F _ _ _ h hP hD hS (lv_sub hl [0, 1, 2] rfl)
    · rw [if_neg c32] at h
      refine lv_iconst (v := 1) hx hb d_Model_slide_206 (by decide) ?_
      refine lv_istore_n (lv' := [(3, .int 1), (2, .int v8_2), (1, .int z1_1), (0, .ref o_Model)]) hx hb d_Model_slide_207 rfl hl (by decide) rfl (fun ls hl => ?_)
      refine l_Model_slide_9 dC dI N cB cI o_Model r z1_1 J31 v8_2 hx hb hml hown hg hN hK hA (fun v9_3 w9_F H locs ls h hP hD hS hl => ?_) N (1 : Int32) w8_F _ _ _ h hP hD hS (lv_sub hl [0, 1, 2, 3] rfl)
      refine lv_iload_n hx hb d_Model_slide_277 rfl (lv_at hl 1 rfl) ?_
      refine lv_aload_n hx hb d_Model_slide_278 rfl (lv_at hl 3 rfl) ?_
      refine lv_iload_n hx hb d_Model_slide_279 rfl (lv_at hl 1 rfl) ?_
      obtain ⟨z44_1, hc44, h⟩ := dz_ob h
      try dsimp only at h
      have hPc := hP
      have hKc := hK
      refine vp_callSi (va_Run.run (va_runV (As := [.int v8_2]) (rest := [.int v8_2]) ⟨hx, hb, hml, hown, hg⟩ (c_Model_sizeAt l dC dI N cB cI o_Model r J31 w9_F v8_2 z44_1 hc44) (cwV 1 hg (gd_V k751 k752 k753 k707 k750) rfl rfl rfl (by decide +kernel) ⟨Nat.le_of_ble_eq_true rfl, Nat.le_of_ble_eq_true rfl⟩) ⟨dz_blindR, va_recv hKc hPc (ci := 10) (q0 := 0) rfl rfl, fun U hU hW => ⟨rfl, dz_Nw hW hN, by rw [hU]; exact hPc, va_K.moved hW.alike hKc⟩⟩ rfl rfl hl.1 rfl (lv_room (Nat.le_of_ble_eq_true rfl)) d_Model_slide_280 ⟨Nat.le_of_ble_eq_true rfl, Nat.le_of_ble_eq_true rfl⟩)) (fun r44 hw => ?_)
      have hw : z44_1 = r44 := hw.symm
      subst hw
      refine lv_iadd hx hb d_Model_slide_283 ?_
      refine lv_istore_n (lv' := [(2, .int (v8_2 + z44_1)), (3, .int v9_3), (1, .int z1_1), (0, .ref o_Model)]) hx hb d_Model_slide_284 rfl hl (by decide) rfl (fun ls hl => ?_)
      refine lv_goto (tgt := 198) hx hb d_Model_slide_285 (by decide) ?_
      exact ih8 (v8_2 + z44_1) w9_F _ _ _ h hP hD hS (lv_sub hl [0, 2, 3] rfl)
set_option maxHeartbeats 4000000 in
set_option maxRecDepth 100000 in
theorem l_Model_slide_12 {p : Program} {l : Launch} {e : Env} {s : State} {m : MethodId} {args : Array Value} {below : List Frame} {meth : Method} {c : Code} {Q : State → Prop} {A : Nat → Prop} (dC : Nat → ClassId) (dI : Nat → Nat → Nat) (N : Nat) (cB : ClassId) (cI : ClassId) (o_Model : Nat) (r : Nat → Nat) (z1_1 : Int32) (J31 : Nat → Int32) (v11_2 : Int32) (w11_F : Nat → Nat → Int32) (z46_1 : Int32) {ζ : Type} {z : ζ} (hx : p.tables.exec = Jvm.exec) (hb : c.code = b_Model_slide) (hml : c.maxLocals = 6) (hown : s.vm.findClass R_Model = some m.cls) (hg : ∀ w ∈ lw_g, w.before args s = true) (hN : dz_N s) (hK : va_K (dC, dI) classes [(cB, .byte), (cI, .int)] s) (hA : ∀ q : Nat, s.heap.size ≤ q → A q) {k12_378 : Int32 → (Nat → Nat → Int32) → Option (ζ)} (hk12_378 : ∀ (v12_5 : Int32) (w12_F : (Nat → Nat → Int32))    (H : Heap) (locs : List Loc) (ls : Array Slot), k12_378 v12_5 w12_F = some z → va_P (dC, dI) classes (wD cB cI o_Model r J31 w12_F) H → va_D A (wD cB cI o_Model r J31 w12_F) → va_S A s.heap H locs → lv_has ls 6 [(5, .int v12_5), (4, .int ((w11_F 2) v11_2.toNatClampNeg)), (3, .int z46_1), (2, .int v11_2), (1, .int z1_1), (0, .ref o_Model)] → W p l e ({ frames := 4, cells := 0, slots := 0, locals := 86 } : Room) s m args below meth c H locs 0 0 Q (F0 m 378 ls [])) : ∀ (n12 : Nat) (v12_5 : Int32) (w12_F : (Nat → Nat → Int32))   (H : Heap) (locs : List Loc) (ls : Array Slot), lm_Model_slide_12 N v11_2 w11_F z46_1 k12_378 n12 v12_5 w12_F = some z → va_P (dC, dI) classes (wD cB cI o_Model r J31 w12_F) H → va_D A (wD cB cI o_Model r J31 w12_F) → va_S A s.heap H locs → lv_has ls 6 [(5, .int v12_5), (4, .int ((w11_F 2) v11_2.toNatClampNeg)), (3, .int z46_1), (2, .int v11_2), (1, .int z1_1), (0, .ref o_Model)] → W p l e ({ frames := 4, cells := 0, slots := 0, locals := 86 } : Room) s m args below meth c H locs 0 0 Q (F0 m 322 ls []) := by
  intro n12
  induction n12 with
  | zero =>
    intro v12_5 w12_F H locs ls h hP hD hS hl
    rw [lm_Model_slide_12] at h
    cases h
  | succ n12 ih12 =>
    intro v12_5 w12_F H locs ls h hP hD hS hl
    rw [lm_Model_slide_12] at h
    refine lv_iload hx hb d_Model_slide_322 (lv_at hl 0 rfl) ?_
    refine lv_iload_n hx hb d_Model_slide_324 rfl (lv_at hl 2 rfl) ?_
    refine lv_icmp_ge (tgt := 378) hx hb d_Model_slide_325 (by decide) (fun c50 => ?_) (fun c50 => ?_)
    · rw [if_pos c50] at h
      exact hk12_378 v12_5 w12_F _ _ _ h hP hD hS (lv_sub hl [0, 1, 2, 3, 4, 5] rfl)
    · rw [if_neg c50] at h
      refine lv_iload hx hb d_Model_slide_328 (lv_at hl 1 rfl) ?_
      refine lv_iconst (v := (-1)) hx hb d_Model_slide_330 (by decide) ?_
      refine lv_icmp_eq (tgt := 378) hx hb d_Model_slide_331 (by decide) (fun c51 => ?_) (fun c51 => ?_)
      · rw [if_pos c51] at h
        exact hk12_378 v12_5 w12_F _ _ _ h hP hD hS (lv_sub hl [0, 1, 2, 3, 4, 5] rfl)
      · rw [if_neg c51] at h
        refine lv_aload_n hx hb d_Model_slide_334 rfl (lv_at hl 5 rfl) ?_
        refine va_get (D := (dC, dI)) (ci := 10) (v := .ref (r 0)) (C := R_Model) (T := F_Model) (N := 54) hx hb hg i_Model hown hK hP 0 rfl rfl 0 (by decide) (hg _ k737) (fun _ h9 => h9) rfl d_Model_slide_335 ?_
        refine lv_iload hx hb d_Model_slide_338 (lv_at hl 1 rfl) ?_
        refine lv_iload hx hb d_Model_slide_340 (lv_at hl 0 rfl) ?_
        refine lv_iadd hx hb d_Model_slide_342 ?_
        refine lv_aload_n hx hb d_Model_slide_343 rfl (lv_at hl 5 rfl) ?_
        refine va_get (D := (dC, dI)) (ci := 10) (v := .ref (r 0)) (C := R_Model) (T := F_Model) (N := 54) hx hb hg i_Model hown hK hP 0 rfl rfl 0 (by decide) (hg _ k737) (fun _ h9 => h9) rfl d_Model_slide_344 ?_
        refine lv_iload_n hx hb d_Model_slide_347 rfl (lv_at hl 3 rfl) ?_
        refine lv_iload hx hb d_Model_slide_348 (lv_at hl 0 rfl) ?_
        refine lv_iadd hx hb d_Model_slide_350 ?_
        obtain ⟨i52, h⟩ := dz_oi h
        refine va_iald (D := (dC, dI)) (f := w12_F 0) hx hb hK hP 1 1 rfl rfl i52 d_Model_slide_351 ?_
        obtain ⟨i53, h⟩ := dz_oi h
        refine va_iast (D := (dC, dI)) (f := w12_F 0) hx hb hK hP hD hS 1 1 rfl rfl i53 d_Model_slide_352 (fun H locs hP hD hS => ?_)
        obtain ⟨G54, eG54, h⟩ := dz_lt h
        have hP : va_P (dC, dI) classes (wD cB cI o_Model r J31 G54) H := by rw [eG54]; exact hP
        have hD : va_D A (wD cB cI o_Model r J31 G54) := by rw [eG54]; exact hD
        refine lv_aload_n hx hb d_Model_slide_353 rfl (lv_at hl 5 rfl) ?_
        refine va_get (D := (dC, dI)) (ci := 10) (v := .ref (r 1)) (C := R_Model) (T := F_Model) (N := 54) hx hb hg i_Model hown hK hP 0 rfl rfl 1 (by decide) (hg _ k742) (fun _ h9 => h9) rfl d_Model_slide_354 ?_
        refine lv_iload hx hb d_Model_slide_357 (lv_at hl 1 rfl) ?_
        refine lv_iload hx hb d_Model_slide_359 (lv_at hl 0 rfl) ?_
        refine lv_iadd hx hb d_Model_slide_361 ?_
        refine lv_aload_n hx hb d_Model_slide_362 rfl (lv_at hl 5 rfl) ?_
        refine va_get (D := (dC, dI)) (ci := 10) (v := .ref (r 1)) (C := R_Model) (T := F_Model) (N := 54) hx hb hg i_Model hown hK hP 0 rfl rfl 1 (by decide) (hg _ k742) (fun _ h9 => h9) rfl d_Model_slide_363 ?_
        refine lv_iload_n hx hb d_Model_slide_366 rfl (lv_at hl 3 rfl) ?_
        refine lv_iload hx hb d_Model_slide_367 (lv_at hl 0 rfl) ?_
        refine lv_iadd hx hb d_Model_slide_369 ?_
        obtain ⟨i55, h⟩ := dz_oi h
        refine va_iald (D := (dC, dI)) (f := G54 1) hx hb hK hP 2 1 rfl rfl i55 d_Model_slide_370 ?_
        obtain ⟨i56, h⟩ := dz_oi h
        refine va_iast (D := (dC, dI)) (f := G54 1) hx hb hK hP hD hS 2 1 rfl rfl i56 d_Model_slide_371 (fun H locs hP hD hS => ?_)
        obtain ⟨G57, eG57, h⟩ := dz_lt h
        have hP : va_P (dC, dI) classes (wD cB cI o_Model r J31 G57) H := by rw [eG57]; exact hP
        have hD : va_D A (wD cB cI o_Model r J31 G57) := by rw [eG57]; exact hD
        refine lv_iinc (v := v12_5 + 1) (lv' := [(5, .int (v12_5 + 1)), (4, .int ((w11_F 2) v11_2.toNatClampNeg)), (3, .int z46_1), (2, .int v11_2), (1, .int z1_1), (0, .ref o_Model)]) hx hb d_Model_slide_372 hl (k := 0) rfl rfl (by decide) rfl (fun ls hl => ?_)
        refine lv_goto (tgt := 322) hx hb d_Model_slide_375 (by decide) ?_
        exact ih12 (v12_5 + 1) G57 _ _ _ h hP hD hS (lv_sub hl [0, 1, 2, 3, 4, 5] rfl)
set_option maxHeartbeats 4000000 in
set_option maxRecDepth 100000 in
theorem l_Model_slide_11 {p : Program} {l : Launch} {e : Env} {s : State} {m : MethodId} {args : Array Value} {below : List Frame} {meth : Method} {c : Code} {Q : State → Prop} {A : Nat → Prop} (dC : Nat → ClassId) (dI : Nat → Nat → Nat) (N : Nat) (cB : ClassId) (cI : ClassId) (o_Model : Nat) (r : Nat → Nat) (z1_1 : Int32) (J31 : Nat → Int32) {ζ : Type} {z : ζ} (hx : p.tables.exec = Jvm.exec) (hb : c.code = b_Model_slide) (hml : c.maxLocals = 6) (hown : s.vm.findClass R_Model = some m.cls) (hg : ∀ w ∈ lw_g, w.before args s = true) (hN : dz_N s) (hK : va_K (dC, dI) classes [(cB, .byte), (cI, .int)] s) (hA : ∀ q : Nat, s.heap.size ≤ q → A q) {k11_385 : Int32 → (Nat → Nat → Int32) → Option (ζ)} (hk11_385 : ∀ (v11_2 : Int32) (w11_F : (Nat → Nat → Int32))    (H : Heap) (locs : List Loc) (ls : Array Slot), k11_385 v11_2 w11_F = some z → va_P (dC, dI) classes (wD cB cI o_Model r J31 w11_F) H → va_D A (wD cB cI o_Model r J31 w11_F) → va_S A s.heap H locs → lv_has ls 6 [(2, .int v11_2), (1, .int z1_1), (0, .ref o_Model)] → W p l e ({ frames := 4, cells := 0, slots := 0, locals := 86 } : Room) s m args below meth c H locs 0 0 Q (F0 m 385 ls [])) : ∀ (n11 : Nat) (v11_2 : Int32) (w11_F : (Nat → Nat → Int32))   (H : Heap) (locs : List Loc) (ls : Array Slot), lm_Model_slide_11 N J31 k11_385 n11 v11_2 w11_F = some z → va_P (dC, dI) classes (wD cB cI o_Model r J31 w11_F) H → va_D A (wD cB cI o_Model r J31 w11_F) → va_S A s.heap H locs → lv_has ls 6 [(2, .int v11_2), (1, .int z1_1), (0, .ref o_Model)] → W p l e ({ frames := 4, cells := 0, slots := 0, locals := 86 } : Room) s m args below meth c H locs 0 0 Q (F0 m 290 ls []) := by
  intro n11
  induction n11 with
  | zero =>
    intro v11_2 w11_F H locs ls h hP hD hS hl
    rw [lm_Model_slide_11] at h
    cases h
  | succ n11 ih11 =>
    intro v11_2 w11_F H locs ls h hP hD hS hl
    rw [lm_Model_slide_11] at h
    refine lv_iload_n hx hb d_Model_slide_290 rfl (lv_at hl 0 rfl) ?_
    refine lv_aload_n hx hb d_Model_slide_291 rfl (lv_at hl 2 rfl) ?_
    refine va_get (D := (dC, dI)) (ci := 10) (v := .int (J31 3)) (C := R_Model) (T := F_Model) (N := 54) hx hb hg i_Model hown hK hP 0 rfl rfl 3 (by decide) (hg _ k764) (fun _ h9 => h9) rfl d_Model_slide_292 ?_
    refine lv_icmp_ge (tgt := 385) hx hb d_Model_slide_295 (by decide) (fun c45 => ?_) (fun c45 => ?_)
    · rw [if_pos c45] at h
      exact hk11_385 v11_2 w11_F _ _ _ h hP hD hS (lv_sub hl [0, 1, 2] rfl)
    · rw [if_neg c45] at h
      refine lv_aload_n hx hb d_Model_slide_298 rfl (lv_at hl 2 rfl) ?_
      refine lv_iload_n hx hb d_Model_slide_299 rfl (lv_at hl 0 rfl) ?_
      obtain ⟨z46_1, hc46, h⟩ := dz_ob h
      try dsimp only at h
      have hPc := hP
      have hKc := hK
      refine vp_callSi (va_Run.run (va_runV (As := [.int v11_2]) (rest := []) ⟨hx, hb, hml, hown, hg⟩ (c_Model_sizeAt l dC dI N cB cI o_Model r J31 w11_F v11_2 z46_1 hc46) (cwV 1 hg (gd_V k751 k752 k753 k707 k750) rfl rfl rfl (by decide +kernel) ⟨Nat.le_of_ble_eq_true rfl, Nat.le_of_ble_eq_true rfl⟩) ⟨dz_blindR, va_recv hKc hPc (ci := 10) (q0 := 0) rfl rfl, fun U hU hW => ⟨rfl, dz_Nw hW hN, by rw [hU]; exact hPc, va_K.moved hW.alike hKc⟩⟩ rfl rfl hl.1 rfl (lv_room (Nat.le_of_ble_eq_true rfl)) d_Model_slide_300 ⟨Nat.le_of_ble_eq_true rfl, Nat.le_of_ble_eq_true rfl⟩)) (fun r46 hw => ?_)
      have hw : z46_1 = r46 := hw.symm
      subst hw
      refine lv_istore_n (lv' := [(3, .int z46_1), (2, .int v11_2), (1, .int z1_1), (0, .ref o_Model)]) hx hb d_Model_slide_303 rfl hl (by decide) rfl (fun ls hl => ?_)
      refine lv_aload_n hx hb d_Model_slide_304 rfl (lv_at hl 3 rfl) ?_
      refine va_get (D := (dC, dI)) (ci := 10) (v := .ref (r 2)) (C := R_Model) (T := F_Model) (N := 54) hx hb hg i_Model hown hK hP 0 rfl rfl 2 (by decide) (hg _ k747) (fun _ h9 => h9) rfl d_Model_slide_305 ?_
      refine lv_iload_n hx hb d_Model_slide_308 rfl (lv_at hl 1 rfl) ?_
      obtain ⟨i47, h⟩ := dz_oi h
      refine va_iald (D := (dC, dI)) (f := w11_F 2) hx hb hK hP 3 1 rfl rfl i47 d_Model_slide_309 ?_
      refine lv_istore (lv' := [(4, .int ((w11_F 2) v11_2.toNatClampNeg)), (3, .int z46_1), (2, .int v11_2), (1, .int z1_1), (0, .ref o_Model)]) hx hb d_Model_slide_310 hl (by decide) rfl (fun ls hl => ?_)
      refine lv_aload_n hx hb d_Model_slide_312 rfl (lv_at hl 4 rfl) ?_
      refine va_get (D := (dC, dI)) (ci := 10) (v := .ref (r 2)) (C := R_Model) (T := F_Model) (N := 54) hx hb hg i_Model hown hK hP 0 rfl rfl 2 (by decide) (hg _ k747) (fun _ h9 => h9) rfl d_Model_slide_313 ?_
      refine lv_iload_n hx hb d_Model_slide_316 rfl (lv_at hl 2 rfl) ?_
      refine lv_iconst (v := (-1)) hx hb d_Model_slide_317 (by decide) ?_
      obtain ⟨i48, h⟩ := dz_oi h
      refine va_iast (D := (dC, dI)) (f := w11_F 2) hx hb hK hP hD hS 3 1 rfl rfl i48 d_Model_slide_318 (fun H locs hP hD hS => ?_)
      obtain ⟨G49, eG49, h⟩ := dz_lt h
      have hP : va_P (dC, dI) classes (wD cB cI o_Model r J31 G49) H := by rw [eG49]; exact hP
      have hD : va_D A (wD cB cI o_Model r J31 G49) := by rw [eG49]; exact hD
      refine lv_iconst (v := 0) hx hb d_Model_slide_319 (by decide) ?_
      refine lv_istore (lv' := [(5, .int 0), (4, .int ((w11_F 2) v11_2.toNatClampNeg)), (3, .int z46_1), (2, .int v11_2), (1, .int z1_1), (0, .ref o_Model)]) hx hb d_Model_slide_320 hl (by decide) rfl (fun ls hl => ?_)
      refine l_Model_slide_12 dC dI N cB cI o_Model r z1_1 J31 v11_2 w11_F z46_1 hx hb hml hown hg hN hK hA (fun v12_5 w12_F H locs ls h hP hD hS hl => ?_) N (0 : Int32) G49 _ _ _ h hP hD hS (lv_sub hl [0, 1, 2, 3, 4, 5] rfl)
      refine lv_iload_n hx hb d_Model_slide_378 rfl (lv_at hl 3 rfl) ?_
      refine lv_iload_n hx hb d_Model_slide_379 rfl (lv_at hl 2 rfl) ?_
      refine lv_iadd hx hb d_Model_slide_380 ?_
      refine lv_istore_n (lv' := [(2, .int (v11_2 + z46_1)), (5, .int v12_5), (4, .int ((w11_F 2) v11_2.toNatClampNeg)), (3, .int z46_1), (1, .int z1_1), (0, .ref o_Model)]) hx hb d_Model_slide_381 rfl hl (by decide) rfl (fun ls hl => ?_)
      refine lv_goto (tgt := 290) hx hb d_Model_slide_382 (by decide) ?_
      exact ih11 (v11_2 + z46_1) w12_F _ _ _ h hP hD hS (lv_sub hl [0, 4, 5] rfl)
set_option maxHeartbeats 4000000 in
set_option maxRecDepth 100000 in
theorem c_Model_slide (l : Launch) (dC : Nat → ClassId) (dI : Nat → Nat → Nat) (N : Nat) (cB : ClassId) (cI : ClassId) (o_Model : Nat) (r : Nat → Nat) (I : Nat → Int32) (F : Nat → Nat → Int32) (sz : Nat) (z : (Nat → Nat → Int32) × (Nat → Int32)) (h : m_Model_slide N I F = some z) : Met l y_Model_slide (.code y_Model_slide b_Model_slide 6 none :: lw_g) ({ frames := 4, cells := 0, slots := 0, locals := 86 }) (va_Pc [.ref o_Model] (fun U => dz_N U ∧ U.heap.size = sz ∧ va_P (dC, dI) classes (wD cB cI o_Model r I F) U.heap ∧ va_K (dC, dI) classes [(cB, .byte), (cI, .int)] U ∧ va_D (fun _ => True) (wD cB cI o_Model r I F))) (va_Qv (fun (_ : Unit) => True) (fun (u : Unit) t => va_P (dC, dI) classes (wD cB cI o_Model r z.2 z.1) t.heap ∧ va_K (dC, dI) classes [(cB, .byte), (cI, .int)] t ∧ va_D (va_A (wD cB cI o_Model r I F) sz) (wD cB cI o_Model r z.2 z.1)) (va_A (wD cB cI o_Model r I F) sz)) 0 0 (va_A (wD cB cI o_Model r I F) sz) := by
  refine Met.ofW (cc := b_Model_slide) (maxL := 6) (ret := none) (by decide +kernel) rfl ?_
  intro p e s m args below meth c s₁ B hml hv
  obtain ⟨rfl, hN, hsz, hP, hK, hD0⟩ := hv
  have hx := B.exec
  have hb := B.bytes
  have hr := B.returns
  have hg : ∀ w ∈ lw_g, w.before _ s = true := fun w hw => atoms_spec (ws := .code y_Model_slide b_Model_slide 6 none :: lw_g) B.pre w (List.mem_cons_of_mem _ hw)
  have hown : s.vm.findClass R_Model = some m.cls := findClass_of_methodNamed B.named
  have hlocks := B.notSynchronized
  clear B
  subst hsz
  have hD := hD0.self (sz := s.heap.size)
  generalize hAe : va_A (wD cB cI o_Model r I F) s.heap.size = A at hD ⊢
  have hA : ∀ q : Nat, s.heap.size ≤ q → A q := fun q h => by rw [← hAe]; exact Or.inr h
  have hS : va_S A s.heap s.heap [] := va_S.rf
  have hP : va_P (dC, dI) classes (wD cB cI o_Model r I F) s.heap := hP
  have hl := lv_entry ([.ref o_Model]) (n := 6) (Nat.le_of_ble_eq_true rfl)
  rw [lg_entry_eq]
  generalize (lg_sl ([.ref o_Model]) ++ List.replicate (6 - (lg_sl ([.ref o_Model])).length) Slot.unset).toArray = ls at hl ⊢
  have hl : lv_has ls 6 [(0, .ref o_Model)] := hl
  unfold m_Model_slide at h
  refine lv_aload_n hx hb d_Model_slide_0 rfl (lv_at hl 0 rfl) ?_
  obtain ⟨⟨z1_1, z1_2⟩, hc1, h⟩ := dz_ob h
  try dsimp only at h
  have hPc := hP
  have hKc := hK
  have hDc := hD
  have hFc := dz_freeall hD hS hA
  refine va_calli (va_runV (As := []) (rest := []) ⟨hx, hb, hml, hown, hg⟩ (c_Model_settle l dC dI N cB cI o_Model r I F s.heap.size (z1_1, z1_2) hc1) (cwV 0 hg (gd_V k766 k767 k768 k707 k765) rfl rfl rfl (by decide +kernel) ⟨Nat.le_of_ble_eq_true rfl, Nat.le_of_ble_eq_true rfl⟩) ⟨dz_blind, va_recv hKc hPc (ci := 10) (q0 := 0) rfl rfl, fun U hU hW => ⟨rfl, dz_Nw hW hN, by rw [hU], by rw [hU]; exact hPc, va_K.moved hW.alike hKc, hDc.weaken (fun _ _ _ _ => trivial)⟩⟩ rfl rfl hl.1 rfl (lv_room (Nat.le_of_ble_eq_true rfl)) d_Model_slide_1 ⟨Nat.le_of_ble_eq_true rfl, Nat.le_of_ble_eq_true rfl⟩) hS (fun q _ h => hFc q h) hFc (fun r1 u1 t1 H1 locs ht hvm hw hB hz1 hk1 hS => ?_)
  obtain ⟨hP1, hK1, hD1⟩ := hB
  rw [ht] at hP1
  have hP := hP1
  have hD := hD1.weaken (fun _ q _ h => hFc q.1 h)
  have hw : z1_1 = r1 := hw.symm
  subst hw
  generalize H1 = H at hP hS ⊢
  have hP : va_P (dC, dI) classes (wD cB cI o_Model r I z1_2) H := hP
  have hD : va_D A (wD cB cI o_Model r I z1_2) := hD
  refine lv_istore_n (lv' := [(1, .int z1_1), (0, .ref o_Model)]) hx hb d_Model_slide_4 rfl hl (by decide) rfl (fun ls hl => ?_)
  refine lv_iconst (v := 0) hx hb d_Model_slide_5 (by decide) ?_
  refine lv_istore_n (lv' := [(2, .int 0), (1, .int z1_1), (0, .ref o_Model)]) hx hb d_Model_slide_6 rfl hl (by decide) rfl (fun ls hl => ?_)
  refine l_Model_slide_1 dC dI N cB cI o_Model r I z1_1 hx hb hml hown hg hN hK hA (fun v1_2 w1_F H locs ls h hP hD hS hl => ?_) N (0 : Int32) z1_2 _ _ _ h hP hD hS (lv_sub hl [0, 1, 2] rfl)
  refine lv_iconst (v := 0) hx hb d_Model_slide_56 (by decide) ?_
  refine lv_istore_n (lv' := [(2, .int 0), (1, .int z1_1), (0, .ref o_Model)]) hx hb d_Model_slide_57 rfl hl (by decide) rfl (fun ls hl => ?_)
  refine l_Model_slide_3 dC dI N cB cI o_Model r I z1_1 hx hb hml hown hg hN hK hA (fun v3_2 w3_F H locs ls h hP hD hS hl => ?_) N (0 : Int32) w1_F _ _ _ h hP hD hS (lv_sub hl [0, 1, 2] rfl)
  refine lv_iconst (v := 0) hx hb d_Model_slide_115 (by decide) ?_
  refine lv_istore_n (lv' := [(2, .int 0), (1, .int z1_1), (0, .ref o_Model)]) hx hb d_Model_slide_116 rfl hl (by decide) rfl (fun ls hl => ?_)
  refine l_Model_slide_5 dC dI N cB cI o_Model r I z1_1 hx hb hml hown hg hN hK hA (fun v5_2 w5_F H locs ls h hP hD hS hl => ?_) N (0 : Int32) w3_F _ _ _ h hP hD hS (lv_sub hl [0, 1, 2] rfl)
  refine lv_aload_n hx hb d_Model_slide_168 rfl (lv_at hl 2 rfl) ?_
  refine l_Model_slide_7 dC dI N cB cI o_Model r I z1_1 v5_2 w5_F hx hb hml hown hg hN hK hA (fun y7_0 H locs ls h hP hD hS hl => ?_)  _ _ _ h hP hD hS (lv_sub hl [0, 1, 2] rfl)
  refine va_put (D := (dC, dI)) (ci := 10) (v := .int y7_0) (ty := .int) (C := R_Model) (T := F_Model) (N := 54) hx hb hg i_Model t_Model t_Model_ok n_Model hown hK hP hD hS 0 rfl rfl 8 (by decide) (hg _ k729) (fun _ h9 => h9) rfl (by decide +kernel) rfl rfl (Nat.le_of_ble_eq_true rfl) d_Model_slide_193 (fun H locs hP hD hS => ?_)
  obtain ⟨J31, eJ31, h⟩ := dz_lt h
  have hP : va_P (dC, dI) classes (wD cB cI o_Model r J31 w5_F) H := by rw [eJ31]; exact hP
  have hD : va_D A (wD cB cI o_Model r J31 w5_F) := by rw [eJ31]; exact hD
  refine lv_iconst (v := 0) hx hb d_Model_slide_196 (by decide) ?_
  refine lv_istore_n (lv' := [(2, .int 0), (1, .int z1_1), (0, .ref o_Model)]) hx hb d_Model_slide_197 rfl hl (by decide) rfl (fun ls hl => ?_)
  refine l_Model_slide_8 dC dI N cB cI o_Model r z1_1 J31 hx hb hml hown hg hN hK hA (fun v8_2 w8_F H locs ls h hP hD hS hl => ?_) N (0 : Int32) w5_F _ _ _ h hP hD hS (lv_sub hl [0, 1, 2] rfl)
  refine lv_iconst (v := 0) hx hb d_Model_slide_288 (by decide) ?_
  refine lv_istore_n (lv' := [(2, .int 0), (1, .int z1_1), (0, .ref o_Model)]) hx hb d_Model_slide_289 rfl hl (by decide) rfl (fun ls hl => ?_)
  refine l_Model_slide_11 dC dI N cB cI o_Model r z1_1 J31 hx hb hml hown hg hN hK hA (fun v11_2 w11_F H locs ls h hP hD hS hl => ?_) N (0 : Int32) w8_F _ _ _ h hP hD hS (lv_sub hl [0, 1, 2] rfl)
  refine lv_aload_n hx hb d_Model_slide_385 rfl (lv_at hl 2 rfl) ?_
  refine lv_iload_n hx hb d_Model_slide_386 rfl (lv_at hl 1 rfl) ?_
  refine va_put (D := (dC, dI)) (ci := 10) (v := .int z1_1) (ty := .int) (C := R_Model) (T := F_Model) (N := 54) hx hb hg i_Model t_Model t_Model_ok n_Model hown hK hP hD hS 0 rfl rfl 3 (by decide) (hg _ k764) (fun _ h9 => h9) rfl (by decide +kernel) rfl rfl (Nat.le_of_ble_eq_true rfl) d_Model_slide_387 (fun H locs hP hD hS => ?_)
  obtain ⟨J58, eJ58, h⟩ := dz_lt h
  have hP : va_P (dC, dI) classes (wD cB cI o_Model r J58 w11_F) H := by rw [eJ58]; exact hP
  have hD : va_D A (wD cB cI o_Model r J58 w11_F) := by rw [eJ58]; exact hD
  obtain rfl := Option.some.inj h
  have hP9 := hP
  have hD9 := hD
  have hK9 := hK
  exact W.vret hx hb hr (fun t ht hW => ⟨⟨(), rfl, trivial, by rw [ht]; exact hP9, va_K.moved hW.alike hK9, hD9⟩, hS.F ht⟩) hS.2.2 d_Model_slide_390

set_option maxHeartbeats 4000000 in
set_option maxRecDepth 100000 in
theorem c_Model_hasRoom (l : Launch) (dC : Nat → ClassId) (dI : Nat → Nat → Nat) (N : Nat) (cB : ClassId) (cI : ClassId) (o_Model : Nat) (r : Nat → Nat) (I : Nat → Int32) (F : Nat → Nat → Int32) (p0 : Int32) (sz : Nat) (z : Int32 × (Nat → Nat → Int32) × (Nat → Int32)) (h : m_Model_hasRoom N I F p0 = some z) : Met l y_Model_hasRoom (.code y_Model_hasRoom b_Model_hasRoom 2 (some .boolean) :: lw_g) ({ frames := 6, cells := 0, slots := 0, locals := 129 }) (va_Pc [.ref o_Model, .int p0] (fun U => dz_N U ∧ U.heap.size = sz ∧ va_P (dC, dI) classes (wD cB cI o_Model r I F) U.heap ∧ va_K (dC, dI) classes [(cB, .byte), (cI, .int)] U ∧ va_D (fun _ => True) (wD cB cI o_Model r I F))) (va_Qi (fun (r : Int32) (_ : Unit) => r = z.1 ∧ narrow .boolean (.int z.1) = .int z.1 ∧ fits .boolean (.int z.1) = true) (fun (u : Unit) t => va_P (dC, dI) classes (wD cB cI o_Model r z.2.2 z.2.1) t.heap ∧ va_K (dC, dI) classes [(cB, .byte), (cI, .int)] t ∧ va_D (va_A (wD cB cI o_Model r I F) sz) (wD cB cI o_Model r z.2.2 z.2.1)) (va_A (wD cB cI o_Model r I F) sz)) 0 0 (va_A (wD cB cI o_Model r I F) sz) := by
  refine Met.ofW (cc := b_Model_hasRoom) (maxL := 2) (ret := (some .boolean)) (by decide +kernel) rfl ?_
  intro p e s m args below meth c s₁ B hml hv
  obtain ⟨rfl, hN, hsz, hP, hK, hD0⟩ := hv
  have hx := B.exec
  have hb := B.bytes
  have hr := B.returns
  have hg : ∀ w ∈ lw_g, w.before _ s = true := fun w hw => atoms_spec (ws := .code y_Model_hasRoom b_Model_hasRoom 2 (some .boolean) :: lw_g) B.pre w (List.mem_cons_of_mem _ hw)
  have hown : s.vm.findClass R_Model = some m.cls := findClass_of_methodNamed B.named
  have hlocks := B.notSynchronized
  clear B
  subst hsz
  have hD := hD0.self (sz := s.heap.size)
  generalize hAe : va_A (wD cB cI o_Model r I F) s.heap.size = A at hD ⊢
  have hA : ∀ q : Nat, s.heap.size ≤ q → A q := fun q h => by rw [← hAe]; exact Or.inr h
  have hS : va_S A s.heap s.heap [] := va_S.rf
  have hP : va_P (dC, dI) classes (wD cB cI o_Model r I F) s.heap := hP
  have hl := lv_entry ([.ref o_Model, .int p0]) (n := 2) (Nat.le_of_ble_eq_true rfl)
  rw [lg_entry_eq]
  generalize (lg_sl ([.ref o_Model, .int p0]) ++ List.replicate (2 - (lg_sl ([.ref o_Model, .int p0])).length) Slot.unset).toArray = ls at hl ⊢
  have hl : lv_has ls 2 [(0, .ref o_Model), (1, .int p0)] := hl
  unfold m_Model_hasRoom at h
  refine lv_aload_n hx hb d_Model_hasRoom_0 rfl (lv_at hl 0 rfl) ?_
  refine va_get (D := (dC, dI)) (ci := 10) (v := .int (I 3)) (C := R_Model) (T := F_Model) (N := 54) hx hb hg i_Model hown hK hP 0 rfl rfl 3 (by decide) (hg _ k764) (fun _ h9 => h9) rfl d_Model_hasRoom_1 ?_
  refine lv_iload_n hx hb d_Model_hasRoom_4 rfl (lv_at hl 1 rfl) ?_
  refine lv_iadd hx hb d_Model_hasRoom_5 ?_
  refine lv_aload_n hx hb d_Model_hasRoom_6 rfl (lv_at hl 0 rfl) ?_
  refine va_get (D := (dC, dI)) (ci := 10) (v := .int (I 43)) (C := R_Model) (T := F_Model) (N := 54) hx hb hg i_Model hown hK hP 0 rfl rfl 43 (by decide) (hg _ k769) (fun _ h9 => h9) rfl d_Model_hasRoom_7 ?_
  refine lv_icmp_gt (tgt := 26) hx hb d_Model_hasRoom_10 (by decide) (fun c1 => ?_) (fun c1 => ?_)
  · rw [if_pos c1] at h
    refine lv_aload_n hx hb d_Model_hasRoom_26 rfl (lv_at hl 0 rfl) ?_
    obtain ⟨⟨z2_1, z2_2⟩, hc2, h⟩ := dz_ob h
    try dsimp only at h
    have hPc := hP
    have hKc := hK
    have hDc := hD
    have hFc := dz_freeall hD hS hA
    refine va_callv (va_runV (As := []) (rest := []) ⟨hx, hb, hml, hown, hg⟩ (c_Model_markGlobals l dC dI N cB cI o_Model r I F s.heap.size (z2_1, z2_2) hc2) (cwV 0 hg (gd_V k772 k773 k774 k707 k771) rfl rfl rfl (by decide +kernel) ⟨Nat.le_of_ble_eq_true rfl, Nat.le_of_ble_eq_true rfl⟩) ⟨dz_blind, va_recv hKc hPc (ci := 10) (q0 := 0) rfl rfl, fun U hU hW => ⟨rfl, dz_Nw hW hN, by rw [hU], by rw [hU]; exact hPc, va_K.moved hW.alike hKc, hDc.weaken (fun _ _ _ _ => trivial)⟩⟩ rfl rfl hl.1 rfl (lv_room (Nat.le_of_ble_eq_true rfl)) d_Model_hasRoom_27 ⟨Nat.le_of_ble_eq_true rfl, Nat.le_of_ble_eq_true rfl⟩) hS (fun q _ h => hFc q h) hFc (fun u2 t2 H1 locs ht hvm hw hB hz1 hk1 hS => ?_)
    obtain ⟨hP1, hK1, hD1⟩ := hB
    rw [ht] at hP1
    have hP := hP1
    have hD := hD1.weaken (fun _ q _ h => hFc q.1 h)
    generalize H1 = H at hP hS ⊢
    have hP : va_P (dC, dI) classes (wD cB cI o_Model r z2_2 z2_1) H := hP
    have hD : va_D A (wD cB cI o_Model r z2_2 z2_1) := hD
    refine lv_aload_n hx hb d_Model_hasRoom_30 rfl (lv_at hl 0 rfl) ?_
    obtain ⟨⟨z3_1, z3_2⟩, hc3, h⟩ := dz_ob h
    try dsimp only at h
    have hPc := hP
    have hKc := hK
    have hDc := hD
    have hFc := dz_freeall hD hS hA
    refine va_callv (va_runV (As := []) (rest := []) ⟨hx, hb, hml, hown, hg⟩ (c_Model_markRun l dC dI N cB cI o_Model r z2_2 z2_1 H.size (z3_1, z3_2) hc3) (cwV 0 hg (gd_V k776 k777 k778 k707 k775) rfl rfl rfl (by decide +kernel) ⟨Nat.le_of_ble_eq_true rfl, Nat.le_of_ble_eq_true rfl⟩) ⟨dz_blind, va_recv hKc hPc (ci := 10) (q0 := 0) rfl rfl, fun U hU hW => ⟨rfl, dz_Nw hW hN, by rw [hU], by rw [hU]; exact hPc, va_K.moved hW.alike hKc, hDc.weaken (fun _ _ _ _ => trivial)⟩⟩ rfl rfl hl.1 rfl (lv_room (Nat.le_of_ble_eq_true rfl)) d_Model_hasRoom_31 ⟨Nat.le_of_ble_eq_true rfl, Nat.le_of_ble_eq_true rfl⟩) hS (fun q _ h => hFc q h) hFc (fun u3 t3 H1 locs ht hvm hw hB hz1 hk1 hS => ?_)
    obtain ⟨hP1, hK1, hD1⟩ := hB
    rw [ht] at hP1
    have hP := hP1
    have hD := hD1.weaken (fun _ q _ h => hFc q.1 h)
    generalize H1 = H at hP hS ⊢
    have hP : va_P (dC, dI) classes (wD cB cI o_Model r z3_2 z3_1) H := hP
    have hD : va_D A (wD cB cI o_Model r z3_2 z3_1) := hD
    refine lv_aload_n hx hb d_Model_hasRoom_34 rfl (lv_at hl 0 rfl) ?_
    obtain ⟨⟨z4_1, z4_2⟩, hc4, h⟩ := dz_ob h
    try dsimp only at h
    have hPc := hP
    have hKc := hK
    have hDc := hD
    have hFc := dz_freeall hD hS hA
    refine va_callv (va_runV (As := []) (rest := []) ⟨hx, hb, hml, hown, hg⟩ (c_Model_slide l dC dI N cB cI o_Model r z3_2 z3_1 H.size (z4_1, z4_2) hc4) (cwV 0 hg (gd_V k780 k781 k782 k707 k779) rfl rfl rfl (by decide +kernel) ⟨Nat.le_of_ble_eq_true rfl, Nat.le_of_ble_eq_true rfl⟩) ⟨dz_blind, va_recv hKc hPc (ci := 10) (q0 := 0) rfl rfl, fun U hU hW => ⟨rfl, dz_Nw hW hN, by rw [hU], by rw [hU]; exact hPc, va_K.moved hW.alike hKc, hDc.weaken (fun _ _ _ _ => trivial)⟩⟩ rfl rfl hl.1 rfl (lv_room (Nat.le_of_ble_eq_true rfl)) d_Model_hasRoom_35 ⟨Nat.le_of_ble_eq_true rfl, Nat.le_of_ble_eq_true rfl⟩) hS (fun q _ h => hFc q h) hFc (fun u4 t4 H1 locs ht hvm hw hB hz1 hk1 hS => ?_)
    obtain ⟨hP1, hK1, hD1⟩ := hB
    rw [ht] at hP1
    have hP := hP1
    have hD := hD1.weaken (fun _ q _ h => hFc q.1 h)
    generalize H1 = H at hP hS ⊢
    have hP : va_P (dC, dI) classes (wD cB cI o_Model r z4_2 z4_1) H := hP
    have hD : va_D A (wD cB cI o_Model r z4_2 z4_1) := hD
    refine lv_aload_n hx hb d_Model_hasRoom_38 rfl (lv_at hl 0 rfl) ?_
    refine va_get (D := (dC, dI)) (ci := 10) (v := .int (z4_2 3)) (C := R_Model) (T := F_Model) (N := 54) hx hb hg i_Model hown hK hP 0 rfl rfl 3 (by decide) (hg _ k764) (fun _ h9 => h9) rfl d_Model_hasRoom_39 ?_
    refine lv_iload_n hx hb d_Model_hasRoom_42 rfl (lv_at hl 1 rfl) ?_
    refine lv_iadd hx hb d_Model_hasRoom_43 ?_
    refine lv_aload_n hx hb d_Model_hasRoom_44 rfl (lv_at hl 0 rfl) ?_
    refine va_get (D := (dC, dI)) (ci := 10) (v := .int (z4_2 43)) (C := R_Model) (T := F_Model) (N := 54) hx hb hg i_Model hown hK hP 0 rfl rfl 43 (by decide) (hg _ k769) (fun _ h9 => h9) rfl d_Model_hasRoom_45 ?_
    refine lv_icmp_gt (tgt := 55) hx hb d_Model_hasRoom_48 (by decide) (fun c5 => ?_) (fun c5 => ?_)
    · rw [if_pos c5] at h
      refine lv_iconst (v := 0) hx hb d_Model_hasRoom_55 (by decide) ?_
      obtain rfl := Option.some.inj h
      have hP9 := hP
      have hD9 := hD
      have hK9 := hK
      exact W.zret (v := 0) (ty := .boolean) hx hb hr (show narrow .boolean (.int 0) = .int 0 from rfl) (fun t ht hW => ⟨⟨0, (), rfl, ⟨rfl, (show narrow .boolean (.int 0) = .int 0 from rfl), (show fits .boolean (.int 0) = true from rfl)⟩, by rw [ht]; exact hP9, va_K.moved hW.alike hK9, hD9⟩, hS.F ht⟩) hS.2.2 d_Model_hasRoom_56
    · rw [if_neg c5] at h
      refine lv_iconst (v := 1) hx hb d_Model_hasRoom_51 (by decide) ?_
      refine lv_goto (tgt := 56) hx hb d_Model_hasRoom_52 (by decide) ?_
      obtain rfl := Option.some.inj h
      have hP9 := hP
      have hD9 := hD
      have hK9 := hK
      exact W.zret (v := 1) (ty := .boolean) hx hb hr (show narrow .boolean (.int 1) = .int 1 from rfl) (fun t ht hW => ⟨⟨1, (), rfl, ⟨rfl, (show narrow .boolean (.int 1) = .int 1 from rfl), (show fits .boolean (.int 1) = true from rfl)⟩, by rw [ht]; exact hP9, va_K.moved hW.alike hK9, hD9⟩, hS.F ht⟩) hS.2.2 d_Model_hasRoom_56
  · rw [if_neg c1] at h
    refine lv_aload_n hx hb d_Model_hasRoom_13 rfl (lv_at hl 0 rfl) ?_
    refine va_get (D := (dC, dI)) (ci := 10) (v := .int (I 3)) (C := R_Model) (T := F_Model) (N := 54) hx hb hg i_Model hown hK hP 0 rfl rfl 3 (by decide) (hg _ k764) (fun _ h9 => h9) rfl d_Model_hasRoom_14 ?_
    refine lv_iload_n hx hb d_Model_hasRoom_17 rfl (lv_at hl 1 rfl) ?_
    refine lv_iadd hx hb d_Model_hasRoom_18 ?_
    refine lv_ldc (v := 131072) hx hb hown (hg _ k770) d_Model_hasRoom_19 ?_
    refine lv_icmp_gt (tgt := 26) hx hb d_Model_hasRoom_21 (by decide) (fun c6 => ?_) (fun c6 => ?_)
    · rw [if_pos c6] at h
      refine lv_aload_n hx hb d_Model_hasRoom_26 rfl (lv_at hl 0 rfl) ?_
      obtain ⟨⟨z7_1, z7_2⟩, hc7, h⟩ := dz_ob h
      try dsimp only at h
      have hPc := hP
      have hKc := hK
      have hDc := hD
      have hFc := dz_freeall hD hS hA
      refine va_callv (va_runV (As := []) (rest := []) ⟨hx, hb, hml, hown, hg⟩ (c_Model_markGlobals l dC dI N cB cI o_Model r I F s.heap.size (z7_1, z7_2) hc7) (cwV 0 hg (gd_V k772 k773 k774 k707 k771) rfl rfl rfl (by decide +kernel) ⟨Nat.le_of_ble_eq_true rfl, Nat.le_of_ble_eq_true rfl⟩) ⟨dz_blind, va_recv hKc hPc (ci := 10) (q0 := 0) rfl rfl, fun U hU hW => ⟨rfl, dz_Nw hW hN, by rw [hU], by rw [hU]; exact hPc, va_K.moved hW.alike hKc, hDc.weaken (fun _ _ _ _ => trivial)⟩⟩ rfl rfl hl.1 rfl (lv_room (Nat.le_of_ble_eq_true rfl)) d_Model_hasRoom_27 ⟨Nat.le_of_ble_eq_true rfl, Nat.le_of_ble_eq_true rfl⟩) hS (fun q _ h => hFc q h) hFc (fun u7 t7 H1 locs ht hvm hw hB hz1 hk1 hS => ?_)
      obtain ⟨hP1, hK1, hD1⟩ := hB
      rw [ht] at hP1
      have hP := hP1
      have hD := hD1.weaken (fun _ q _ h => hFc q.1 h)
      generalize H1 = H at hP hS ⊢
      have hP : va_P (dC, dI) classes (wD cB cI o_Model r z7_2 z7_1) H := hP
      have hD : va_D A (wD cB cI o_Model r z7_2 z7_1) := hD
      refine lv_aload_n hx hb d_Model_hasRoom_30 rfl (lv_at hl 0 rfl) ?_
      obtain ⟨⟨z8_1, z8_2⟩, hc8, h⟩ := dz_ob h
      try dsimp only at h
      have hPc := hP
      have hKc := hK
      have hDc := hD
      have hFc := dz_freeall hD hS hA
      refine va_callv (va_runV (As := []) (rest := []) ⟨hx, hb, hml, hown, hg⟩ (c_Model_markRun l dC dI N cB cI o_Model r z7_2 z7_1 H.size (z8_1, z8_2) hc8) (cwV 0 hg (gd_V k776 k777 k778 k707 k775) rfl rfl rfl (by decide +kernel) ⟨Nat.le_of_ble_eq_true rfl, Nat.le_of_ble_eq_true rfl⟩) ⟨dz_blind, va_recv hKc hPc (ci := 10) (q0 := 0) rfl rfl, fun U hU hW => ⟨rfl, dz_Nw hW hN, by rw [hU], by rw [hU]; exact hPc, va_K.moved hW.alike hKc, hDc.weaken (fun _ _ _ _ => trivial)⟩⟩ rfl rfl hl.1 rfl (lv_room (Nat.le_of_ble_eq_true rfl)) d_Model_hasRoom_31 ⟨Nat.le_of_ble_eq_true rfl, Nat.le_of_ble_eq_true rfl⟩) hS (fun q _ h => hFc q h) hFc (fun u8 t8 H1 locs ht hvm hw hB hz1 hk1 hS => ?_)
      obtain ⟨hP1, hK1, hD1⟩ := hB
      rw [ht] at hP1
      have hP := hP1
      have hD := hD1.weaken (fun _ q _ h => hFc q.1 h)
      generalize H1 = H at hP hS ⊢
      have hP : va_P (dC, dI) classes (wD cB cI o_Model r z8_2 z8_1) H := hP
      have hD : va_D A (wD cB cI o_Model r z8_2 z8_1) := hD
      refine lv_aload_n hx hb d_Model_hasRoom_34 rfl (lv_at hl 0 rfl) ?_
      obtain ⟨⟨z9_1, z9_2⟩, hc9, h⟩ := dz_ob h
      try dsimp only at h
      have hPc := hP
      have hKc := hK
      have hDc := hD
      have hFc := dz_freeall hD hS hA
      refine va_callv (va_runV (As := []) (rest := []) ⟨hx, hb, hml, hown, hg⟩ (c_Model_slide l dC dI N cB cI o_Model r z8_2 z8_1 H.size (z9_1, z9_2) hc9) (cwV 0 hg (gd_V k780 k781 k782 k707 k779) rfl rfl rfl (by decide +kernel) ⟨Nat.le_of_ble_eq_true rfl, Nat.le_of_ble_eq_true rfl⟩) ⟨dz_blind, va_recv hKc hPc (ci := 10) (q0 := 0) rfl rfl, fun U hU hW => ⟨rfl, dz_Nw hW hN, by rw [hU], by rw [hU]; exact hPc, va_K.moved hW.alike hKc, hDc.weaken (fun _ _ _ _ => trivial)⟩⟩ rfl rfl hl.1 rfl (lv_room (Nat.le_of_ble_eq_true rfl)) d_Model_hasRoom_35 ⟨Nat.le_of_ble_eq_true rfl, Nat.le_of_ble_eq_true rfl⟩) hS (fun q _ h => hFc q h) hFc (fun u9 t9 H1 locs ht hvm hw hB hz1 hk1 hS => ?_)
      obtain ⟨hP1, hK1, hD1⟩ := hB
      rw [ht] at hP1
      have hP := hP1
      have hD := hD1.weaken (fun _ q _ h => hFc q.1 h)
      generalize H1 = H at hP hS ⊢
      have hP : va_P (dC, dI) classes (wD cB cI o_Model r z9_2 z9_1) H := hP
      have hD : va_D A (wD cB cI o_Model r z9_2 z9_1) := hD
      refine lv_aload_n hx hb d_Model_hasRoom_38 rfl (lv_at hl 0 rfl) ?_
      refine va_get (D := (dC, dI)) (ci := 10) (v := .int (z9_2 3)) (C := R_Model) (T := F_Model) (N := 54) hx hb hg i_Model hown hK hP 0 rfl rfl 3 (by decide) (hg _ k764) (fun _ h9 => h9) rfl d_Model_hasRoom_39 ?_
      refine lv_iload_n hx hb d_Model_hasRoom_42 rfl (lv_at hl 1 rfl) ?_
      refine lv_iadd hx hb d_Model_hasRoom_43 ?_
      refine lv_aload_n hx hb d_Model_hasRoom_44 rfl (lv_at hl 0 rfl) ?_
      refine va_get (D := (dC, dI)) (ci := 10) (v := .int (z9_2 43)) (C := R_Model) (T := F_Model) (N := 54) hx hb hg i_Model hown hK hP 0 rfl rfl 43 (by decide) (hg _ k769) (fun _ h9 => h9) rfl d_Model_hasRoom_45 ?_
      refine lv_icmp_gt (tgt := 55) hx hb d_Model_hasRoom_48 (by decide) (fun c10 => ?_) (fun c10 => ?_)
      · rw [if_pos c10] at h
        refine lv_iconst (v := 0) hx hb d_Model_hasRoom_55 (by decide) ?_
        obtain rfl := Option.some.inj h
        have hP9 := hP
        have hD9 := hD
        have hK9 := hK
        exact W.zret (v := 0) (ty := .boolean) hx hb hr (show narrow .boolean (.int 0) = .int 0 from rfl) (fun t ht hW => ⟨⟨0, (), rfl, ⟨rfl, (show narrow .boolean (.int 0) = .int 0 from rfl), (show fits .boolean (.int 0) = true from rfl)⟩, by rw [ht]; exact hP9, va_K.moved hW.alike hK9, hD9⟩, hS.F ht⟩) hS.2.2 d_Model_hasRoom_56
      · rw [if_neg c10] at h
        refine lv_iconst (v := 1) hx hb d_Model_hasRoom_51 (by decide) ?_
        refine lv_goto (tgt := 56) hx hb d_Model_hasRoom_52 (by decide) ?_
        obtain rfl := Option.some.inj h
        have hP9 := hP
        have hD9 := hD
        have hK9 := hK
        exact W.zret (v := 1) (ty := .boolean) hx hb hr (show narrow .boolean (.int 1) = .int 1 from rfl) (fun t ht hW => ⟨⟨1, (), rfl, ⟨rfl, (show narrow .boolean (.int 1) = .int 1 from rfl), (show fits .boolean (.int 1) = true from rfl)⟩, by rw [ht]; exact hP9, va_K.moved hW.alike hK9, hD9⟩, hS.F ht⟩) hS.2.2 d_Model_hasRoom_56
    · rw [if_neg c6] at h
      refine lv_iconst (v := 1) hx hb d_Model_hasRoom_24 (by decide) ?_
      obtain rfl := Option.some.inj h
      have hP9 := hP
      have hD9 := hD
      have hK9 := hK
      exact W.zret (v := 1) (ty := .boolean) hx hb hr (show narrow .boolean (.int 1) = .int 1 from rfl) (fun t ht hW => ⟨⟨1, (), rfl, ⟨rfl, (show narrow .boolean (.int 1) = .int 1 from rfl), (show fits .boolean (.int 1) = true from rfl)⟩, by rw [ht]; exact hP9, va_K.moved hW.alike hK9, hD9⟩, hS.F ht⟩) hS.2.2 d_Model_hasRoom_25

set_option maxHeartbeats 4000000 in
set_option maxRecDepth 100000 in
theorem c_Model_make (l : Launch) (dC : Nat → ClassId) (dI : Nat → Nat → Nat) (N : Nat) (cB : ClassId) (cI : ClassId) (o_Model : Nat) (r : Nat → Nat) (I : Nat → Int32) (F : Nat → Nat → Int32) (p0 : Int32) (p1 : Int32) (p2 : Int32) (p3 : Int32) (sz : Nat) (z : Int32 × (Nat → Nat → Int32) × (Nat → Int32)) (h : m_Model_make N I F p0 p1 p2 p3 = some z) : Met l y_Model_make (.code y_Model_make b_Model_make 6 (some .int) :: lw_g) ({ frames := 0, cells := 0, slots := 0, locals := 0 }) (va_Pc [.ref o_Model, .int p0, .int p1, .int p2, .int p3] (fun U => dz_N U ∧ U.heap.size = sz ∧ va_P (dC, dI) classes (wD cB cI o_Model r I F) U.heap ∧ va_K (dC, dI) classes [(cB, .byte), (cI, .int)] U ∧ va_D (fun _ => True) (wD cB cI o_Model r I F))) (va_Qi (fun (r : Int32) (_ : Unit) => r = z.1) (fun (u : Unit) t => va_P (dC, dI) classes (wD cB cI o_Model r z.2.2 z.2.1) t.heap ∧ va_K (dC, dI) classes [(cB, .byte), (cI, .int)] t ∧ va_D (va_A (wD cB cI o_Model r I F) sz) (wD cB cI o_Model r z.2.2 z.2.1)) (va_A (wD cB cI o_Model r I F) sz)) 0 0 (va_A (wD cB cI o_Model r I F) sz) := by
  refine Met.ofW (cc := b_Model_make) (maxL := 6) (ret := (some .int)) (by decide +kernel) rfl ?_
  intro p e s m args below meth c s₁ B hml hv
  obtain ⟨rfl, hN, hsz, hP, hK, hD0⟩ := hv
  have hx := B.exec
  have hb := B.bytes
  have hr := B.returns
  have hg : ∀ w ∈ lw_g, w.before _ s = true := fun w hw => atoms_spec (ws := .code y_Model_make b_Model_make 6 (some .int) :: lw_g) B.pre w (List.mem_cons_of_mem _ hw)
  have hown : s.vm.findClass R_Model = some m.cls := findClass_of_methodNamed B.named
  have hlocks := B.notSynchronized
  clear B
  subst hsz
  have hD := hD0.self (sz := s.heap.size)
  generalize hAe : va_A (wD cB cI o_Model r I F) s.heap.size = A at hD ⊢
  have hA : ∀ q : Nat, s.heap.size ≤ q → A q := fun q h => by rw [← hAe]; exact Or.inr h
  have hS : va_S A s.heap s.heap [] := va_S.rf
  have hP : va_P (dC, dI) classes (wD cB cI o_Model r I F) s.heap := hP
  have hl := lv_entry ([.ref o_Model, .int p0, .int p1, .int p2, .int p3]) (n := 6) (Nat.le_of_ble_eq_true rfl)
  rw [lg_entry_eq]
  generalize (lg_sl ([.ref o_Model, .int p0, .int p1, .int p2, .int p3]) ++ List.replicate (6 - (lg_sl ([.ref o_Model, .int p0, .int p1, .int p2, .int p3])).length) Slot.unset).toArray = ls at hl ⊢
  have hl : lv_has ls 6 [(0, .ref o_Model), (1, .int p0), (2, .int p1), (3, .int p2), (4, .int p3)] := hl
  unfold m_Model_make at h
  refine lv_aload_n hx hb d_Model_make_0 rfl (lv_at hl 0 rfl) ?_
  refine va_get (D := (dC, dI)) (ci := 10) (v := .int (I 3)) (C := R_Model) (T := F_Model) (N := 54) hx hb hg i_Model hown hK hP 0 rfl rfl 3 (by decide) (hg _ k764) (fun _ h9 => h9) rfl d_Model_make_1 ?_
  refine lv_istore (lv' := [(5, .int (I 3)), (0, .ref o_Model), (1, .int p0), (2, .int p1), (3, .int p2), (4, .int p3)]) hx hb d_Model_make_4 hl (by decide) rfl (fun ls hl => ?_)
  refine lv_aload_n hx hb d_Model_make_6 rfl (lv_at hl 1 rfl) ?_
  refine va_get (D := (dC, dI)) (ci := 10) (v := .ref (r 0)) (C := R_Model) (T := F_Model) (N := 54) hx hb hg i_Model hown hK hP 0 rfl rfl 0 (by decide) (hg _ k737) (fun _ h9 => h9) rfl d_Model_make_7 ?_
  refine lv_iload hx hb d_Model_make_10 (lv_at hl 0 rfl) ?_
  refine lv_iload_n hx hb d_Model_make_12 rfl (lv_at hl 2 rfl) ?_
  refine lv_iload_n hx hb d_Model_make_13 rfl (lv_at hl 3 rfl) ?_
  refine lv_bipush (v := 8) hx hb d_Model_make_14 (by decide) ?_
  refine lv_ishl hx hb d_Model_make_16 ?_
  refine lv_ior hx hb d_Model_make_17 ?_
  obtain ⟨i1, h⟩ := dz_oi h
  refine va_iast (D := (dC, dI)) (f := F 0) hx hb hK hP hD hS 1 1 rfl rfl i1 d_Model_make_18 (fun H locs hP hD hS => ?_)
  obtain ⟨G2, eG2, h⟩ := dz_lt h
  have hP : va_P (dC, dI) classes (wD cB cI o_Model r I G2) H := by rw [eG2]; exact hP
  have hD : va_D A (wD cB cI o_Model r I G2) := by rw [eG2]; exact hD
  refine lv_aload_n hx hb d_Model_make_19 rfl (lv_at hl 1 rfl) ?_
  refine va_get (D := (dC, dI)) (ci := 10) (v := .ref (r 1)) (C := R_Model) (T := F_Model) (N := 54) hx hb hg i_Model hown hK hP 0 rfl rfl 1 (by decide) (hg _ k742) (fun _ h9 => h9) rfl d_Model_make_20 ?_
  refine lv_iload hx hb d_Model_make_23 (lv_at hl 0 rfl) ?_
  refine lv_iload_n hx hb d_Model_make_25 rfl (lv_at hl 4 rfl) ?_
  obtain ⟨i3, h⟩ := dz_oi h
  refine va_iast (D := (dC, dI)) (f := G2 1) hx hb hK hP hD hS 2 1 rfl rfl i3 d_Model_make_26 (fun H locs hP hD hS => ?_)
  obtain ⟨G4, eG4, h⟩ := dz_lt h
  have hP : va_P (dC, dI) classes (wD cB cI o_Model r I G4) H := by rw [eG4]; exact hP
  have hD : va_D A (wD cB cI o_Model r I G4) := by rw [eG4]; exact hD
  refine lv_aload_n hx hb d_Model_make_27 rfl (lv_at hl 1 rfl) ?_
  refine lv_dup hx hb d_Model_make_28 rfl ?_
  refine va_get (D := (dC, dI)) (ci := 10) (v := .int (I 3)) (C := R_Model) (T := F_Model) (N := 54) hx hb hg i_Model hown hK hP 0 rfl rfl 3 (by decide) (hg _ k764) (fun _ h9 => h9) rfl d_Model_make_29 ?_
  refine lv_iload hx hb d_Model_make_32 (lv_at hl 5 rfl) ?_
  refine lv_iadd hx hb d_Model_make_34 ?_
  refine va_put (D := (dC, dI)) (ci := 10) (v := .int ((I 3) + p3)) (ty := .int) (C := R_Model) (T := F_Model) (N := 54) hx hb hg i_Model t_Model t_Model_ok n_Model hown hK hP hD hS 0 rfl rfl 3 (by decide) (hg _ k764) (fun _ h9 => h9) rfl (by decide +kernel) rfl rfl (Nat.le_of_ble_eq_true rfl) d_Model_make_35 (fun H locs hP hD hS => ?_)
  obtain ⟨J5, eJ5, h⟩ := dz_lt h
  have hP : va_P (dC, dI) classes (wD cB cI o_Model r J5 G4) H := by rw [eJ5]; exact hP
  have hD : va_D A (wD cB cI o_Model r J5 G4) := by rw [eJ5]; exact hD
  refine lv_iload hx hb d_Model_make_38 (lv_at hl 0 rfl) ?_
  obtain rfl := Option.some.inj h
  have hP9 := hP
  have hD9 := hD
  have hK9 := hK
  exact W.iret (v := I 3) hx hb hr (fun t ht hW => ⟨⟨I 3, (), rfl, rfl, by rw [ht]; exact hP9, va_K.moved hW.alike hK9, hD9⟩, hS.F ht⟩) hS.2.2 d_Model_make_40

set_option maxHeartbeats 4000000 in
set_option maxRecDepth 100000 in
theorem l_Model_string_1 {p : Program} {l : Launch} {e : Env} {s : State} {m : MethodId} {args : Array Value} {below : List Frame} {meth : Method} {c : Code} {Q : State → Prop} {A : Nat → Prop} (dC : Nat → ClassId) (dI : Nat → Nat → Nat) (N : Nat) (cB : ClassId) (cI : ClassId) (o_Model : Nat) (r : Nat → Nat) (p0 : Int32) (z2_1 : Int32) (z2_3 : Nat → Int32) {ζ : Type} {z : ζ} (hx : p.tables.exec = Jvm.exec) (hb : c.code = b_Model_string) (hml : c.maxLocals = 4) (hown : s.vm.findClass R_Model = some m.cls) (hg : ∀ w ∈ lw_g, w.before args s = true) (hN : dz_N s) (hK : va_K (dC, dI) classes [(cB, .byte), (cI, .int)] s) (hA : ∀ q : Nat, s.heap.size ≤ q → A q) {k1_51 : Int32 → (Nat → Nat → Int32) → Option (ζ)} (hk1_51 : ∀ (v1_3 : Int32) (w1_F : (Nat → Nat → Int32))    (H : Heap) (locs : List Loc) (ls : Array Slot), k1_51 v1_3 w1_F = some z → va_P (dC, dI) classes (wD cB cI o_Model r z2_3 w1_F) H → va_D A (wD cB cI o_Model r z2_3 w1_F) → va_S A s.heap H locs → lv_has ls 4 [(3, .int v1_3), (2, .int z2_1), (0, .ref o_Model), (1, .int p0)] → W p l e ({ frames := 1, cells := 0, slots := 0, locals := 25 } : Room) s m args below meth c H locs 0 0 Q (F0 m 51 ls [])) : ∀ (n1 : Nat) (v1_3 : Int32) (w1_F : (Nat → Nat → Int32))   (H : Heap) (locs : List Loc) (ls : Array Slot), lm_Model_string_1 N p0 z2_1 k1_51 n1 v1_3 w1_F = some z → va_P (dC, dI) classes (wD cB cI o_Model r z2_3 w1_F) H → va_D A (wD cB cI o_Model r z2_3 w1_F) → va_S A s.heap H locs → lv_has ls 4 [(3, .int v1_3), (2, .int z2_1), (0, .ref o_Model), (1, .int p0)] → W p l e ({ frames := 1, cells := 0, slots := 0, locals := 25 } : Room) s m args below meth c H locs 0 0 Q (F0 m 18 ls []) := by
  intro n1
  induction n1 with
  | zero =>
    intro v1_3 w1_F H locs ls h hP hD hS hl
    rw [lm_Model_string_1] at h
    cases h
  | succ n1 ih1 =>
    intro v1_3 w1_F H locs ls h hP hD hS hl
    rw [lm_Model_string_1] at h
    refine lv_iload_n hx hb d_Model_string_18 rfl (lv_at hl 0 rfl) ?_
    refine lv_iload_n hx hb d_Model_string_19 rfl (lv_at hl 3 rfl) ?_
    refine lv_iconst (v := 3) hx hb d_Model_string_20 (by decide) ?_
    refine lv_iadd hx hb d_Model_string_21 ?_
    refine lv_iconst (v := 4) hx hb d_Model_string_22 (by decide) ?_
    refine lv_idiv hx hb d_Model_string_23 (by decide) ?_
    refine lv_icmp_gt (tgt := 51) hx hb d_Model_string_24 (by decide) (fun c4 => ?_) (fun c4 => ?_)
    · rw [if_pos c4] at h
      exact hk1_51 v1_3 w1_F _ _ _ h hP hD hS (lv_sub hl [0, 1, 2, 3] rfl)
    · rw [if_neg c4] at h
      refine lv_aload_n hx hb d_Model_string_27 rfl (lv_at hl 2 rfl) ?_
      refine va_get (D := (dC, dI)) (ci := 10) (v := .ref (r 0)) (C := R_Model) (T := F_Model) (N := 54) hx hb hg i_Model hown hK hP 0 rfl rfl 0 (by decide) (hg _ k737) (fun _ h9 => h9) rfl d_Model_string_28 ?_
      refine lv_iload_n hx hb d_Model_string_31 rfl (lv_at hl 1 rfl) ?_
      refine lv_iload_n hx hb d_Model_string_32 rfl (lv_at hl 0 rfl) ?_
      refine lv_iadd hx hb d_Model_string_33 ?_
      refine lv_iconst (v := 0) hx hb d_Model_string_34 (by decide) ?_
      obtain ⟨i5, h⟩ := dz_oi h
      refine va_iast (D := (dC, dI)) (f := w1_F 0) hx hb hK hP hD hS 1 1 rfl rfl i5 d_Model_string_35 (fun H locs hP hD hS => ?_)
      obtain ⟨G6, eG6, h⟩ := dz_lt h
      have hP : va_P (dC, dI) classes (wD cB cI o_Model r z2_3 G6) H := by rw [eG6]; exact hP
      have hD : va_D A (wD cB cI o_Model r z2_3 G6) := by rw [eG6]; exact hD
      refine lv_aload_n hx hb d_Model_string_36 rfl (lv_at hl 2 rfl) ?_
      refine va_get (D := (dC, dI)) (ci := 10) (v := .ref (r 1)) (C := R_Model) (T := F_Model) (N := 54) hx hb hg i_Model hown hK hP 0 rfl rfl 1 (by decide) (hg _ k742) (fun _ h9 => h9) rfl d_Model_string_37 ?_
      refine lv_iload_n hx hb d_Model_string_40 rfl (lv_at hl 1 rfl) ?_
      refine lv_iload_n hx hb d_Model_string_41 rfl (lv_at hl 0 rfl) ?_
      refine lv_iadd hx hb d_Model_string_42 ?_
      refine lv_iconst (v := 0) hx hb d_Model_string_43 (by decide) ?_
      obtain ⟨i7, h⟩ := dz_oi h
      refine va_iast (D := (dC, dI)) (f := G6 1) hx hb hK hP hD hS 2 1 rfl rfl i7 d_Model_string_44 (fun H locs hP hD hS => ?_)
      obtain ⟨G8, eG8, h⟩ := dz_lt h
      have hP : va_P (dC, dI) classes (wD cB cI o_Model r z2_3 G8) H := by rw [eG8]; exact hP
      have hD : va_D A (wD cB cI o_Model r z2_3 G8) := by rw [eG8]; exact hD
      refine lv_iinc (v := v1_3 + 1) (lv' := [(3, .int (v1_3 + 1)), (2, .int z2_1), (0, .ref o_Model), (1, .int p0)]) hx hb d_Model_string_45 hl (k := 0) rfl rfl (by decide) rfl (fun ls hl => ?_)
      refine lv_goto (tgt := 18) hx hb d_Model_string_48 (by decide) ?_
      exact ih1 (v1_3 + 1) G8 _ _ _ h hP hD hS (lv_sub hl [0, 1, 2, 3] rfl)
set_option maxHeartbeats 4000000 in
set_option maxRecDepth 100000 in
theorem c_Model_string (l : Launch) (dC : Nat → ClassId) (dI : Nat → Nat → Nat) (N : Nat) (cB : ClassId) (cI : ClassId) (o_Model : Nat) (r : Nat → Nat) (I : Nat → Int32) (F : Nat → Nat → Int32) (p0 : Int32) (sz : Nat) (z : Int32 × (Nat → Nat → Int32) × (Nat → Int32)) (h : m_Model_string N I F p0 = some z) : Met l y_Model_string (.code y_Model_string b_Model_string 4 (some .int) :: lw_g) ({ frames := 1, cells := 0, slots := 0, locals := 25 }) (va_Pc [.ref o_Model, .int p0] (fun U => dz_N U ∧ U.heap.size = sz ∧ va_P (dC, dI) classes (wD cB cI o_Model r I F) U.heap ∧ va_K (dC, dI) classes [(cB, .byte), (cI, .int)] U ∧ va_D (fun _ => True) (wD cB cI o_Model r I F))) (va_Qi (fun (r : Int32) (_ : Unit) => r = z.1) (fun (u : Unit) t => va_P (dC, dI) classes (wD cB cI o_Model r z.2.2 z.2.1) t.heap ∧ va_K (dC, dI) classes [(cB, .byte), (cI, .int)] t ∧ va_D (va_A (wD cB cI o_Model r I F) sz) (wD cB cI o_Model r z.2.2 z.2.1)) (va_A (wD cB cI o_Model r I F) sz)) 0 0 (va_A (wD cB cI o_Model r I F) sz) := by
  refine Met.ofW (cc := b_Model_string) (maxL := 4) (ret := (some .int)) (by decide +kernel) rfl ?_
  intro p e s m args below meth c s₁ B hml hv
  obtain ⟨rfl, hN, hsz, hP, hK, hD0⟩ := hv
  have hx := B.exec
  have hb := B.bytes
  have hr := B.returns
  have hg : ∀ w ∈ lw_g, w.before _ s = true := fun w hw => atoms_spec (ws := .code y_Model_string b_Model_string 4 (some .int) :: lw_g) B.pre w (List.mem_cons_of_mem _ hw)
  have hown : s.vm.findClass R_Model = some m.cls := findClass_of_methodNamed B.named
  have hlocks := B.notSynchronized
  clear B
  subst hsz
  have hD := hD0.self (sz := s.heap.size)
  generalize hAe : va_A (wD cB cI o_Model r I F) s.heap.size = A at hD ⊢
  have hA : ∀ q : Nat, s.heap.size ≤ q → A q := fun q h => by rw [← hAe]; exact Or.inr h
  have hS : va_S A s.heap s.heap [] := va_S.rf
  have hP : va_P (dC, dI) classes (wD cB cI o_Model r I F) s.heap := hP
  have hl := lv_entry ([.ref o_Model, .int p0]) (n := 4) (Nat.le_of_ble_eq_true rfl)
  rw [lg_entry_eq]
  generalize (lg_sl ([.ref o_Model, .int p0]) ++ List.replicate (4 - (lg_sl ([.ref o_Model, .int p0])).length) Slot.unset).toArray = ls at hl ⊢
  have hl : lv_has ls 4 [(0, .ref o_Model), (1, .int p0)] := hl
  unfold m_Model_string at h
  refine lv_aload_n hx hb d_Model_string_0 rfl (lv_at hl 0 rfl) ?_
  refine lv_bipush (v := 6) hx hb d_Model_string_1 (by decide) ?_
  refine lv_iconst (v := 0) hx hb d_Model_string_3 (by decide) ?_
  refine lv_iload_n hx hb d_Model_string_4 rfl (lv_at hl 1 rfl) ?_
  refine lv_iconst (v := 1) hx hb d_Model_string_5 (by decide) ?_
  refine lv_iload_n hx hb d_Model_string_6 rfl (lv_at hl 1 rfl) ?_
  refine lv_iconst (v := 3) hx hb d_Model_string_7 (by decide) ?_
  refine lv_iadd hx hb d_Model_string_8 ?_
  refine lv_iconst (v := 4) hx hb d_Model_string_9 (by decide) ?_
  refine lv_idiv hx hb d_Model_string_10 (by decide) ?_
  refine lv_iadd hx hb d_Model_string_11 ?_
  obtain ⟨⟨z2_1, z2_2, z2_3⟩, hc2, h⟩ := dz_ob h
  try dsimp only at h
  have hPc := hP
  have hKc := hK
  have hDc := hD
  have hFc := dz_freeall hD hS hA
  refine va_calli (va_runV (As := [.int 6, .int 0, .int p0, .int (1 + ((p0 + 3) / 4))]) (rest := []) ⟨hx, hb, hml, hown, hg⟩ (c_Model_make l dC dI N cB cI o_Model r I F (6 : Int32) (0 : Int32) p0 (1 + ((p0 + 3) / 4)) s.heap.size (z2_1, z2_2, z2_3) hc2) (cwV 4 hg (gd_V k784 k785 k786 k707 k783) rfl rfl rfl (by decide +kernel) ⟨Nat.le_of_ble_eq_true rfl, Nat.le_of_ble_eq_true rfl⟩) ⟨dz_blind, va_recv hKc hPc (ci := 10) (q0 := 0) rfl rfl, fun U hU hW => ⟨rfl, dz_Nw hW hN, by rw [hU], by rw [hU]; exact hPc, va_K.moved hW.alike hKc, hDc.weaken (fun _ _ _ _ => trivial)⟩⟩ rfl rfl hl.1 rfl (lv_room (Nat.le_of_ble_eq_true rfl)) d_Model_string_12 ⟨Nat.le_of_ble_eq_true rfl, Nat.le_of_ble_eq_true rfl⟩) hS (fun q _ h => hFc q h) hFc (fun r2 u2 t2 H1 locs ht hvm hw hB hz1 hk1 hS => ?_)
  obtain ⟨hP1, hK1, hD1⟩ := hB
  rw [ht] at hP1
  have hP := hP1
  have hD := hD1.weaken (fun _ q _ h => hFc q.1 h)
  have hw : z2_1 = r2 := hw.symm
  subst hw
  generalize H1 = H at hP hS ⊢
  have hP : va_P (dC, dI) classes (wD cB cI o_Model r z2_3 z2_2) H := hP
  have hD : va_D A (wD cB cI o_Model r z2_3 z2_2) := hD
  refine lv_istore_n (lv' := [(2, .int z2_1), (0, .ref o_Model), (1, .int p0)]) hx hb d_Model_string_15 rfl hl (by decide) rfl (fun ls hl => ?_)
  refine lv_iconst (v := 1) hx hb d_Model_string_16 (by decide) ?_
  refine lv_istore_n (lv' := [(3, .int 1), (2, .int z2_1), (0, .ref o_Model), (1, .int p0)]) hx hb d_Model_string_17 rfl hl (by decide) rfl (fun ls hl => ?_)
  refine l_Model_string_1 dC dI N cB cI o_Model r p0 z2_1 z2_3 hx hb hml hown hg hN hK hA (fun v1_3 w1_F H locs ls h hP hD hS hl => ?_) N (1 : Int32) z2_2 _ _ _ h hP hD hS (lv_sub hl [0, 1, 2, 3] rfl)
  refine lv_iload_n hx hb d_Model_string_51 rfl (lv_at hl 1 rfl) ?_
  obtain rfl := Option.some.inj h
  have hP9 := hP
  have hD9 := hD
  have hK9 := hK
  exact W.iret (v := z2_1) hx hb hr (fun t ht hW => ⟨⟨z2_1, (), rfl, rfl, by rw [ht]; exact hP9, va_K.moved hW.alike hK9, hD9⟩, hS.F ht⟩) hS.2.2 d_Model_string_52

set_option maxHeartbeats 4000000 in
set_option maxRecDepth 100000 in
theorem c_Model_setByte (l : Launch) (dC : Nat → ClassId) (dI : Nat → Nat → Nat) (N : Nat) (cB : ClassId) (cI : ClassId) (o_Model : Nat) (r : Nat → Nat) (I : Nat → Int32) (F : Nat → Nat → Int32) (p0 : Int32) (p1 : Int32) (p2 : Int32) (sz : Nat) (z : (Nat → Nat → Int32)) (h : m_Model_setByte N I F p0 p1 p2 = some z) : Met l y_Model_setByte (.code y_Model_setByte b_Model_setByte 4 none :: lw_g) ({ frames := 0, cells := 0, slots := 0, locals := 0 }) (va_Pc [.ref o_Model, .int p0, .int p1, .int p2] (fun U => dz_N U ∧ U.heap.size = sz ∧ va_P (dC, dI) classes (wD cB cI o_Model r I F) U.heap ∧ va_K (dC, dI) classes [(cB, .byte), (cI, .int)] U ∧ va_D (fun _ => True) (wD cB cI o_Model r I F))) (va_Qv (fun (_ : Unit) => True) (fun (u : Unit) t => va_P (dC, dI) classes (wD cB cI o_Model r I z) t.heap ∧ va_K (dC, dI) classes [(cB, .byte), (cI, .int)] t ∧ va_D (va_A (wD cB cI o_Model r I F) sz) (wD cB cI o_Model r I z)) (va_A (wD cB cI o_Model r I F) sz)) 0 0 (va_A (wD cB cI o_Model r I F) sz) := by
  refine Met.ofW (cc := b_Model_setByte) (maxL := 4) (ret := none) (by decide +kernel) rfl ?_
  intro p e s m args below meth c s₁ B hml hv
  obtain ⟨rfl, hN, hsz, hP, hK, hD0⟩ := hv
  have hx := B.exec
  have hb := B.bytes
  have hr := B.returns
  have hg : ∀ w ∈ lw_g, w.before _ s = true := fun w hw => atoms_spec (ws := .code y_Model_setByte b_Model_setByte 4 none :: lw_g) B.pre w (List.mem_cons_of_mem _ hw)
  have hown : s.vm.findClass R_Model = some m.cls := findClass_of_methodNamed B.named
  have hlocks := B.notSynchronized
  clear B
  subst hsz
  have hD := hD0.self (sz := s.heap.size)
  generalize hAe : va_A (wD cB cI o_Model r I F) s.heap.size = A at hD ⊢
  have hA : ∀ q : Nat, s.heap.size ≤ q → A q := fun q h => by rw [← hAe]; exact Or.inr h
  have hS : va_S A s.heap s.heap [] := va_S.rf
  have hP : va_P (dC, dI) classes (wD cB cI o_Model r I F) s.heap := hP
  have hl := lv_entry ([.ref o_Model, .int p0, .int p1, .int p2]) (n := 4) (Nat.le_of_ble_eq_true rfl)
  rw [lg_entry_eq]
  generalize (lg_sl ([.ref o_Model, .int p0, .int p1, .int p2]) ++ List.replicate (4 - (lg_sl ([.ref o_Model, .int p0, .int p1, .int p2])).length) Slot.unset).toArray = ls at hl ⊢
  have hl : lv_has ls 4 [(0, .ref o_Model), (1, .int p0), (2, .int p1), (3, .int p2)] := hl
  unfold m_Model_setByte at h
  refine lv_aload_n hx hb d_Model_setByte_0 rfl (lv_at hl 0 rfl) ?_
  refine va_get (D := (dC, dI)) (ci := 10) (v := .ref (r 1)) (C := R_Model) (T := F_Model) (N := 54) hx hb hg i_Model hown hK hP 0 rfl rfl 1 (by decide) (hg _ k742) (fun _ h9 => h9) rfl d_Model_setByte_1 ?_
  refine lv_iload_n hx hb d_Model_setByte_4 rfl (lv_at hl 1 rfl) ?_
  refine lv_iconst (v := 1) hx hb d_Model_setByte_5 (by decide) ?_
  refine lv_iadd hx hb d_Model_setByte_6 ?_
  refine lv_iload_n hx hb d_Model_setByte_7 rfl (lv_at hl 2 rfl) ?_
  refine lv_iconst (v := 4) hx hb d_Model_setByte_8 (by decide) ?_
  refine lv_idiv hx hb d_Model_setByte_9 (by decide) ?_
  refine lv_iadd hx hb d_Model_setByte_10 ?_
  refine lv_dup2_11 hx hb d_Model_setByte_11 rfl rfl ?_
  obtain ⟨i2, h⟩ := dz_oi h
  refine va_iald (D := (dC, dI)) (f := F 1) hx hb hK hP 2 1 rfl rfl i2 d_Model_setByte_12 ?_
  refine lv_iload_n hx hb d_Model_setByte_13 rfl (lv_at hl 3 rfl) ?_
  refine lv_sipush (v := 255) hx hb d_Model_setByte_14 (by decide) ?_
  refine lv_iand hx hb d_Model_setByte_17 ?_
  refine lv_bipush (v := 8) hx hb d_Model_setByte_18 (by decide) ?_
  refine lv_iload_n hx hb d_Model_setByte_20 rfl (lv_at hl 2 rfl) ?_
  refine lv_iconst (v := 4) hx hb d_Model_setByte_21 (by decide) ?_
  refine lv_irem hx hb d_Model_setByte_22 (by decide) ?_
  refine lv_imul hx hb d_Model_setByte_23 ?_
  refine lv_ishl hx hb d_Model_setByte_24 ?_
  refine lv_ior hx hb d_Model_setByte_25 ?_
  obtain ⟨x4, ex4, h⟩ := dz_lt h
  refine dz_topi ex4 ?_
  obtain ⟨i5, h⟩ := dz_oi h
  refine va_iast (D := (dC, dI)) (f := F 1) hx hb hK hP hD hS 2 1 rfl rfl i5 d_Model_setByte_26 (fun H locs hP hD hS => ?_)
  obtain ⟨G6, eG6, h⟩ := dz_lt h
  have hP : va_P (dC, dI) classes (wD cB cI o_Model r I G6) H := by rw [eG6]; exact hP
  have hD : va_D A (wD cB cI o_Model r I G6) := by rw [eG6]; exact hD
  obtain rfl := Option.some.inj h
  have hP9 := hP
  have hD9 := hD
  have hK9 := hK
  exact W.vret hx hb hr (fun t ht hW => ⟨⟨(), rfl, trivial, by rw [ht]; exact hP9, va_K.moved hW.alike hK9, hD9⟩, hS.F ht⟩) hS.2.2 d_Model_setByte_27
