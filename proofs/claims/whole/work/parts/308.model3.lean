theorem d_Model_text_0 : decode b_Model_text 0 = .ok (.iload_n 1, 1) := by decide +kernel
theorem d_Model_text_1 : decode b_Model_text 1 = .ok (.ifCond .lt 11, 3) := by decide +kernel
theorem d_Model_text_4 : decode b_Model_text 4 = .ok (.iload_n 1, 1) := by decide +kernel
theorem d_Model_text_5 : decode b_Model_text 5 = .ok (.aload_n 0, 1) := by decide +kernel
theorem d_Model_text_6 : decode b_Model_text 6 = .ok (.getfield 179, 3) := by decide +kernel
theorem d_Model_text_9 : decode b_Model_text 9 = .ok (.if_icmp .lt 5, 3) := by decide +kernel
theorem d_Model_text_12 : decode b_Model_text 12 = .ok (.iconst 4, 1) := by decide +kernel
theorem d_Model_text_13 : decode b_Model_text 13 = .ok (.ireturn, 1) := by decide +kernel
theorem d_Model_text_14 : decode b_Model_text 14 = .ok (.aload_n 0, 1) := by decide +kernel
theorem d_Model_text_15 : decode b_Model_text 15 = .ok (.getfield 47, 3) := by decide +kernel
theorem d_Model_text_18 : decode b_Model_text 18 = .ok (.iload_n 1, 1) := by decide +kernel
theorem d_Model_text_19 : decode b_Model_text 19 = .ok (.iconst 1, 1) := by decide +kernel
theorem d_Model_text_20 : decode b_Model_text 20 = .ok (.iadd, 1) := by decide +kernel
theorem d_Model_text_21 : decode b_Model_text 21 = .ok (.iaload, 1) := by decide +kernel
theorem d_Model_text_22 : decode b_Model_text 22 = .ok (.aload_n 0, 1) := by decide +kernel
theorem d_Model_text_23 : decode b_Model_text 23 = .ok (.getfield 47, 3) := by decide +kernel
theorem d_Model_text_26 : decode b_Model_text 26 = .ok (.iload_n 1, 1) := by decide +kernel
theorem d_Model_text_27 : decode b_Model_text 27 = .ok (.iaload, 1) := by decide +kernel
theorem d_Model_text_28 : decode b_Model_text 28 = .ok (.isub, 1) := by decide +kernel
theorem d_Model_text_29 : decode b_Model_text 29 = .ok (.istore_n 2, 1) := by decide +kernel
theorem d_Model_text_30 : decode b_Model_text 30 = .ok (.aload_n 0, 1) := by decide +kernel
theorem d_Model_text_31 : decode b_Model_text 31 = .ok (.getfield 135, 3) := by decide +kernel
theorem d_Model_text_34 : decode b_Model_text 34 = .ok (.ldc 62, 2) := by decide +kernel
theorem d_Model_text_36 : decode b_Model_text 36 = .ok (.if_icmp .eq 17, 3) := by decide +kernel
theorem d_Model_text_39 : decode b_Model_text 39 = .ok (.aload_n 0, 1) := by decide +kernel
theorem d_Model_text_40 : decode b_Model_text 40 = .ok (.iconst 1, 1) := by decide +kernel
theorem d_Model_text_41 : decode b_Model_text 41 = .ok (.iload_n 2, 1) := by decide +kernel
theorem d_Model_text_42 : decode b_Model_text 42 = .ok (.iconst 3, 1) := by decide +kernel
theorem d_Model_text_43 : decode b_Model_text 43 = .ok (.iadd, 1) := by decide +kernel
theorem d_Model_text_44 : decode b_Model_text 44 = .ok (.iconst 4, 1) := by decide +kernel
theorem d_Model_text_45 : decode b_Model_text 45 = .ok (.idiv, 1) := by decide +kernel
theorem d_Model_text_46 : decode b_Model_text 46 = .ok (.iadd, 1) := by decide +kernel
theorem d_Model_text_47 : decode b_Model_text 47 = .ok (.invokevirtual 167, 3) := by decide +kernel
theorem d_Model_text_50 : decode b_Model_text 50 = .ok (.ifCond .ne 5, 3) := by decide +kernel
theorem d_Model_text_53 : decode b_Model_text 53 = .ok (.iconst 3, 1) := by decide +kernel
theorem d_Model_text_54 : decode b_Model_text 54 = .ok (.ireturn, 1) := by decide +kernel
theorem d_Model_text_55 : decode b_Model_text 55 = .ok (.aload_n 0, 1) := by decide +kernel
theorem d_Model_text_56 : decode b_Model_text 56 = .ok (.iload_n 2, 1) := by decide +kernel
theorem d_Model_text_57 : decode b_Model_text 57 = .ok (.invokevirtual 311, 3) := by decide +kernel
theorem d_Model_text_60 : decode b_Model_text 60 = .ok (.istore_n 3, 1) := by decide +kernel
theorem d_Model_text_61 : decode b_Model_text 61 = .ok (.iconst 0, 1) := by decide +kernel
theorem d_Model_text_62 : decode b_Model_text 62 = .ok (.istore 4, 2) := by decide +kernel
theorem d_Model_text_64 : decode b_Model_text 64 = .ok (.iload 4, 2) := by decide +kernel
theorem d_Model_text_66 : decode b_Model_text 66 = .ok (.iload_n 2, 1) := by decide +kernel
theorem d_Model_text_67 : decode b_Model_text 67 = .ok (.if_icmp .ge 30, 3) := by decide +kernel
theorem d_Model_text_70 : decode b_Model_text 70 = .ok (.aload_n 0, 1) := by decide +kernel
theorem d_Model_text_71 : decode b_Model_text 71 = .ok (.iload_n 3, 1) := by decide +kernel
theorem d_Model_text_72 : decode b_Model_text 72 = .ok (.iload 4, 2) := by decide +kernel
theorem d_Model_text_74 : decode b_Model_text 74 = .ok (.aload_n 0, 1) := by decide +kernel
theorem d_Model_text_75 : decode b_Model_text 75 = .ok (.getfield 43, 3) := by decide +kernel
theorem d_Model_text_78 : decode b_Model_text 78 = .ok (.aload_n 0, 1) := by decide +kernel
theorem d_Model_text_79 : decode b_Model_text 79 = .ok (.getfield 47, 3) := by decide +kernel
theorem d_Model_text_82 : decode b_Model_text 82 = .ok (.iload_n 1, 1) := by decide +kernel
theorem d_Model_text_83 : decode b_Model_text 83 = .ok (.iaload, 1) := by decide +kernel
theorem d_Model_text_84 : decode b_Model_text 84 = .ok (.iload 4, 2) := by decide +kernel
theorem d_Model_text_86 : decode b_Model_text 86 = .ok (.iadd, 1) := by decide +kernel
theorem d_Model_text_87 : decode b_Model_text 87 = .ok (.baload, 1) := by decide +kernel
theorem d_Model_text_88 : decode b_Model_text 88 = .ok (.invokevirtual 314, 3) := by decide +kernel
theorem d_Model_text_91 : decode b_Model_text 91 = .ok (.iinc 4 1, 3) := by decide +kernel
theorem d_Model_text_94 : decode b_Model_text 94 = .ok (.goto (-30), 3) := by decide +kernel
theorem d_Model_text_97 : decode b_Model_text 97 = .ok (.aload_n 0, 1) := by decide +kernel
theorem d_Model_text_98 : decode b_Model_text 98 = .ok (.iconst 0, 1) := by decide +kernel
theorem d_Model_text_99 : decode b_Model_text 99 = .ok (.iconst 2, 1) := by decide +kernel
theorem d_Model_text_100 : decode b_Model_text 100 = .ok (.iload_n 3, 1) := by decide +kernel
theorem d_Model_text_101 : decode b_Model_text 101 = .ok (.invokevirtual 207, 3) := by decide +kernel
theorem d_Model_text_104 : decode b_Model_text 104 = .ok (.ireturn, 1) := by decide +kernel
theorem d_Model_store_0 : decode b_Model_store 0 = .ok (.iload_n 1, 1) := by decide +kernel
theorem d_Model_store_1 : decode b_Model_store 1 = .ok (.ifCond .lt 18, 3) := by decide +kernel
theorem d_Model_store_4 : decode b_Model_store 4 = .ok (.iload_n 1, 1) := by decide +kernel
theorem d_Model_store_5 : decode b_Model_store 5 = .ok (.aload_n 0, 1) := by decide +kernel
theorem d_Model_store_6 : decode b_Model_store 6 = .ok (.getfield 56, 3) := by decide +kernel
theorem d_Model_store_9 : decode b_Model_store 9 = .ok (.aload_n 0, 1) := by decide +kernel
theorem d_Model_store_10 : decode b_Model_store 10 = .ok (.getfield 142, 3) := by decide +kernel
theorem d_Model_store_13 : decode b_Model_store 13 = .ok (.iconst 1, 1) := by decide +kernel
theorem d_Model_store_14 : decode b_Model_store 14 = .ok (.isub, 1) := by decide +kernel
theorem d_Model_store_15 : decode b_Model_store 15 = .ok (.iaload, 1) := by decide +kernel
theorem d_Model_store_16 : decode b_Model_store 16 = .ok (.if_icmp .lt 5, 3) := by decide +kernel
theorem d_Model_store_19 : decode b_Model_store 19 = .ok (.iconst 4, 1) := by decide +kernel
theorem d_Model_store_20 : decode b_Model_store 20 = .ok (.ireturn, 1) := by decide +kernel
theorem d_Model_store_21 : decode b_Model_store 21 = .ok (.aload_n 0, 1) := by decide +kernel
theorem d_Model_store_22 : decode b_Model_store 22 = .ok (.dup, 1) := by decide +kernel
theorem d_Model_store_23 : decode b_Model_store 23 = .ok (.getfield 135, 3) := by decide +kernel
theorem d_Model_store_26 : decode b_Model_store 26 = .ok (.iconst 1, 1) := by decide +kernel
theorem d_Model_store_27 : decode b_Model_store 27 = .ok (.isub, 1) := by decide +kernel
theorem d_Model_store_28 : decode b_Model_store 28 = .ok (.putfield 135, 3) := by decide +kernel
theorem d_Model_store_31 : decode b_Model_store 31 = .ok (.aload_n 0, 1) := by decide +kernel
theorem d_Model_store_32 : decode b_Model_store 32 = .ok (.getfield 63, 3) := by decide +kernel
theorem d_Model_store_35 : decode b_Model_store 35 = .ok (.aload_n 0, 1) := by decide +kernel
theorem d_Model_store_36 : decode b_Model_store 36 = .ok (.getfield 53, 3) := by decide +kernel
theorem d_Model_store_39 : decode b_Model_store 39 = .ok (.aload_n 0, 1) := by decide +kernel
theorem d_Model_store_40 : decode b_Model_store 40 = .ok (.getfield 142, 3) := by decide +kernel
theorem d_Model_store_43 : decode b_Model_store 43 = .ok (.iconst 1, 1) := by decide +kernel
theorem d_Model_store_44 : decode b_Model_store 44 = .ok (.isub, 1) := by decide +kernel
theorem d_Model_store_45 : decode b_Model_store 45 = .ok (.iaload, 1) := by decide +kernel
theorem d_Model_store_46 : decode b_Model_store 46 = .ok (.iload_n 1, 1) := by decide +kernel
theorem d_Model_store_47 : decode b_Model_store 47 = .ok (.iadd, 1) := by decide +kernel
theorem d_Model_store_48 : decode b_Model_store 48 = .ok (.aload_n 0, 1) := by decide +kernel
theorem d_Model_store_49 : decode b_Model_store 49 = .ok (.getfield 63, 3) := by decide +kernel
theorem d_Model_store_52 : decode b_Model_store 52 = .ok (.aload_n 0, 1) := by decide +kernel
theorem d_Model_store_53 : decode b_Model_store 53 = .ok (.getfield 135, 3) := by decide +kernel
theorem d_Model_store_56 : decode b_Model_store 56 = .ok (.iaload, 1) := by decide +kernel
theorem d_Model_store_57 : decode b_Model_store 57 = .ok (.iastore, 1) := by decide +kernel
theorem d_Model_store_58 : decode b_Model_store 58 = .ok (.aload_n 0, 1) := by decide +kernel
theorem d_Model_store_59 : decode b_Model_store 59 = .ok (.getfield 66, 3) := by decide +kernel
theorem d_Model_store_62 : decode b_Model_store 62 = .ok (.aload_n 0, 1) := by decide +kernel
theorem d_Model_store_63 : decode b_Model_store 63 = .ok (.getfield 53, 3) := by decide +kernel
theorem d_Model_store_66 : decode b_Model_store 66 = .ok (.aload_n 0, 1) := by decide +kernel
theorem d_Model_store_67 : decode b_Model_store 67 = .ok (.getfield 142, 3) := by decide +kernel
theorem d_Model_store_70 : decode b_Model_store 70 = .ok (.iconst 1, 1) := by decide +kernel
theorem d_Model_store_71 : decode b_Model_store 71 = .ok (.isub, 1) := by decide +kernel
theorem d_Model_store_72 : decode b_Model_store 72 = .ok (.iaload, 1) := by decide +kernel
theorem d_Model_store_73 : decode b_Model_store 73 = .ok (.iload_n 1, 1) := by decide +kernel
theorem d_Model_store_74 : decode b_Model_store 74 = .ok (.iadd, 1) := by decide +kernel
theorem d_Model_store_75 : decode b_Model_store 75 = .ok (.aload_n 0, 1) := by decide +kernel
theorem d_Model_store_76 : decode b_Model_store 76 = .ok (.getfield 66, 3) := by decide +kernel
theorem d_Model_store_79 : decode b_Model_store 79 = .ok (.aload_n 0, 1) := by decide +kernel
theorem d_Model_store_80 : decode b_Model_store 80 = .ok (.getfield 135, 3) := by decide +kernel
theorem d_Model_store_83 : decode b_Model_store 83 = .ok (.iaload, 1) := by decide +kernel
theorem d_Model_store_84 : decode b_Model_store 84 = .ok (.iastore, 1) := by decide +kernel
theorem d_Model_store_85 : decode b_Model_store 85 = .ok (.iconst 5, 1) := by decide +kernel
theorem d_Model_store_86 : decode b_Model_store 86 = .ok (.ireturn, 1) := by decide +kernel
theorem d_Model_free_0 : decode b_Model_free 0 = .ok (.aload_n 0, 1) := by decide +kernel
theorem d_Model_free_1 : decode b_Model_free 1 = .ok (.getfield 50, 3) := by decide +kernel
theorem d_Model_free_4 : decode b_Model_free 4 = .ok (.aload_n 0, 1) := by decide +kernel
theorem d_Model_free_5 : decode b_Model_free 5 = .ok (.getfield 142, 3) := by decide +kernel
theorem d_Model_free_8 : decode b_Model_free 8 = .ok (.iconst 1, 1) := by decide +kernel
theorem d_Model_free_9 : decode b_Model_free 9 = .ok (.isub, 1) := by decide +kernel
theorem d_Model_free_10 : decode b_Model_free 10 = .ok (.iaload, 1) := by decide +kernel
theorem d_Model_free_11 : decode b_Model_free 11 = .ok (.istore_n 2, 1) := by decide +kernel
theorem d_Model_free_12 : decode b_Model_free 12 = .ok (.iload_n 2, 1) := by decide +kernel
theorem d_Model_free_13 : decode b_Model_free 13 = .ok (.ifCond .lt 16, 3) := by decide +kernel
theorem d_Model_free_16 : decode b_Model_free 16 = .ok (.iload_n 1, 1) := by decide +kernel
theorem d_Model_free_17 : decode b_Model_free 17 = .ok (.ifCond .lt 12, 3) := by decide +kernel
theorem d_Model_free_20 : decode b_Model_free 20 = .ok (.iload_n 1, 1) := by decide +kernel
theorem d_Model_free_21 : decode b_Model_free 21 = .ok (.aload_n 0, 1) := by decide +kernel
theorem d_Model_free_22 : decode b_Model_free 22 = .ok (.iload_n 2, 1) := by decide +kernel
theorem d_Model_free_23 : decode b_Model_free 23 = .ok (.invokevirtual 106, 3) := by decide +kernel
theorem d_Model_free_26 : decode b_Model_free 26 = .ok (.if_icmp .lt 7, 3) := by decide +kernel
theorem d_Model_free_29 : decode b_Model_free 29 = .ok (.iconst 4, 1) := by decide +kernel
theorem d_Model_free_30 : decode b_Model_free 30 = .ok (.goto 27, 3) := by decide +kernel
theorem d_Model_free_33 : decode b_Model_free 33 = .ok (.aload_n 0, 1) := by decide +kernel
theorem d_Model_free_34 : decode b_Model_free 34 = .ok (.aload_n 0, 1) := by decide +kernel
theorem d_Model_free_35 : decode b_Model_free 35 = .ok (.getfield 10, 3) := by decide +kernel
theorem d_Model_free_38 : decode b_Model_free 38 = .ok (.iload_n 2, 1) := by decide +kernel
theorem d_Model_free_39 : decode b_Model_free 39 = .ok (.iconst 1, 1) := by decide +kernel
theorem d_Model_free_40 : decode b_Model_free 40 = .ok (.iadd, 1) := by decide +kernel
theorem d_Model_free_41 : decode b_Model_free 41 = .ok (.iload_n 1, 1) := by decide +kernel
theorem d_Model_free_42 : decode b_Model_free 42 = .ok (.iadd, 1) := by decide +kernel
theorem d_Model_free_43 : decode b_Model_free 43 = .ok (.iaload, 1) := by decide +kernel
theorem d_Model_free_44 : decode b_Model_free 44 = .ok (.aload_n 0, 1) := by decide +kernel
theorem d_Model_free_45 : decode b_Model_free 45 = .ok (.getfield 14, 3) := by decide +kernel
theorem d_Model_free_48 : decode b_Model_free 48 = .ok (.iload_n 2, 1) := by decide +kernel
theorem d_Model_free_49 : decode b_Model_free 49 = .ok (.iconst 1, 1) := by decide +kernel
theorem d_Model_free_50 : decode b_Model_free 50 = .ok (.iadd, 1) := by decide +kernel
theorem d_Model_free_51 : decode b_Model_free 51 = .ok (.iload_n 1, 1) := by decide +kernel
theorem d_Model_free_52 : decode b_Model_free 52 = .ok (.iadd, 1) := by decide +kernel
theorem d_Model_free_53 : decode b_Model_free 53 = .ok (.iaload, 1) := by decide +kernel
theorem d_Model_free_54 : decode b_Model_free 54 = .ok (.invokevirtual 225, 3) := by decide +kernel
theorem d_Model_free_57 : decode b_Model_free 57 = .ok (.ireturn, 1) := by decide +kernel
theorem d_Model_setGlobal_0 : decode b_Model_setGlobal 0 = .ok (.iload_n 1, 1) := by decide +kernel
theorem d_Model_setGlobal_1 : decode b_Model_setGlobal 1 = .ok (.ifCond .lt 10, 3) := by decide +kernel
theorem d_Model_setGlobal_4 : decode b_Model_setGlobal 4 = .ok (.iload_n 1, 1) := by decide +kernel
theorem d_Model_setGlobal_5 : decode b_Model_setGlobal 5 = .ok (.sipush 2048, 3) := by decide +kernel
theorem d_Model_setGlobal_8 : decode b_Model_setGlobal 8 = .ok (.if_icmp .lt 5, 3) := by decide +kernel
theorem d_Model_setGlobal_11 : decode b_Model_setGlobal 11 = .ok (.iconst 4, 1) := by decide +kernel
theorem d_Model_setGlobal_12 : decode b_Model_setGlobal 12 = .ok (.ireturn, 1) := by decide +kernel
theorem d_Model_setGlobal_13 : decode b_Model_setGlobal 13 = .ok (.aload_n 0, 1) := by decide +kernel
theorem d_Model_setGlobal_14 : decode b_Model_setGlobal 14 = .ok (.dup, 1) := by decide +kernel
theorem d_Model_setGlobal_15 : decode b_Model_setGlobal 15 = .ok (.getfield 135, 3) := by decide +kernel
theorem d_Model_setGlobal_18 : decode b_Model_setGlobal 18 = .ok (.iconst 1, 1) := by decide +kernel
theorem d_Model_setGlobal_19 : decode b_Model_setGlobal 19 = .ok (.isub, 1) := by decide +kernel
theorem d_Model_setGlobal_20 : decode b_Model_setGlobal 20 = .ok (.putfield 135, 3) := by decide +kernel
theorem d_Model_setGlobal_23 : decode b_Model_setGlobal 23 = .ok (.aload_n 0, 1) := by decide +kernel
theorem d_Model_setGlobal_24 : decode b_Model_setGlobal 24 = .ok (.getfield 20, 3) := by decide +kernel
theorem d_Model_setGlobal_27 : decode b_Model_setGlobal 27 = .ok (.iload_n 1, 1) := by decide +kernel
theorem d_Model_setGlobal_28 : decode b_Model_setGlobal 28 = .ok (.aload_n 0, 1) := by decide +kernel
theorem d_Model_setGlobal_29 : decode b_Model_setGlobal 29 = .ok (.getfield 63, 3) := by decide +kernel
theorem d_Model_setGlobal_32 : decode b_Model_setGlobal 32 = .ok (.aload_n 0, 1) := by decide +kernel
theorem d_Model_setGlobal_33 : decode b_Model_setGlobal 33 = .ok (.getfield 135, 3) := by decide +kernel
theorem d_Model_setGlobal_36 : decode b_Model_setGlobal 36 = .ok (.iaload, 1) := by decide +kernel
theorem d_Model_setGlobal_37 : decode b_Model_setGlobal 37 = .ok (.iastore, 1) := by decide +kernel
theorem d_Model_setGlobal_38 : decode b_Model_setGlobal 38 = .ok (.aload_n 0, 1) := by decide +kernel
theorem d_Model_setGlobal_39 : decode b_Model_setGlobal 39 = .ok (.getfield 23, 3) := by decide +kernel
theorem d_Model_setGlobal_42 : decode b_Model_setGlobal 42 = .ok (.iload_n 1, 1) := by decide +kernel
theorem d_Model_setGlobal_43 : decode b_Model_setGlobal 43 = .ok (.aload_n 0, 1) := by decide +kernel
theorem d_Model_setGlobal_44 : decode b_Model_setGlobal 44 = .ok (.getfield 66, 3) := by decide +kernel
theorem d_Model_setGlobal_47 : decode b_Model_setGlobal 47 = .ok (.aload_n 0, 1) := by decide +kernel
theorem d_Model_setGlobal_48 : decode b_Model_setGlobal 48 = .ok (.getfield 135, 3) := by decide +kernel
theorem d_Model_setGlobal_51 : decode b_Model_setGlobal 51 = .ok (.iaload, 1) := by decide +kernel
theorem d_Model_setGlobal_52 : decode b_Model_setGlobal 52 = .ok (.iastore, 1) := by decide +kernel
theorem d_Model_setGlobal_53 : decode b_Model_setGlobal 53 = .ok (.iconst 5, 1) := by decide +kernel
theorem d_Model_setGlobal_54 : decode b_Model_setGlobal 54 = .ok (.ireturn, 1) := by decide +kernel
theorem d_Model_gather_0 : decode b_Model_gather 0 = .ok (.iload_n 2, 1) := by decide +kernel
theorem d_Model_gather_1 : decode b_Model_gather 1 = .ok (.ifCond .ne 12, 3) := by decide +kernel
theorem d_Model_gather_4 : decode b_Model_gather 4 = .ok (.aload_n 0, 1) := by decide +kernel
theorem d_Model_gather_5 : decode b_Model_gather 5 = .ok (.getfield 135, 3) := by decide +kernel
theorem d_Model_gather_8 : decode b_Model_gather 8 = .ok (.ldc 62, 2) := by decide +kernel
theorem d_Model_gather_10 : decode b_Model_gather 10 = .ok (.if_icmp .eq 13, 3) := by decide +kernel
theorem d_Model_gather_13 : decode b_Model_gather 13 = .ok (.aload_n 0, 1) := by decide +kernel
theorem d_Model_gather_14 : decode b_Model_gather 14 = .ok (.iload_n 2, 1) := by decide +kernel
theorem d_Model_gather_15 : decode b_Model_gather 15 = .ok (.iconst 1, 1) := by decide +kernel
theorem d_Model_gather_16 : decode b_Model_gather 16 = .ok (.iadd, 1) := by decide +kernel
theorem d_Model_gather_17 : decode b_Model_gather 17 = .ok (.invokevirtual 167, 3) := by decide +kernel
theorem d_Model_gather_20 : decode b_Model_gather 20 = .ok (.ifCond .ne 5, 3) := by decide +kernel
theorem d_Model_gather_23 : decode b_Model_gather 23 = .ok (.iconst 3, 1) := by decide +kernel
theorem d_Model_gather_24 : decode b_Model_gather 24 = .ok (.ireturn, 1) := by decide +kernel
theorem d_Model_gather_25 : decode b_Model_gather 25 = .ok (.aload_n 0, 1) := by decide +kernel
theorem d_Model_gather_26 : decode b_Model_gather 26 = .ok (.iload_n 1, 1) := by decide +kernel
theorem d_Model_gather_27 : decode b_Model_gather 27 = .ok (.iload_n 2, 1) := by decide +kernel
theorem d_Model_gather_28 : decode b_Model_gather 28 = .ok (.iload_n 3, 1) := by decide +kernel
theorem d_Model_gather_29 : decode b_Model_gather 29 = .ok (.iload_n 2, 1) := by decide +kernel
theorem d_Model_gather_30 : decode b_Model_gather 30 = .ok (.iconst 1, 1) := by decide +kernel
theorem d_Model_gather_31 : decode b_Model_gather 31 = .ok (.iadd, 1) := by decide +kernel
theorem d_Model_gather_32 : decode b_Model_gather 32 = .ok (.invokevirtual 318, 3) := by decide +kernel
theorem d_Model_gather_35 : decode b_Model_gather 35 = .ok (.istore 4, 2) := by decide +kernel
theorem d_Model_gather_37 : decode b_Model_gather 37 = .ok (.iconst 0, 1) := by decide +kernel
theorem d_Model_gather_38 : decode b_Model_gather 38 = .ok (.istore 5, 2) := by decide +kernel
theorem d_Model_gather_40 : decode b_Model_gather 40 = .ok (.iload 5, 2) := by decide +kernel
theorem d_Model_gather_42 : decode b_Model_gather 42 = .ok (.iload_n 2, 1) := by decide +kernel
theorem d_Model_gather_43 : decode b_Model_gather 43 = .ok (.if_icmp .ge 61, 3) := by decide +kernel
theorem d_Model_gather_46 : decode b_Model_gather 46 = .ok (.aload_n 0, 1) := by decide +kernel
theorem d_Model_gather_47 : decode b_Model_gather 47 = .ok (.getfield 10, 3) := by decide +kernel
theorem d_Model_gather_50 : decode b_Model_gather 50 = .ok (.iload 4, 2) := by decide +kernel
theorem d_Model_gather_52 : decode b_Model_gather 52 = .ok (.iconst 1, 1) := by decide +kernel
theorem d_Model_gather_53 : decode b_Model_gather 53 = .ok (.iadd, 1) := by decide +kernel
theorem d_Model_gather_54 : decode b_Model_gather 54 = .ok (.iload 5, 2) := by decide +kernel
theorem d_Model_gather_56 : decode b_Model_gather 56 = .ok (.iadd, 1) := by decide +kernel
theorem d_Model_gather_57 : decode b_Model_gather 57 = .ok (.aload_n 0, 1) := by decide +kernel
theorem d_Model_gather_58 : decode b_Model_gather 58 = .ok (.getfield 63, 3) := by decide +kernel
theorem d_Model_gather_61 : decode b_Model_gather 61 = .ok (.aload_n 0, 1) := by decide +kernel
theorem d_Model_gather_62 : decode b_Model_gather 62 = .ok (.getfield 135, 3) := by decide +kernel
theorem d_Model_gather_65 : decode b_Model_gather 65 = .ok (.iload_n 2, 1) := by decide +kernel
theorem d_Model_gather_66 : decode b_Model_gather 66 = .ok (.isub, 1) := by decide +kernel
theorem d_Model_gather_67 : decode b_Model_gather 67 = .ok (.iload 5, 2) := by decide +kernel
theorem d_Model_gather_69 : decode b_Model_gather 69 = .ok (.iadd, 1) := by decide +kernel
theorem d_Model_gather_70 : decode b_Model_gather 70 = .ok (.iaload, 1) := by decide +kernel
theorem d_Model_gather_71 : decode b_Model_gather 71 = .ok (.iastore, 1) := by decide +kernel
theorem d_Model_gather_72 : decode b_Model_gather 72 = .ok (.aload_n 0, 1) := by decide +kernel
theorem d_Model_gather_73 : decode b_Model_gather 73 = .ok (.getfield 14, 3) := by decide +kernel
theorem d_Model_gather_76 : decode b_Model_gather 76 = .ok (.iload 4, 2) := by decide +kernel
theorem d_Model_gather_78 : decode b_Model_gather 78 = .ok (.iconst 1, 1) := by decide +kernel
theorem d_Model_gather_79 : decode b_Model_gather 79 = .ok (.iadd, 1) := by decide +kernel
theorem d_Model_gather_80 : decode b_Model_gather 80 = .ok (.iload 5, 2) := by decide +kernel
theorem d_Model_gather_82 : decode b_Model_gather 82 = .ok (.iadd, 1) := by decide +kernel
theorem d_Model_gather_83 : decode b_Model_gather 83 = .ok (.aload_n 0, 1) := by decide +kernel
theorem d_Model_gather_84 : decode b_Model_gather 84 = .ok (.getfield 66, 3) := by decide +kernel
theorem d_Model_gather_87 : decode b_Model_gather 87 = .ok (.aload_n 0, 1) := by decide +kernel
theorem d_Model_gather_88 : decode b_Model_gather 88 = .ok (.getfield 135, 3) := by decide +kernel
theorem d_Model_gather_91 : decode b_Model_gather 91 = .ok (.iload_n 2, 1) := by decide +kernel
theorem d_Model_gather_92 : decode b_Model_gather 92 = .ok (.isub, 1) := by decide +kernel
theorem d_Model_gather_93 : decode b_Model_gather 93 = .ok (.iload 5, 2) := by decide +kernel
theorem d_Model_gather_95 : decode b_Model_gather 95 = .ok (.iadd, 1) := by decide +kernel
theorem d_Model_gather_96 : decode b_Model_gather 96 = .ok (.iaload, 1) := by decide +kernel
theorem d_Model_gather_97 : decode b_Model_gather 97 = .ok (.iastore, 1) := by decide +kernel
theorem d_Model_gather_98 : decode b_Model_gather 98 = .ok (.iinc 5 1, 3) := by decide +kernel
theorem d_Model_gather_101 : decode b_Model_gather 101 = .ok (.goto (-61), 3) := by decide +kernel
theorem d_Model_gather_104 : decode b_Model_gather 104 = .ok (.aload_n 0, 1) := by decide +kernel
theorem d_Model_gather_105 : decode b_Model_gather 105 = .ok (.iload_n 2, 1) := by decide +kernel
theorem d_Model_gather_106 : decode b_Model_gather 106 = .ok (.iconst 2, 1) := by decide +kernel
theorem d_Model_gather_107 : decode b_Model_gather 107 = .ok (.iload 4, 2) := by decide +kernel
theorem d_Model_gather_109 : decode b_Model_gather 109 = .ok (.invokevirtual 207, 3) := by decide +kernel
theorem d_Model_gather_112 : decode b_Model_gather 112 = .ok (.ireturn, 1) := by decide +kernel
theorem d_Model_is_0 : decode b_Model_is 0 = .ok (.aload_n 0, 1) := by decide +kernel
theorem d_Model_is_1 : decode b_Model_is 1 = .ok (.getfield 63, 3) := by decide +kernel
theorem d_Model_is_4 : decode b_Model_is 4 = .ok (.aload_n 0, 1) := by decide +kernel
theorem d_Model_is_5 : decode b_Model_is 5 = .ok (.getfield 135, 3) := by decide +kernel
theorem d_Model_is_8 : decode b_Model_is 8 = .ok (.iload_n 1, 1) := by decide +kernel
theorem d_Model_is_9 : decode b_Model_is 9 = .ok (.isub, 1) := by decide +kernel
theorem d_Model_is_10 : decode b_Model_is 10 = .ok (.iaload, 1) := by decide +kernel
theorem d_Model_is_11 : decode b_Model_is 11 = .ok (.iconst 2, 1) := by decide +kernel
theorem d_Model_is_12 : decode b_Model_is 12 = .ok (.if_icmp .ne 26, 3) := by decide +kernel
theorem d_Model_is_15 : decode b_Model_is 15 = .ok (.aload_n 0, 1) := by decide +kernel
theorem d_Model_is_16 : decode b_Model_is 16 = .ok (.aload_n 0, 1) := by decide +kernel
theorem d_Model_is_17 : decode b_Model_is 17 = .ok (.getfield 66, 3) := by decide +kernel
theorem d_Model_is_20 : decode b_Model_is 20 = .ok (.aload_n 0, 1) := by decide +kernel
theorem d_Model_is_21 : decode b_Model_is 21 = .ok (.getfield 135, 3) := by decide +kernel
theorem d_Model_is_24 : decode b_Model_is 24 = .ok (.iload_n 1, 1) := by decide +kernel
theorem d_Model_is_25 : decode b_Model_is 25 = .ok (.isub, 1) := by decide +kernel
theorem d_Model_is_26 : decode b_Model_is 26 = .ok (.iaload, 1) := by decide +kernel
theorem d_Model_is_27 : decode b_Model_is 27 = .ok (.invokevirtual 102, 3) := by decide +kernel
theorem d_Model_is_30 : decode b_Model_is 30 = .ok (.iload_n 2, 1) := by decide +kernel
theorem d_Model_is_31 : decode b_Model_is 31 = .ok (.if_icmp .ne 7, 3) := by decide +kernel
theorem d_Model_is_34 : decode b_Model_is 34 = .ok (.iconst 1, 1) := by decide +kernel
theorem d_Model_is_35 : decode b_Model_is 35 = .ok (.goto 4, 3) := by decide +kernel
theorem d_Model_is_38 : decode b_Model_is 38 = .ok (.iconst 0, 1) := by decide +kernel
theorem d_Model_is_39 : decode b_Model_is 39 = .ok (.ireturn, 1) := by decide +kernel
theorem d_Model_scalar_0 : decode b_Model_scalar 0 = .ok (.aload_n 0, 1) := by decide +kernel
theorem d_Model_scalar_1 : decode b_Model_scalar 1 = .ok (.getfield 66, 3) := by decide +kernel
theorem d_Model_scalar_4 : decode b_Model_scalar 4 = .ok (.aload_n 0, 1) := by decide +kernel
theorem d_Model_scalar_5 : decode b_Model_scalar 5 = .ok (.getfield 135, 3) := by decide +kernel
theorem d_Model_scalar_8 : decode b_Model_scalar 8 = .ok (.iload_n 1, 1) := by decide +kernel
theorem d_Model_scalar_9 : decode b_Model_scalar 9 = .ok (.isub, 1) := by decide +kernel
theorem d_Model_scalar_10 : decode b_Model_scalar 10 = .ok (.iaload, 1) := by decide +kernel
theorem d_Model_scalar_11 : decode b_Model_scalar 11 = .ok (.ireturn, 1) := by decide +kernel
theorem d_Model_part_0 : decode b_Model_part 0 = .ok (.aload_n 0, 1) := by decide +kernel
theorem d_Model_part_1 : decode b_Model_part 1 = .ok (.iconst 1, 1) := by decide +kernel
theorem d_Model_part_2 : decode b_Model_part 2 = .ok (.invokevirtual 250, 3) := by decide +kernel
theorem d_Model_part_5 : decode b_Model_part 5 = .ok (.istore_n 2, 1) := by decide +kernel
theorem d_Model_part_6 : decode b_Model_part 6 = .ok (.aload_n 0, 1) := by decide +kernel
theorem d_Model_part_7 : decode b_Model_part 7 = .ok (.iconst 1, 1) := by decide +kernel
theorem d_Model_part_8 : decode b_Model_part 8 = .ok (.aload_n 0, 1) := by decide +kernel
theorem d_Model_part_9 : decode b_Model_part 9 = .ok (.getfield 10, 3) := by decide +kernel
theorem d_Model_part_12 : decode b_Model_part 12 = .ok (.iload_n 2, 1) := by decide +kernel
theorem d_Model_part_13 : decode b_Model_part 13 = .ok (.iconst 1, 1) := by decide +kernel
theorem d_Model_part_14 : decode b_Model_part 14 = .ok (.iadd, 1) := by decide +kernel
theorem d_Model_part_15 : decode b_Model_part 15 = .ok (.iload_n 1, 1) := by decide +kernel
theorem d_Model_part_16 : decode b_Model_part 16 = .ok (.iadd, 1) := by decide +kernel
theorem d_Model_part_17 : decode b_Model_part 17 = .ok (.iaload, 1) := by decide +kernel
theorem d_Model_part_18 : decode b_Model_part 18 = .ok (.aload_n 0, 1) := by decide +kernel
theorem d_Model_part_19 : decode b_Model_part 19 = .ok (.getfield 14, 3) := by decide +kernel
theorem d_Model_part_22 : decode b_Model_part 22 = .ok (.iload_n 2, 1) := by decide +kernel
theorem d_Model_part_23 : decode b_Model_part 23 = .ok (.iconst 1, 1) := by decide +kernel
theorem d_Model_part_24 : decode b_Model_part 24 = .ok (.iadd, 1) := by decide +kernel
theorem d_Model_part_25 : decode b_Model_part 25 = .ok (.iload_n 1, 1) := by decide +kernel
theorem d_Model_part_26 : decode b_Model_part 26 = .ok (.iadd, 1) := by decide +kernel
theorem d_Model_part_27 : decode b_Model_part 27 = .ok (.iaload, 1) := by decide +kernel
theorem d_Model_part_28 : decode b_Model_part 28 = .ok (.invokevirtual 207, 3) := by decide +kernel
theorem d_Model_part_31 : decode b_Model_part 31 = .ok (.ireturn, 1) := by decide +kernel
theorem d_Model_isScalar_0 : decode b_Model_isScalar 0 = .ok (.aload_n 0, 1) := by decide +kernel
theorem d_Model_isScalar_1 : decode b_Model_isScalar 1 = .ok (.getfield 63, 3) := by decide +kernel
theorem d_Model_isScalar_4 : decode b_Model_isScalar 4 = .ok (.aload_n 0, 1) := by decide +kernel
theorem d_Model_isScalar_5 : decode b_Model_isScalar 5 = .ok (.getfield 135, 3) := by decide +kernel
theorem d_Model_isScalar_8 : decode b_Model_isScalar 8 = .ok (.iload_n 1, 1) := by decide +kernel
theorem d_Model_isScalar_9 : decode b_Model_isScalar 9 = .ok (.isub, 1) := by decide +kernel
theorem d_Model_isScalar_10 : decode b_Model_isScalar 10 = .ok (.iaload, 1) := by decide +kernel
theorem d_Model_isScalar_11 : decode b_Model_isScalar 11 = .ok (.ifCond .ne 7, 3) := by decide +kernel
theorem d_Model_isScalar_14 : decode b_Model_isScalar 14 = .ok (.iconst 1, 1) := by decide +kernel
theorem d_Model_isScalar_15 : decode b_Model_isScalar 15 = .ok (.goto 4, 3) := by decide +kernel
theorem d_Model_isScalar_18 : decode b_Model_isScalar 18 = .ok (.iconst 0, 1) := by decide +kernel
theorem d_Model_isScalar_19 : decode b_Model_isScalar 19 = .ok (.ireturn, 1) := by decide +kernel
theorem d_Model_patch_0 : decode b_Model_patch 0 = .ok (.aload_n 0, 1) := by decide +kernel
theorem d_Model_patch_1 : decode b_Model_patch 1 = .ok (.iconst 2, 1) := by decide +kernel
theorem d_Model_patch_2 : decode b_Model_patch 2 = .ok (.iconst 4, 1) := by decide +kernel
theorem d_Model_patch_3 : decode b_Model_patch 3 = .ok (.invokevirtual 246, 3) := by decide +kernel
theorem d_Model_patch_6 : decode b_Model_patch 6 = .ok (.ifCond .eq 20, 3) := by decide +kernel
theorem d_Model_patch_9 : decode b_Model_patch 9 = .ok (.iload_n 1, 1) := by decide +kernel
theorem d_Model_patch_10 : decode b_Model_patch 10 = .ok (.ifCond .lt 16, 3) := by decide +kernel
theorem d_Model_patch_13 : decode b_Model_patch 13 = .ok (.iload_n 1, 1) := by decide +kernel
theorem d_Model_patch_14 : decode b_Model_patch 14 = .ok (.aload_n 0, 1) := by decide +kernel
theorem d_Model_patch_15 : decode b_Model_patch 15 = .ok (.aload_n 0, 1) := by decide +kernel
theorem d_Model_patch_16 : decode b_Model_patch 16 = .ok (.iconst 2, 1) := by decide +kernel
theorem d_Model_patch_17 : decode b_Model_patch 17 = .ok (.invokevirtual 250, 3) := by decide +kernel
theorem d_Model_patch_20 : decode b_Model_patch 20 = .ok (.invokevirtual 106, 3) := by decide +kernel
theorem d_Model_patch_23 : decode b_Model_patch 23 = .ok (.if_icmp .lt 5, 3) := by decide +kernel
theorem d_Model_patch_26 : decode b_Model_patch 26 = .ok (.iconst 4, 1) := by decide +kernel
theorem d_Model_patch_27 : decode b_Model_patch 27 = .ok (.ireturn, 1) := by decide +kernel
theorem d_Model_patch_28 : decode b_Model_patch 28 = .ok (.aload_n 0, 1) := by decide +kernel
theorem d_Model_patch_29 : decode b_Model_patch 29 = .ok (.iconst 2, 1) := by decide +kernel
theorem d_Model_patch_30 : decode b_Model_patch 30 = .ok (.invokevirtual 250, 3) := by decide +kernel
theorem d_Model_patch_33 : decode b_Model_patch 33 = .ok (.istore_n 2, 1) := by decide +kernel
theorem d_Model_patch_34 : decode b_Model_patch 34 = .ok (.aload_n 0, 1) := by decide +kernel
theorem d_Model_patch_35 : decode b_Model_patch 35 = .ok (.getfield 10, 3) := by decide +kernel
theorem d_Model_patch_38 : decode b_Model_patch 38 = .ok (.iload_n 2, 1) := by decide +kernel
theorem d_Model_patch_39 : decode b_Model_patch 39 = .ok (.iconst 1, 1) := by decide +kernel
theorem d_Model_patch_40 : decode b_Model_patch 40 = .ok (.iadd, 1) := by decide +kernel
theorem d_Model_patch_41 : decode b_Model_patch 41 = .ok (.iload_n 1, 1) := by decide +kernel
theorem d_Model_patch_42 : decode b_Model_patch 42 = .ok (.iadd, 1) := by decide +kernel
theorem d_Model_patch_43 : decode b_Model_patch 43 = .ok (.aload_n 0, 1) := by decide +kernel
theorem d_Model_patch_44 : decode b_Model_patch 44 = .ok (.getfield 63, 3) := by decide +kernel
theorem d_Model_patch_47 : decode b_Model_patch 47 = .ok (.aload_n 0, 1) := by decide +kernel
theorem d_Model_patch_48 : decode b_Model_patch 48 = .ok (.getfield 135, 3) := by decide +kernel
theorem d_Model_patch_51 : decode b_Model_patch 51 = .ok (.iconst 1, 1) := by decide +kernel
theorem d_Model_patch_52 : decode b_Model_patch 52 = .ok (.isub, 1) := by decide +kernel
theorem d_Model_patch_53 : decode b_Model_patch 53 = .ok (.iaload, 1) := by decide +kernel
theorem d_Model_patch_54 : decode b_Model_patch 54 = .ok (.iastore, 1) := by decide +kernel
theorem d_Model_patch_55 : decode b_Model_patch 55 = .ok (.aload_n 0, 1) := by decide +kernel
theorem d_Model_patch_56 : decode b_Model_patch 56 = .ok (.getfield 14, 3) := by decide +kernel
theorem d_Model_patch_59 : decode b_Model_patch 59 = .ok (.iload_n 2, 1) := by decide +kernel
theorem d_Model_patch_60 : decode b_Model_patch 60 = .ok (.iconst 1, 1) := by decide +kernel
theorem d_Model_patch_61 : decode b_Model_patch 61 = .ok (.iadd, 1) := by decide +kernel
theorem d_Model_patch_62 : decode b_Model_patch 62 = .ok (.iload_n 1, 1) := by decide +kernel
theorem d_Model_patch_63 : decode b_Model_patch 63 = .ok (.iadd, 1) := by decide +kernel
theorem d_Model_patch_64 : decode b_Model_patch 64 = .ok (.aload_n 0, 1) := by decide +kernel
theorem d_Model_patch_65 : decode b_Model_patch 65 = .ok (.getfield 66, 3) := by decide +kernel
theorem d_Model_patch_68 : decode b_Model_patch 68 = .ok (.aload_n 0, 1) := by decide +kernel
theorem d_Model_patch_69 : decode b_Model_patch 69 = .ok (.getfield 135, 3) := by decide +kernel
theorem d_Model_patch_72 : decode b_Model_patch 72 = .ok (.iconst 1, 1) := by decide +kernel
theorem d_Model_patch_73 : decode b_Model_patch 73 = .ok (.isub, 1) := by decide +kernel
theorem d_Model_patch_74 : decode b_Model_patch 74 = .ok (.iaload, 1) := by decide +kernel
theorem d_Model_patch_75 : decode b_Model_patch 75 = .ok (.iastore, 1) := by decide +kernel
theorem d_Model_patch_76 : decode b_Model_patch 76 = .ok (.aload_n 0, 1) := by decide +kernel
theorem d_Model_patch_77 : decode b_Model_patch 77 = .ok (.dup, 1) := by decide +kernel
theorem d_Model_patch_78 : decode b_Model_patch 78 = .ok (.getfield 135, 3) := by decide +kernel
theorem d_Model_patch_81 : decode b_Model_patch 81 = .ok (.iconst 1, 1) := by decide +kernel
theorem d_Model_patch_82 : decode b_Model_patch 82 = .ok (.isub, 1) := by decide +kernel
theorem d_Model_patch_83 : decode b_Model_patch 83 = .ok (.putfield 135, 3) := by decide +kernel
theorem d_Model_patch_86 : decode b_Model_patch 86 = .ok (.iconst 5, 1) := by decide +kernel
theorem d_Model_patch_87 : decode b_Model_patch 87 = .ok (.ireturn, 1) := by decide +kernel
theorem d_Model_call_0 : decode b_Model_call 0 = .ok (.aload_n 0, 1) := by decide +kernel
theorem d_Model_call_1 : decode b_Model_call 1 = .ok (.iconst 2, 1) := by decide +kernel
theorem d_Model_call_2 : decode b_Model_call 2 = .ok (.iconst 4, 1) := by decide +kernel
theorem d_Model_call_3 : decode b_Model_call 3 = .ok (.invokevirtual 246, 3) := by decide +kernel
theorem d_Model_call_6 : decode b_Model_call 6 = .ok (.ifCond .ne 5, 3) := by decide +kernel
theorem d_Model_call_9 : decode b_Model_call 9 = .ok (.iconst 4, 1) := by decide +kernel
theorem d_Model_call_10 : decode b_Model_call 10 = .ok (.ireturn, 1) := by decide +kernel
theorem d_Model_call_11 : decode b_Model_call 11 = .ok (.aload_n 0, 1) := by decide +kernel
theorem d_Model_call_12 : decode b_Model_call 12 = .ok (.getfield 142, 3) := by decide +kernel
theorem d_Model_call_15 : decode b_Model_call 15 = .ok (.sipush 8192, 3) := by decide +kernel
theorem d_Model_call_18 : decode b_Model_call 18 = .ok (.if_icmp .ne 5, 3) := by decide +kernel
theorem d_Model_call_21 : decode b_Model_call 21 = .ok (.iconst 3, 1) := by decide +kernel
theorem d_Model_call_22 : decode b_Model_call 22 = .ok (.ireturn, 1) := by decide +kernel
theorem d_Model_call_23 : decode b_Model_call 23 = .ok (.aload_n 0, 1) := by decide +kernel
theorem d_Model_call_24 : decode b_Model_call 24 = .ok (.iconst 2, 1) := by decide +kernel
theorem d_Model_call_25 : decode b_Model_call 25 = .ok (.invokevirtual 250, 3) := by decide +kernel
theorem d_Model_call_28 : decode b_Model_call 28 = .ok (.istore_n 1, 1) := by decide +kernel
theorem d_Model_call_29 : decode b_Model_call 29 = .ok (.aload_n 0, 1) := by decide +kernel
theorem d_Model_call_30 : decode b_Model_call 30 = .ok (.getfield 63, 3) := by decide +kernel
theorem d_Model_call_33 : decode b_Model_call 33 = .ok (.aload_n 0, 1) := by decide +kernel
theorem d_Model_call_34 : decode b_Model_call 34 = .ok (.getfield 135, 3) := by decide +kernel
theorem d_Model_call_37 : decode b_Model_call 37 = .ok (.iconst 2, 1) := by decide +kernel
theorem d_Model_call_38 : decode b_Model_call 38 = .ok (.isub, 1) := by decide +kernel
theorem d_Model_call_39 : decode b_Model_call 39 = .ok (.aload_n 0, 1) := by decide +kernel
theorem d_Model_call_40 : decode b_Model_call 40 = .ok (.getfield 63, 3) := by decide +kernel
theorem d_Model_call_43 : decode b_Model_call 43 = .ok (.aload_n 0, 1) := by decide +kernel
theorem d_Model_call_44 : decode b_Model_call 44 = .ok (.getfield 135, 3) := by decide +kernel
theorem d_Model_call_47 : decode b_Model_call 47 = .ok (.iconst 1, 1) := by decide +kernel
theorem d_Model_call_48 : decode b_Model_call 48 = .ok (.isub, 1) := by decide +kernel
theorem d_Model_call_49 : decode b_Model_call 49 = .ok (.iaload, 1) := by decide +kernel
theorem d_Model_call_50 : decode b_Model_call 50 = .ok (.iastore, 1) := by decide +kernel
theorem d_Model_call_51 : decode b_Model_call 51 = .ok (.aload_n 0, 1) := by decide +kernel
theorem d_Model_call_52 : decode b_Model_call 52 = .ok (.getfield 66, 3) := by decide +kernel
theorem d_Model_call_55 : decode b_Model_call 55 = .ok (.aload_n 0, 1) := by decide +kernel
theorem d_Model_call_56 : decode b_Model_call 56 = .ok (.getfield 135, 3) := by decide +kernel
theorem d_Model_call_59 : decode b_Model_call 59 = .ok (.iconst 2, 1) := by decide +kernel
theorem d_Model_call_60 : decode b_Model_call 60 = .ok (.isub, 1) := by decide +kernel
theorem d_Model_call_61 : decode b_Model_call 61 = .ok (.aload_n 0, 1) := by decide +kernel
theorem d_Model_call_62 : decode b_Model_call 62 = .ok (.getfield 66, 3) := by decide +kernel
theorem d_Model_call_65 : decode b_Model_call 65 = .ok (.aload_n 0, 1) := by decide +kernel
theorem d_Model_call_66 : decode b_Model_call 66 = .ok (.getfield 135, 3) := by decide +kernel
theorem d_Model_call_69 : decode b_Model_call 69 = .ok (.iconst 1, 1) := by decide +kernel
theorem d_Model_call_70 : decode b_Model_call 70 = .ok (.isub, 1) := by decide +kernel
theorem d_Model_call_71 : decode b_Model_call 71 = .ok (.iaload, 1) := by decide +kernel
theorem d_Model_call_72 : decode b_Model_call 72 = .ok (.iastore, 1) := by decide +kernel
theorem d_Model_call_73 : decode b_Model_call 73 = .ok (.aload_n 0, 1) := by decide +kernel
theorem d_Model_call_74 : decode b_Model_call 74 = .ok (.dup, 1) := by decide +kernel
theorem d_Model_call_75 : decode b_Model_call 75 = .ok (.getfield 135, 3) := by decide +kernel
theorem d_Model_call_78 : decode b_Model_call 78 = .ok (.iconst 1, 1) := by decide +kernel
theorem d_Model_call_79 : decode b_Model_call 79 = .ok (.isub, 1) := by decide +kernel
theorem d_Model_call_80 : decode b_Model_call 80 = .ok (.putfield 135, 3) := by decide +kernel
theorem d_Model_call_83 : decode b_Model_call 83 = .ok (.aload_n 0, 1) := by decide +kernel
theorem d_Model_call_84 : decode b_Model_call 84 = .ok (.getfield 50, 3) := by decide +kernel
theorem d_Model_call_87 : decode b_Model_call 87 = .ok (.aload_n 0, 1) := by decide +kernel
theorem d_Model_call_88 : decode b_Model_call 88 = .ok (.getfield 142, 3) := by decide +kernel
theorem d_Model_call_91 : decode b_Model_call 91 = .ok (.iload_n 1, 1) := by decide +kernel
theorem d_Model_call_92 : decode b_Model_call 92 = .ok (.iastore, 1) := by decide +kernel
theorem d_Model_call_93 : decode b_Model_call 93 = .ok (.aload_n 0, 1) := by decide +kernel
theorem d_Model_call_94 : decode b_Model_call 94 = .ok (.getfield 53, 3) := by decide +kernel
theorem d_Model_call_97 : decode b_Model_call 97 = .ok (.aload_n 0, 1) := by decide +kernel
theorem d_Model_call_98 : decode b_Model_call 98 = .ok (.getfield 142, 3) := by decide +kernel
theorem d_Model_call_101 : decode b_Model_call 101 = .ok (.aload_n 0, 1) := by decide +kernel
theorem d_Model_call_102 : decode b_Model_call 102 = .ok (.getfield 135, 3) := by decide +kernel
theorem d_Model_call_105 : decode b_Model_call 105 = .ok (.iconst 1, 1) := by decide +kernel
theorem d_Model_call_106 : decode b_Model_call 106 = .ok (.isub, 1) := by decide +kernel
theorem d_Model_call_107 : decode b_Model_call 107 = .ok (.iastore, 1) := by decide +kernel
theorem d_Model_call_108 : decode b_Model_call 108 = .ok (.aload_n 0, 1) := by decide +kernel
theorem d_Model_call_109 : decode b_Model_call 109 = .ok (.getfield 56, 3) := by decide +kernel
theorem d_Model_call_112 : decode b_Model_call 112 = .ok (.aload_n 0, 1) := by decide +kernel
theorem d_Model_call_113 : decode b_Model_call 113 = .ok (.getfield 142, 3) := by decide +kernel
theorem d_Model_call_116 : decode b_Model_call 116 = .ok (.iconst 1, 1) := by decide +kernel
theorem d_Model_call_117 : decode b_Model_call 117 = .ok (.iastore, 1) := by decide +kernel
theorem d_Model_call_118 : decode b_Model_call 118 = .ok (.aload_n 0, 1) := by decide +kernel
theorem d_Model_call_119 : decode b_Model_call 119 = .ok (.getfield 59, 3) := by decide +kernel
theorem d_Model_call_122 : decode b_Model_call 122 = .ok (.aload_n 0, 1) := by decide +kernel
theorem d_Model_call_123 : decode b_Model_call 123 = .ok (.getfield 142, 3) := by decide +kernel
theorem d_Model_call_126 : decode b_Model_call 126 = .ok (.aload_n 0, 1) := by decide +kernel
theorem d_Model_call_127 : decode b_Model_call 127 = .ok (.getfield 185, 3) := by decide +kernel
theorem d_Model_call_130 : decode b_Model_call 130 = .ok (.iconst 1, 1) := by decide +kernel
theorem d_Model_call_131 : decode b_Model_call 131 = .ok (.iadd, 1) := by decide +kernel
theorem d_Model_call_132 : decode b_Model_call 132 = .ok (.iastore, 1) := by decide +kernel
theorem d_Model_call_133 : decode b_Model_call 133 = .ok (.aload_n 0, 1) := by decide +kernel
theorem d_Model_call_134 : decode b_Model_call 134 = .ok (.dup, 1) := by decide +kernel
theorem d_Model_call_135 : decode b_Model_call 135 = .ok (.getfield 142, 3) := by decide +kernel
theorem d_Model_call_138 : decode b_Model_call 138 = .ok (.iconst 1, 1) := by decide +kernel
theorem d_Model_call_139 : decode b_Model_call 139 = .ok (.iadd, 1) := by decide +kernel
theorem d_Model_call_140 : decode b_Model_call 140 = .ok (.putfield 142, 3) := by decide +kernel
theorem d_Model_call_143 : decode b_Model_call 143 = .ok (.aload_n 0, 1) := by decide +kernel
theorem d_Model_call_144 : decode b_Model_call 144 = .ok (.aload_n 0, 1) := by decide +kernel
theorem d_Model_call_145 : decode b_Model_call 145 = .ok (.getfield 14, 3) := by decide +kernel
theorem d_Model_call_148 : decode b_Model_call 148 = .ok (.iload_n 1, 1) := by decide +kernel
theorem d_Model_call_149 : decode b_Model_call 149 = .ok (.iaload, 1) := by decide +kernel
theorem d_Model_call_150 : decode b_Model_call 150 = .ok (.putfield 185, 3) := by decide +kernel
theorem d_Model_call_153 : decode b_Model_call 153 = .ok (.iconst 5, 1) := by decide +kernel
theorem d_Model_call_154 : decode b_Model_call 154 = .ok (.ireturn, 1) := by decide +kernel
theorem d_Model_hasHandlers_0 : decode b_Model_hasHandlers 0 = .ok (.aload_n 0, 1) := by decide +kernel
theorem d_Model_hasHandlers_1 : decode b_Model_hasHandlers 1 = .ok (.getfield 182, 3) := by decide +kernel
theorem d_Model_hasHandlers_4 : decode b_Model_hasHandlers 4 = .ok (.ifCond .le 27, 3) := by decide +kernel
theorem d_Model_hasHandlers_7 : decode b_Model_hasHandlers 7 = .ok (.aload_n 0, 1) := by decide +kernel
theorem d_Model_hasHandlers_8 : decode b_Model_hasHandlers 8 = .ok (.getfield 69, 3) := by decide +kernel
theorem d_Model_hasHandlers_11 : decode b_Model_hasHandlers 11 = .ok (.aload_n 0, 1) := by decide +kernel
theorem d_Model_hasHandlers_12 : decode b_Model_hasHandlers 12 = .ok (.getfield 182, 3) := by decide +kernel
theorem d_Model_hasHandlers_15 : decode b_Model_hasHandlers 15 = .ok (.iconst 1, 1) := by decide +kernel
theorem d_Model_hasHandlers_16 : decode b_Model_hasHandlers 16 = .ok (.isub, 1) := by decide +kernel
theorem d_Model_hasHandlers_17 : decode b_Model_hasHandlers 17 = .ok (.iaload, 1) := by decide +kernel
theorem d_Model_hasHandlers_18 : decode b_Model_hasHandlers 18 = .ok (.aload_n 0, 1) := by decide +kernel
theorem d_Model_hasHandlers_19 : decode b_Model_hasHandlers 19 = .ok (.getfield 142, 3) := by decide +kernel
theorem d_Model_hasHandlers_22 : decode b_Model_hasHandlers 22 = .ok (.iconst 1, 1) := by decide +kernel
theorem d_Model_hasHandlers_23 : decode b_Model_hasHandlers 23 = .ok (.isub, 1) := by decide +kernel
theorem d_Model_hasHandlers_24 : decode b_Model_hasHandlers 24 = .ok (.if_icmp .ne 7, 3) := by decide +kernel
theorem d_Model_hasHandlers_27 : decode b_Model_hasHandlers 27 = .ok (.iconst 1, 1) := by decide +kernel
theorem d_Model_hasHandlers_28 : decode b_Model_hasHandlers 28 = .ok (.goto 4, 3) := by decide +kernel
theorem d_Model_hasHandlers_31 : decode b_Model_hasHandlers 31 = .ok (.iconst 0, 1) := by decide +kernel
theorem d_Model_hasHandlers_32 : decode b_Model_hasHandlers 32 = .ok (.ireturn, 1) := by decide +kernel
theorem d_Model_tail_0 : decode b_Model_tail 0 = .ok (.aload_n 0, 1) := by decide +kernel
theorem d_Model_tail_1 : decode b_Model_tail 1 = .ok (.iconst 2, 1) := by decide +kernel
theorem d_Model_tail_2 : decode b_Model_tail 2 = .ok (.iconst 4, 1) := by decide +kernel
theorem d_Model_tail_3 : decode b_Model_tail 3 = .ok (.invokevirtual 246, 3) := by decide +kernel
theorem d_Model_tail_6 : decode b_Model_tail 6 = .ok (.ifCond .eq 10, 3) := by decide +kernel
theorem d_Model_tail_9 : decode b_Model_tail 9 = .ok (.aload_n 0, 1) := by decide +kernel
theorem d_Model_tail_10 : decode b_Model_tail 10 = .ok (.invokevirtual 321, 3) := by decide +kernel
theorem d_Model_tail_13 : decode b_Model_tail 13 = .ok (.ifCond .eq 5, 3) := by decide +kernel
theorem d_Model_tail_16 : decode b_Model_tail 16 = .ok (.iconst 4, 1) := by decide +kernel
theorem d_Model_tail_17 : decode b_Model_tail 17 = .ok (.ireturn, 1) := by decide +kernel
theorem d_Model_tail_18 : decode b_Model_tail 18 = .ok (.aload_n 0, 1) := by decide +kernel
theorem d_Model_tail_19 : decode b_Model_tail 19 = .ok (.getfield 53, 3) := by decide +kernel
theorem d_Model_tail_22 : decode b_Model_tail 22 = .ok (.aload_n 0, 1) := by decide +kernel
theorem d_Model_tail_23 : decode b_Model_tail 23 = .ok (.getfield 142, 3) := by decide +kernel
theorem d_Model_tail_26 : decode b_Model_tail 26 = .ok (.iconst 1, 1) := by decide +kernel
theorem d_Model_tail_27 : decode b_Model_tail 27 = .ok (.isub, 1) := by decide +kernel
theorem d_Model_tail_28 : decode b_Model_tail 28 = .ok (.iaload, 1) := by decide +kernel
theorem d_Model_tail_29 : decode b_Model_tail 29 = .ok (.istore_n 1, 1) := by decide +kernel
theorem d_Model_tail_30 : decode b_Model_tail 30 = .ok (.aload_n 0, 1) := by decide +kernel
theorem d_Model_tail_31 : decode b_Model_tail 31 = .ok (.getfield 50, 3) := by decide +kernel
theorem d_Model_tail_34 : decode b_Model_tail 34 = .ok (.aload_n 0, 1) := by decide +kernel
theorem d_Model_tail_35 : decode b_Model_tail 35 = .ok (.getfield 142, 3) := by decide +kernel
theorem d_Model_tail_38 : decode b_Model_tail 38 = .ok (.iconst 1, 1) := by decide +kernel
theorem d_Model_tail_39 : decode b_Model_tail 39 = .ok (.isub, 1) := by decide +kernel
theorem d_Model_tail_40 : decode b_Model_tail 40 = .ok (.aload_n 0, 1) := by decide +kernel
theorem d_Model_tail_41 : decode b_Model_tail 41 = .ok (.iconst 2, 1) := by decide +kernel
theorem d_Model_tail_42 : decode b_Model_tail 42 = .ok (.invokevirtual 250, 3) := by decide +kernel
theorem d_Model_tail_45 : decode b_Model_tail 45 = .ok (.iastore, 1) := by decide +kernel
theorem d_Model_tail_46 : decode b_Model_tail 46 = .ok (.aload_n 0, 1) := by decide +kernel
theorem d_Model_tail_47 : decode b_Model_tail 47 = .ok (.getfield 63, 3) := by decide +kernel
theorem d_Model_tail_50 : decode b_Model_tail 50 = .ok (.iload_n 1, 1) := by decide +kernel
theorem d_Model_tail_51 : decode b_Model_tail 51 = .ok (.aload_n 0, 1) := by decide +kernel
theorem d_Model_tail_52 : decode b_Model_tail 52 = .ok (.getfield 63, 3) := by decide +kernel
theorem d_Model_tail_55 : decode b_Model_tail 55 = .ok (.aload_n 0, 1) := by decide +kernel
theorem d_Model_tail_56 : decode b_Model_tail 56 = .ok (.getfield 135, 3) := by decide +kernel
theorem d_Model_tail_59 : decode b_Model_tail 59 = .ok (.iconst 1, 1) := by decide +kernel
theorem d_Model_tail_60 : decode b_Model_tail 60 = .ok (.isub, 1) := by decide +kernel
theorem d_Model_tail_61 : decode b_Model_tail 61 = .ok (.iaload, 1) := by decide +kernel
theorem d_Model_tail_62 : decode b_Model_tail 62 = .ok (.iastore, 1) := by decide +kernel
theorem d_Model_tail_63 : decode b_Model_tail 63 = .ok (.aload_n 0, 1) := by decide +kernel
theorem d_Model_tail_64 : decode b_Model_tail 64 = .ok (.getfield 66, 3) := by decide +kernel
theorem d_Model_tail_67 : decode b_Model_tail 67 = .ok (.iload_n 1, 1) := by decide +kernel
theorem d_Model_tail_68 : decode b_Model_tail 68 = .ok (.aload_n 0, 1) := by decide +kernel
theorem d_Model_tail_69 : decode b_Model_tail 69 = .ok (.getfield 66, 3) := by decide +kernel
theorem d_Model_tail_72 : decode b_Model_tail 72 = .ok (.aload_n 0, 1) := by decide +kernel
theorem d_Model_tail_73 : decode b_Model_tail 73 = .ok (.getfield 135, 3) := by decide +kernel
theorem d_Model_tail_76 : decode b_Model_tail 76 = .ok (.iconst 1, 1) := by decide +kernel
theorem d_Model_tail_77 : decode b_Model_tail 77 = .ok (.isub, 1) := by decide +kernel
theorem d_Model_tail_78 : decode b_Model_tail 78 = .ok (.iaload, 1) := by decide +kernel
theorem d_Model_tail_79 : decode b_Model_tail 79 = .ok (.iastore, 1) := by decide +kernel
theorem d_Model_tail_80 : decode b_Model_tail 80 = .ok (.aload_n 0, 1) := by decide +kernel
theorem d_Model_tail_81 : decode b_Model_tail 81 = .ok (.getfield 56, 3) := by decide +kernel
theorem d_Model_tail_84 : decode b_Model_tail 84 = .ok (.aload_n 0, 1) := by decide +kernel
theorem d_Model_tail_85 : decode b_Model_tail 85 = .ok (.getfield 142, 3) := by decide +kernel
theorem d_Model_tail_88 : decode b_Model_tail 88 = .ok (.iconst 1, 1) := by decide +kernel
theorem d_Model_tail_89 : decode b_Model_tail 89 = .ok (.isub, 1) := by decide +kernel
theorem d_Model_tail_90 : decode b_Model_tail 90 = .ok (.iconst 1, 1) := by decide +kernel
theorem d_Model_tail_91 : decode b_Model_tail 91 = .ok (.iastore, 1) := by decide +kernel
theorem d_Model_tail_92 : decode b_Model_tail 92 = .ok (.aload_n 0, 1) := by decide +kernel
theorem d_Model_tail_93 : decode b_Model_tail 93 = .ok (.iload_n 1, 1) := by decide +kernel
theorem d_Model_tail_94 : decode b_Model_tail 94 = .ok (.iconst 1, 1) := by decide +kernel
theorem d_Model_tail_95 : decode b_Model_tail 95 = .ok (.iadd, 1) := by decide +kernel
theorem d_Model_tail_96 : decode b_Model_tail 96 = .ok (.putfield 135, 3) := by decide +kernel
theorem d_Model_tail_99 : decode b_Model_tail 99 = .ok (.aload_n 0, 1) := by decide +kernel
theorem d_Model_tail_100 : decode b_Model_tail 100 = .ok (.aload_n 0, 1) := by decide +kernel
theorem d_Model_tail_101 : decode b_Model_tail 101 = .ok (.getfield 14, 3) := by decide +kernel
theorem d_Model_tail_104 : decode b_Model_tail 104 = .ok (.aload_n 0, 1) := by decide +kernel
theorem d_Model_tail_105 : decode b_Model_tail 105 = .ok (.getfield 50, 3) := by decide +kernel
theorem d_Model_tail_108 : decode b_Model_tail 108 = .ok (.aload_n 0, 1) := by decide +kernel
theorem d_Model_tail_109 : decode b_Model_tail 109 = .ok (.getfield 142, 3) := by decide +kernel
theorem d_Model_tail_112 : decode b_Model_tail 112 = .ok (.iconst 1, 1) := by decide +kernel
theorem d_Model_tail_113 : decode b_Model_tail 113 = .ok (.isub, 1) := by decide +kernel
theorem d_Model_tail_114 : decode b_Model_tail 114 = .ok (.iaload, 1) := by decide +kernel
theorem d_Model_tail_115 : decode b_Model_tail 115 = .ok (.iaload, 1) := by decide +kernel
theorem d_Model_tail_116 : decode b_Model_tail 116 = .ok (.putfield 185, 3) := by decide +kernel
theorem d_Model_tail_119 : decode b_Model_tail 119 = .ok (.iconst 5, 1) := by decide +kernel
theorem d_Model_tail_120 : decode b_Model_tail 120 = .ok (.ireturn, 1) := by decide +kernel
theorem d_Model_back_0 : decode b_Model_back 0 = .ok (.aload_n 0, 1) := by decide +kernel
theorem d_Model_back_1 : decode b_Model_back 1 = .ok (.getfield 142, 3) := by decide +kernel
theorem d_Model_back_4 : decode b_Model_back 4 = .ok (.iconst 1, 1) := by decide +kernel
theorem d_Model_back_5 : decode b_Model_back 5 = .ok (.if_icmp .eq 10, 3) := by decide +kernel
theorem d_Model_back_8 : decode b_Model_back 8 = .ok (.aload_n 0, 1) := by decide +kernel
theorem d_Model_back_9 : decode b_Model_back 9 = .ok (.invokevirtual 321, 3) := by decide +kernel
theorem d_Model_back_12 : decode b_Model_back 12 = .ok (.ifCond .eq 5, 3) := by decide +kernel
theorem d_Model_back_15 : decode b_Model_back 15 = .ok (.iconst 4, 1) := by decide +kernel
theorem d_Model_back_16 : decode b_Model_back 16 = .ok (.ireturn, 1) := by decide +kernel
theorem d_Model_back_17 : decode b_Model_back 17 = .ok (.aload_n 0, 1) := by decide +kernel
theorem d_Model_back_18 : decode b_Model_back 18 = .ok (.getfield 63, 3) := by decide +kernel
theorem d_Model_back_21 : decode b_Model_back 21 = .ok (.aload_n 0, 1) := by decide +kernel
theorem d_Model_back_22 : decode b_Model_back 22 = .ok (.getfield 135, 3) := by decide +kernel
theorem d_Model_back_25 : decode b_Model_back 25 = .ok (.iconst 1, 1) := by decide +kernel
theorem d_Model_back_26 : decode b_Model_back 26 = .ok (.isub, 1) := by decide +kernel
theorem d_Model_back_27 : decode b_Model_back 27 = .ok (.iaload, 1) := by decide +kernel
theorem d_Model_back_28 : decode b_Model_back 28 = .ok (.istore_n 1, 1) := by decide +kernel
theorem d_Model_back_29 : decode b_Model_back 29 = .ok (.aload_n 0, 1) := by decide +kernel
theorem d_Model_back_30 : decode b_Model_back 30 = .ok (.getfield 66, 3) := by decide +kernel
theorem d_Model_back_33 : decode b_Model_back 33 = .ok (.aload_n 0, 1) := by decide +kernel
theorem d_Model_back_34 : decode b_Model_back 34 = .ok (.getfield 135, 3) := by decide +kernel
theorem d_Model_back_37 : decode b_Model_back 37 = .ok (.iconst 1, 1) := by decide +kernel
theorem d_Model_back_38 : decode b_Model_back 38 = .ok (.isub, 1) := by decide +kernel
theorem d_Model_back_39 : decode b_Model_back 39 = .ok (.iaload, 1) := by decide +kernel
theorem d_Model_back_40 : decode b_Model_back 40 = .ok (.istore_n 2, 1) := by decide +kernel
theorem d_Model_back_41 : decode b_Model_back 41 = .ok (.aload_n 0, 1) := by decide +kernel
theorem d_Model_back_42 : decode b_Model_back 42 = .ok (.dup, 1) := by decide +kernel
theorem d_Model_back_43 : decode b_Model_back 43 = .ok (.getfield 142, 3) := by decide +kernel
theorem d_Model_back_46 : decode b_Model_back 46 = .ok (.iconst 1, 1) := by decide +kernel
theorem d_Model_back_47 : decode b_Model_back 47 = .ok (.isub, 1) := by decide +kernel
theorem d_Model_back_48 : decode b_Model_back 48 = .ok (.putfield 142, 3) := by decide +kernel
theorem d_Model_back_51 : decode b_Model_back 51 = .ok (.aload_n 0, 1) := by decide +kernel
theorem d_Model_back_52 : decode b_Model_back 52 = .ok (.aload_n 0, 1) := by decide +kernel
theorem d_Model_back_53 : decode b_Model_back 53 = .ok (.getfield 53, 3) := by decide +kernel
theorem d_Model_back_56 : decode b_Model_back 56 = .ok (.aload_n 0, 1) := by decide +kernel
theorem d_Model_back_57 : decode b_Model_back 57 = .ok (.getfield 142, 3) := by decide +kernel
theorem d_Model_back_60 : decode b_Model_back 60 = .ok (.iaload, 1) := by decide +kernel
theorem d_Model_back_61 : decode b_Model_back 61 = .ok (.putfield 135, 3) := by decide +kernel
theorem d_Model_back_64 : decode b_Model_back 64 = .ok (.aload_n 0, 1) := by decide +kernel
theorem d_Model_back_65 : decode b_Model_back 65 = .ok (.aload_n 0, 1) := by decide +kernel
theorem d_Model_back_66 : decode b_Model_back 66 = .ok (.getfield 59, 3) := by decide +kernel
theorem d_Model_back_69 : decode b_Model_back 69 = .ok (.aload_n 0, 1) := by decide +kernel
theorem d_Model_back_70 : decode b_Model_back 70 = .ok (.getfield 142, 3) := by decide +kernel
theorem d_Model_back_73 : decode b_Model_back 73 = .ok (.iaload, 1) := by decide +kernel
theorem d_Model_back_74 : decode b_Model_back 74 = .ok (.putfield 185, 3) := by decide +kernel
theorem d_Model_back_77 : decode b_Model_back 77 = .ok (.aload_n 0, 1) := by decide +kernel
theorem d_Model_back_78 : decode b_Model_back 78 = .ok (.iconst 0, 1) := by decide +kernel
theorem d_Model_back_79 : decode b_Model_back 79 = .ok (.iload_n 1, 1) := by decide +kernel
theorem d_Model_back_80 : decode b_Model_back 80 = .ok (.iload_n 2, 1) := by decide +kernel
theorem d_Model_back_81 : decode b_Model_back 81 = .ok (.invokevirtual 207, 3) := by decide +kernel
theorem d_Model_back_84 : decode b_Model_back 84 = .ok (.ireturn, 1) := by decide +kernel
theorem d_Model_branch_0 : decode b_Model_branch 0 = .ok (.aload_n 0, 1) := by decide +kernel
theorem d_Model_branch_1 : decode b_Model_branch 1 = .ok (.iconst 1, 1) := by decide +kernel
theorem d_Model_branch_2 : decode b_Model_branch 2 = .ok (.invokevirtual 256, 3) := by decide +kernel
theorem d_Model_branch_5 : decode b_Model_branch 5 = .ok (.ifCond .ne 5, 3) := by decide +kernel
theorem d_Model_branch_8 : decode b_Model_branch 8 = .ok (.iconst 4, 1) := by decide +kernel
theorem d_Model_branch_9 : decode b_Model_branch 9 = .ok (.ireturn, 1) := by decide +kernel
theorem d_Model_branch_10 : decode b_Model_branch 10 = .ok (.aload_n 0, 1) := by decide +kernel
theorem d_Model_branch_11 : decode b_Model_branch 11 = .ok (.iconst 1, 1) := by decide +kernel
theorem d_Model_branch_12 : decode b_Model_branch 12 = .ok (.invokevirtual 250, 3) := by decide +kernel
theorem d_Model_branch_15 : decode b_Model_branch 15 = .ok (.istore_n 3, 1) := by decide +kernel
theorem d_Model_branch_16 : decode b_Model_branch 16 = .ok (.aload_n 0, 1) := by decide +kernel
theorem d_Model_branch_17 : decode b_Model_branch 17 = .ok (.dup, 1) := by decide +kernel
theorem d_Model_branch_18 : decode b_Model_branch 18 = .ok (.getfield 135, 3) := by decide +kernel
theorem d_Model_branch_21 : decode b_Model_branch 21 = .ok (.iconst 1, 1) := by decide +kernel
theorem d_Model_branch_22 : decode b_Model_branch 22 = .ok (.isub, 1) := by decide +kernel
theorem d_Model_branch_23 : decode b_Model_branch 23 = .ok (.putfield 135, 3) := by decide +kernel
theorem d_Model_branch_26 : decode b_Model_branch 26 = .ok (.iload_n 1, 1) := by decide +kernel
theorem d_Model_branch_27 : decode b_Model_branch 27 = .ok (.iconst 2, 1) := by decide +kernel
theorem d_Model_branch_28 : decode b_Model_branch 28 = .ok (.if_icmp .ne 24, 3) := by decide +kernel
theorem d_Model_branch_31 : decode b_Model_branch 31 = .ok (.aload_n 0, 1) := by decide +kernel
theorem d_Model_branch_32 : decode b_Model_branch 32 = .ok (.iload_n 3, 1) := by decide +kernel
theorem d_Model_branch_33 : decode b_Model_branch 33 = .ok (.ifCond .ne 7, 3) := by decide +kernel
theorem d_Model_branch_36 : decode b_Model_branch 36 = .ok (.iload_n 2, 1) := by decide +kernel
theorem d_Model_branch_37 : decode b_Model_branch 37 = .ok (.goto 9, 3) := by decide +kernel
theorem d_Model_branch_40 : decode b_Model_branch 40 = .ok (.aload_n 0, 1) := by decide +kernel
theorem d_Model_branch_41 : decode b_Model_branch 41 = .ok (.getfield 185, 3) := by decide +kernel
theorem d_Model_branch_44 : decode b_Model_branch 44 = .ok (.iconst 2, 1) := by decide +kernel
theorem d_Model_branch_45 : decode b_Model_branch 45 = .ok (.iadd, 1) := by decide +kernel
theorem d_Model_branch_46 : decode b_Model_branch 46 = .ok (.putfield 185, 3) := by decide +kernel
theorem d_Model_branch_49 : decode b_Model_branch 49 = .ok (.goto 33, 3) := by decide +kernel
theorem d_Model_branch_52 : decode b_Model_branch 52 = .ok (.aload_n 0, 1) := by decide +kernel
theorem d_Model_branch_53 : decode b_Model_branch 53 = .ok (.iload_n 3, 1) := by decide +kernel
theorem d_Model_branch_54 : decode b_Model_branch 54 = .ok (.ifCond .lt 18, 3) := by decide +kernel
theorem d_Model_branch_57 : decode b_Model_branch 57 = .ok (.iload_n 3, 1) := by decide +kernel
theorem d_Model_branch_58 : decode b_Model_branch 58 = .ok (.iload_n 2, 1) := by decide +kernel
theorem d_Model_branch_59 : decode b_Model_branch 59 = .ok (.if_icmp .ge 13, 3) := by decide +kernel
theorem d_Model_branch_62 : decode b_Model_branch 62 = .ok (.aload_n 0, 1) := by decide +kernel
theorem d_Model_branch_63 : decode b_Model_branch 63 = .ok (.iconst 2, 1) := by decide +kernel
theorem d_Model_branch_64 : decode b_Model_branch 64 = .ok (.iload_n 3, 1) := by decide +kernel
theorem d_Model_branch_65 : decode b_Model_branch 65 = .ok (.iadd, 1) := by decide +kernel
theorem d_Model_branch_66 : decode b_Model_branch 66 = .ok (.invokevirtual 215, 3) := by decide +kernel
theorem d_Model_branch_69 : decode b_Model_branch 69 = .ok (.goto 10, 3) := by decide +kernel
theorem d_Model_branch_72 : decode b_Model_branch 72 = .ok (.aload_n 0, 1) := by decide +kernel
theorem d_Model_branch_73 : decode b_Model_branch 73 = .ok (.iconst 2, 1) := by decide +kernel
theorem d_Model_branch_74 : decode b_Model_branch 74 = .ok (.iload_n 2, 1) := by decide +kernel
theorem d_Model_branch_75 : decode b_Model_branch 75 = .ok (.iadd, 1) := by decide +kernel
theorem d_Model_branch_76 : decode b_Model_branch 76 = .ok (.invokevirtual 215, 3) := by decide +kernel
theorem d_Model_branch_79 : decode b_Model_branch 79 = .ok (.putfield 185, 3) := by decide +kernel
theorem d_Model_branch_82 : decode b_Model_branch 82 = .ok (.iconst 5, 1) := by decide +kernel
theorem d_Model_branch_83 : decode b_Model_branch 83 = .ok (.ireturn, 1) := by decide +kernel
theorem d_Model_assign_0 : decode b_Model_assign 0 = .ok (.aload_n 0, 1) := by decide +kernel
theorem d_Model_assign_1 : decode b_Model_assign 1 = .ok (.iconst 2, 1) := by decide +kernel
theorem d_Model_assign_2 : decode b_Model_assign 2 = .ok (.iconst 5, 1) := by decide +kernel
theorem d_Model_assign_3 : decode b_Model_assign 3 = .ok (.invokevirtual 246, 3) := by decide +kernel
theorem d_Model_assign_6 : decode b_Model_assign 6 = .ok (.ifCond .ne 5, 3) := by decide +kernel
theorem d_Model_assign_9 : decode b_Model_assign 9 = .ok (.iconst 4, 1) := by decide +kernel
theorem d_Model_assign_10 : decode b_Model_assign 10 = .ok (.ireturn, 1) := by decide +kernel
theorem d_Model_assign_11 : decode b_Model_assign 11 = .ok (.aload_n 0, 1) := by decide +kernel
theorem d_Model_assign_12 : decode b_Model_assign 12 = .ok (.iconst 2, 1) := by decide +kernel
theorem d_Model_assign_13 : decode b_Model_assign 13 = .ok (.invokevirtual 250, 3) := by decide +kernel
theorem d_Model_assign_16 : decode b_Model_assign 16 = .ok (.istore_n 1, 1) := by decide +kernel
theorem d_Model_assign_17 : decode b_Model_assign 17 = .ok (.aload_n 0, 1) := by decide +kernel
theorem d_Model_assign_18 : decode b_Model_assign 18 = .ok (.getfield 10, 3) := by decide +kernel
theorem d_Model_assign_21 : decode b_Model_assign 21 = .ok (.iload_n 1, 1) := by decide +kernel
theorem d_Model_assign_22 : decode b_Model_assign 22 = .ok (.iconst 1, 1) := by decide +kernel
theorem d_Model_assign_23 : decode b_Model_assign 23 = .ok (.iadd, 1) := by decide +kernel
theorem d_Model_assign_24 : decode b_Model_assign 24 = .ok (.aload_n 0, 1) := by decide +kernel
theorem d_Model_assign_25 : decode b_Model_assign 25 = .ok (.getfield 63, 3) := by decide +kernel
theorem d_Model_assign_28 : decode b_Model_assign 28 = .ok (.aload_n 0, 1) := by decide +kernel
theorem d_Model_assign_29 : decode b_Model_assign 29 = .ok (.getfield 135, 3) := by decide +kernel
theorem d_Model_assign_32 : decode b_Model_assign 32 = .ok (.iconst 1, 1) := by decide +kernel
theorem d_Model_assign_33 : decode b_Model_assign 33 = .ok (.isub, 1) := by decide +kernel
theorem d_Model_assign_34 : decode b_Model_assign 34 = .ok (.iaload, 1) := by decide +kernel
theorem d_Model_assign_35 : decode b_Model_assign 35 = .ok (.iastore, 1) := by decide +kernel
theorem d_Model_assign_36 : decode b_Model_assign 36 = .ok (.aload_n 0, 1) := by decide +kernel
theorem d_Model_assign_37 : decode b_Model_assign 37 = .ok (.getfield 14, 3) := by decide +kernel
theorem d_Model_assign_40 : decode b_Model_assign 40 = .ok (.iload_n 1, 1) := by decide +kernel
theorem d_Model_assign_41 : decode b_Model_assign 41 = .ok (.iconst 1, 1) := by decide +kernel
theorem d_Model_assign_42 : decode b_Model_assign 42 = .ok (.iadd, 1) := by decide +kernel
theorem d_Model_assign_43 : decode b_Model_assign 43 = .ok (.aload_n 0, 1) := by decide +kernel
theorem d_Model_assign_44 : decode b_Model_assign 44 = .ok (.getfield 66, 3) := by decide +kernel
theorem d_Model_assign_47 : decode b_Model_assign 47 = .ok (.aload_n 0, 1) := by decide +kernel
theorem d_Model_assign_48 : decode b_Model_assign 48 = .ok (.getfield 135, 3) := by decide +kernel
theorem d_Model_assign_51 : decode b_Model_assign 51 = .ok (.iconst 1, 1) := by decide +kernel
theorem d_Model_assign_52 : decode b_Model_assign 52 = .ok (.isub, 1) := by decide +kernel
theorem d_Model_assign_53 : decode b_Model_assign 53 = .ok (.iaload, 1) := by decide +kernel
theorem d_Model_assign_54 : decode b_Model_assign 54 = .ok (.iastore, 1) := by decide +kernel
theorem d_Model_assign_55 : decode b_Model_assign 55 = .ok (.aload_n 0, 1) := by decide +kernel
theorem d_Model_assign_56 : decode b_Model_assign 56 = .ok (.dup, 1) := by decide +kernel
theorem d_Model_assign_57 : decode b_Model_assign 57 = .ok (.getfield 135, 3) := by decide +kernel
theorem d_Model_assign_60 : decode b_Model_assign 60 = .ok (.iconst 2, 1) := by decide +kernel
theorem d_Model_assign_61 : decode b_Model_assign 61 = .ok (.isub, 1) := by decide +kernel
theorem d_Model_assign_62 : decode b_Model_assign 62 = .ok (.putfield 135, 3) := by decide +kernel
theorem d_Model_assign_65 : decode b_Model_assign 65 = .ok (.iconst 5, 1) := by decide +kernel
theorem d_Model_assign_66 : decode b_Model_assign 66 = .ok (.ireturn, 1) := by decide +kernel
theorem k787 : Cond.code y_Model_hasRoom b_Model_hasRoom 2 (some .boolean) ∈ lw_g := kg (List.mem_append_right _ (List.mem_of_getElem? (i := 1251) (by decide +kernel))) rfl
theorem k788 : Cond.methodLink R_Model 167 y_Model_hasRoom ∈ lw_g := kg (List.mem_append_right _ (List.mem_of_getElem? (i := 1248) (by decide +kernel))) rfl
theorem k789 : Cond.instanceMethod y_Model_hasRoom ∈ lw_g := kg (List.mem_append_right _ (List.mem_of_getElem? (i := 1250) (by decide +kernel))) rfl
theorem k790 : Cond.selects R_Model y_Model_hasRoom y_Model_hasRoom ∈ lw_g := kg (List.mem_append_left _ (List.mem_of_getElem? (i := 47) (by decide +kernel))) rfl
theorem k791 : Cond.code y_Model_string b_Model_string 4 (some .int) ∈ lw_g := kg (List.mem_append_right _ (List.mem_of_getElem? (i := 1291) (by decide +kernel))) rfl
theorem k792 : Cond.methodLink R_Model 311 y_Model_string ∈ lw_g := kg (List.mem_append_right _ (List.mem_of_getElem? (i := 1288) (by decide +kernel))) rfl
theorem k793 : Cond.instanceMethod y_Model_string ∈ lw_g := kg (List.mem_append_right _ (List.mem_of_getElem? (i := 1290) (by decide +kernel))) rfl
theorem k794 : Cond.selects R_Model y_Model_string y_Model_string ∈ lw_g := kg (List.mem_append_left _ (List.mem_of_getElem? (i := 57) (by decide +kernel))) rfl
theorem k795 : Cond.code y_Model_setByte b_Model_setByte 4 none ∈ lw_g := kg (List.mem_append_right _ (List.mem_of_getElem? (i := 1299) (by decide +kernel))) rfl
theorem k796 : Cond.methodLink R_Model 314 y_Model_setByte ∈ lw_g := kg (List.mem_append_right _ (List.mem_of_getElem? (i := 1296) (by decide +kernel))) rfl
theorem k797 : Cond.instanceMethod y_Model_setByte ∈ lw_g := kg (List.mem_append_right _ (List.mem_of_getElem? (i := 1298) (by decide +kernel))) rfl
theorem k798 : Cond.selects R_Model y_Model_setByte y_Model_setByte ∈ lw_g := kg (List.mem_append_left _ (List.mem_of_getElem? (i := 59) (by decide +kernel))) rfl
theorem k799 : Cond.code y_Model_more b_Model_more 3 (some .int) ∈ lw_g := kg (List.mem_append_right _ (List.mem_of_getElem? (i := 1235) (by decide +kernel))) rfl
theorem k800 : Cond.methodLink R_Model 225 y_Model_more ∈ lw_g := kg (List.mem_append_right _ (List.mem_of_getElem? (i := 1232) (by decide +kernel))) rfl
theorem k801 : Cond.instanceMethod y_Model_more ∈ lw_g := kg (List.mem_append_right _ (List.mem_of_getElem? (i := 1234) (by decide +kernel))) rfl
theorem k802 : Cond.selects R_Model y_Model_more y_Model_more ∈ lw_g := kg (List.mem_append_left _ (List.mem_of_getElem? (i := 43) (by decide +kernel))) rfl
theorem k803 : Cond.code y_Model_scalar b_Model_scalar 2 (some .int) ∈ lw_g := kg (List.mem_append_right _ (List.mem_of_getElem? (i := 1323) (by decide +kernel))) rfl
theorem k804 : Cond.methodLink R_Model 250 y_Model_scalar ∈ lw_g := kg (List.mem_append_right _ (List.mem_of_getElem? (i := 1320) (by decide +kernel))) rfl
theorem k805 : Cond.instanceMethod y_Model_scalar ∈ lw_g := kg (List.mem_append_right _ (List.mem_of_getElem? (i := 1322) (by decide +kernel))) rfl
theorem k806 : Cond.selects R_Model y_Model_scalar y_Model_scalar ∈ lw_g := kg (List.mem_append_left _ (List.mem_of_getElem? (i := 65) (by decide +kernel))) rfl
theorem k807 : Cond.code y_Model_is b_Model_is 3 (some .boolean) ∈ lw_g := kg (List.mem_append_right _ (List.mem_of_getElem? (i := 1319) (by decide +kernel))) rfl
theorem k808 : Cond.methodLink R_Model 246 y_Model_is ∈ lw_g := kg (List.mem_append_right _ (List.mem_of_getElem? (i := 1316) (by decide +kernel))) rfl
theorem k809 : Cond.instanceMethod y_Model_is ∈ lw_g := kg (List.mem_append_right _ (List.mem_of_getElem? (i := 1318) (by decide +kernel))) rfl
theorem k810 : Cond.selects R_Model y_Model_is y_Model_is ∈ lw_g := kg (List.mem_append_left _ (List.mem_of_getElem? (i := 64) (by decide +kernel))) rfl
theorem k811 : Cond.fieldLink R_Model 59 "CellEngineModel" "backs" "[I" ∈ lw_g := kg (List.mem_append_right _ (List.mem_of_getElem? (i := 1045) (by decide +kernel))) rfl
theorem k812 : Cond.fieldLink R_Model 69 "CellEngineModel" "handlerFrames" "[I" ∈ lw_g := kg (List.mem_append_right _ (List.mem_of_getElem? (i := 1050) (by decide +kernel))) rfl
theorem k813 : Cond.code y_Model_hasHandlers b_Model_hasHandlers 1 (some .boolean) ∈ lw_g := kg (List.mem_append_right _ (List.mem_of_getElem? (i := 1347) (by decide +kernel))) rfl
theorem k814 : Cond.methodLink R_Model 321 y_Model_hasHandlers ∈ lw_g := kg (List.mem_append_right _ (List.mem_of_getElem? (i := 1344) (by decide +kernel))) rfl
theorem k815 : Cond.instanceMethod y_Model_hasHandlers ∈ lw_g := kg (List.mem_append_right _ (List.mem_of_getElem? (i := 1346) (by decide +kernel))) rfl
theorem k816 : Cond.selects R_Model y_Model_hasHandlers y_Model_hasHandlers ∈ lw_g := kg (List.mem_append_left _ (List.mem_of_getElem? (i := 71) (by decide +kernel))) rfl
theorem k817 : Cond.code y_Model_isScalar b_Model_isScalar 2 (some .boolean) ∈ lw_g := kg (List.mem_append_right _ (List.mem_of_getElem? (i := 1331) (by decide +kernel))) rfl
theorem k818 : Cond.methodLink R_Model 256 y_Model_isScalar ∈ lw_g := kg (List.mem_append_right _ (List.mem_of_getElem? (i := 1328) (by decide +kernel))) rfl
theorem k819 : Cond.instanceMethod y_Model_isScalar ∈ lw_g := kg (List.mem_append_right _ (List.mem_of_getElem? (i := 1330) (by decide +kernel))) rfl
theorem k820 : Cond.selects R_Model y_Model_isScalar y_Model_isScalar ∈ lw_g := kg (List.mem_append_left _ (List.mem_of_getElem? (i := 67) (by decide +kernel))) rfl
theorem k821 : Cond.code y_Model_word b_Model_word 2 (some .int) ∈ lw_g := kg (List.mem_append_right _ (List.mem_of_getElem? (i := 1224) (by decide +kernel))) rfl
theorem k822 : Cond.methodLink R_Model 215 y_Model_word ∈ lw_g := kg (List.mem_append_right _ (List.mem_of_getElem? (i := 1221) (by decide +kernel))) rfl
theorem k823 : Cond.instanceMethod y_Model_word ∈ lw_g := kg (List.mem_append_right _ (List.mem_of_getElem? (i := 1223) (by decide +kernel))) rfl
theorem k824 : Cond.selects R_Model y_Model_word y_Model_word ∈ lw_g := kg (List.mem_append_left _ (List.mem_of_getElem? (i := 41) (by decide +kernel))) rfl
set_option maxHeartbeats 4000000 in
set_option maxRecDepth 100000 in
theorem l_Model_text_1 {p : Program} {l : Launch} {e : Env} {s : State} {m : MethodId} {args : Array Value} {below : List Frame} {meth : Method} {c : Code} {Q : State → Prop} {A : Nat → Prop} (dC : Nat → ClassId) (dI : Nat → Nat → Nat) (N : Nat) (cB : ClassId) (cI : ClassId) (o_Model : Nat) (r : Nat → Nat) (F : Nat → Nat → Int32) (p0 : Int32) (z10_1 : Int32) (z10_3 : Nat → Int32) {ζ : Type} {z : ζ} (hx : p.tables.exec = Jvm.exec) (hb : c.code = b_Model_text) (hml : c.maxLocals = 5) (hown : s.vm.findClass R_Model = some m.cls) (hg : ∀ w ∈ lw_g, w.before args s = true) (hN : dz_N s) (hK : va_K (dC, dI) classes [(cB, .byte), (cI, .int)] s) (hA : ∀ q : Nat, s.heap.size ≤ q → A q) {k1_97 : Int32 → (Nat → Nat → Int32) → Option (ζ)} (hk1_97 : ∀ (v1_4 : Int32) (w1_F : (Nat → Nat → Int32))    (H : Heap) (locs : List Loc) (ls : Array Slot), k1_97 v1_4 w1_F = some z → va_P (dC, dI) classes (wD cB cI o_Model r z10_3 w1_F) H → va_D A (wD cB cI o_Model r z10_3 w1_F) → va_S A s.heap H locs → lv_has ls 5 [(4, .int v1_4), (3, .int z10_1), (2, .int (((F 17) (p0 + 1).toNatClampNeg) - ((F 17) p0.toNatClampNeg))), (0, .ref o_Model), (1, .int p0)] → W p l e ({ frames := 7, cells := 0, slots := 0, locals := 150 } : Room) s m args below meth c H locs 0 0 Q (F0 m 97 ls [])) : ∀ (n1 : Nat) (v1_4 : Int32) (w1_F : (Nat → Nat → Int32))   (H : Heap) (locs : List Loc) (ls : Array Slot), lm_Model_text_1 N F p0 z10_1 z10_3 k1_97 n1 v1_4 w1_F = some z → va_P (dC, dI) classes (wD cB cI o_Model r z10_3 w1_F) H → va_D A (wD cB cI o_Model r z10_3 w1_F) → va_S A s.heap H locs → lv_has ls 5 [(4, .int v1_4), (3, .int z10_1), (2, .int (((F 17) (p0 + 1).toNatClampNeg) - ((F 17) p0.toNatClampNeg))), (0, .ref o_Model), (1, .int p0)] → W p l e ({ frames := 7, cells := 0, slots := 0, locals := 150 } : Room) s m args below meth c H locs 0 0 Q (F0 m 64 ls []) := by
  intro n1
  induction n1 with
  | zero =>
    intro v1_4 w1_F H locs ls h hP hD hS hl
    rw [lm_Model_text_1] at h
    cases h
  | succ n1 ih1 =>
    intro v1_4 w1_F H locs ls h hP hD hS hl
    rw [lm_Model_text_1] at h
    refine lv_iload hx hb d_Model_text_64 (lv_at hl 0 rfl) ?_
    refine lv_iload_n hx hb d_Model_text_66 rfl (lv_at hl 2 rfl) ?_
    refine lv_icmp_ge (tgt := 97) hx hb d_Model_text_67 (by decide) (fun c11 => ?_) (fun c11 => ?_)
    · rw [if_pos c11] at h
      exact hk1_97 v1_4 w1_F _ _ _ h hP hD hS (lv_sub hl [0, 1, 2, 3, 4] rfl)
    · rw [if_neg c11] at h
      refine lv_aload_n hx hb d_Model_text_70 rfl (lv_at hl 3 rfl) ?_
      refine lv_iload_n hx hb d_Model_text_71 rfl (lv_at hl 1 rfl) ?_
      refine lv_iload hx hb d_Model_text_72 (lv_at hl 0 rfl) ?_
      refine lv_aload_n hx hb d_Model_text_74 rfl (lv_at hl 3 rfl) ?_
      refine va_get (D := (dC, dI)) (ci := 10) (v := .ref (r 16)) (C := R_Model) (T := F_Model) (N := 54) hx hb hg i_Model hown hK hP 0 rfl rfl 16 (by decide) (hg _ k709) (fun _ h9 => h9) rfl d_Model_text_75 ?_
      refine lv_aload_n hx hb d_Model_text_78 rfl (lv_at hl 3 rfl) ?_
      refine va_get (D := (dC, dI)) (ci := 10) (v := .ref (r 17)) (C := R_Model) (T := F_Model) (N := 54) hx hb hg i_Model hown hK hP 0 rfl rfl 17 (by decide) (hg _ k710) (fun _ h9 => h9) rfl d_Model_text_79 ?_
      refine lv_iload_n hx hb d_Model_text_82 rfl (lv_at hl 4 rfl) ?_
      obtain ⟨i12, h⟩ := dz_oi h
      refine va_iald (D := (dC, dI)) (f := w1_F 17) hx hb hK hP 12 1 rfl rfl i12 d_Model_text_83 ?_
      refine lv_iload hx hb d_Model_text_84 (lv_at hl 0 rfl) ?_
      refine lv_iadd hx hb d_Model_text_86 ?_
      obtain ⟨i13, h⟩ := dz_oi h
      refine va_bald (D := (dC, dI)) (f := w1_F 16) hx hb hK hP 11 0 rfl rfl i13 d_Model_text_87 ?_
      obtain ⟨z14_1, hc14, h⟩ := dz_ob h
      try dsimp only at h
      have hPc := hP
      have hKc := hK
      have hDc := hD
      have hFc := dz_freeall hD hS hA
      refine va_callv (va_runV (As := [.int z10_1, .int v1_4, .int ((w1_F 16) (((w1_F 17) p0.toNatClampNeg) + v1_4).toNatClampNeg)]) (rest := []) ⟨hx, hb, hml, hown, hg⟩ (c_Model_setByte l dC dI N cB cI o_Model r z10_3 w1_F z10_1 v1_4 ((w1_F 16) (((w1_F 17) p0.toNatClampNeg) + v1_4).toNatClampNeg) H.size z14_1 hc14) (cwV 3 hg (gd_V k796 k797 k798 k707 k795) rfl rfl rfl (by decide +kernel) ⟨Nat.le_of_ble_eq_true rfl, Nat.le_of_ble_eq_true rfl⟩) ⟨dz_blind, va_recv hKc hPc (ci := 10) (q0 := 0) rfl rfl, fun U hU hW => ⟨rfl, dz_Nw hW hN, by rw [hU], by rw [hU]; exact hPc, va_K.moved hW.alike hKc, hDc.weaken (fun _ _ _ _ => trivial)⟩⟩ rfl rfl hl.1 rfl (lv_room (Nat.le_of_ble_eq_true rfl)) d_Model_text_88 ⟨Nat.le_of_ble_eq_true rfl, Nat.le_of_ble_eq_true rfl⟩) hS (fun q _ h => hFc q h) hFc (fun u14 t14 H1 locs ht hvm hw hB hz1 hk1 hS => ?_)
      obtain ⟨hP1, hK1, hD1⟩ := hB
      rw [ht] at hP1
      have hP := hP1
      have hD := hD1.weaken (fun _ q _ h => hFc q.1 h)
      generalize H1 = H at hP hS ⊢
      have hP : va_P (dC, dI) classes (wD cB cI o_Model r z10_3 z14_1) H := hP
      have hD : va_D A (wD cB cI o_Model r z10_3 z14_1) := hD
      refine lv_iinc (v := v1_4 + 1) (lv' := [(4, .int (v1_4 + 1)), (3, .int z10_1), (2, .int (((F 17) (p0 + 1).toNatClampNeg) - ((F 17) p0.toNatClampNeg))), (0, .ref o_Model), (1, .int p0)]) hx hb d_Model_text_91 hl (k := 0) rfl rfl (by decide) rfl (fun ls hl => ?_)
      refine lv_goto (tgt := 64) hx hb d_Model_text_94 (by decide) ?_
      exact ih1 (v1_4 + 1) z14_1 _ _ _ h hP hD hS (lv_sub hl [0, 1, 2, 3, 4] rfl)
set_option maxHeartbeats 4000000 in
set_option maxRecDepth 100000 in
theorem c_Model_text (l : Launch) (dC : Nat → ClassId) (dI : Nat → Nat → Nat) (N : Nat) (cB : ClassId) (cI : ClassId) (o_Model : Nat) (r : Nat → Nat) (I : Nat → Int32) (F : Nat → Nat → Int32) (p0 : Int32) (sz : Nat) (z : Int32 × (Nat → Nat → Int32) × (Nat → Int32)) (h : m_Model_text N I F p0 = some z) : Met l y_Model_text (.code y_Model_text b_Model_text 5 (some .int) :: lw_g) ({ frames := 7, cells := 0, slots := 0, locals := 150 }) (va_Pc [.ref o_Model, .int p0] (fun U => dz_N U ∧ U.heap.size = sz ∧ va_P (dC, dI) classes (wD cB cI o_Model r I F) U.heap ∧ va_K (dC, dI) classes [(cB, .byte), (cI, .int)] U ∧ va_D (fun _ => True) (wD cB cI o_Model r I F))) (va_Qi (fun (r : Int32) (_ : Unit) => r = z.1) (fun (u : Unit) t => va_P (dC, dI) classes (wD cB cI o_Model r z.2.2 z.2.1) t.heap ∧ va_K (dC, dI) classes [(cB, .byte), (cI, .int)] t ∧ va_D (va_A (wD cB cI o_Model r I F) sz) (wD cB cI o_Model r z.2.2 z.2.1)) (va_A (wD cB cI o_Model r I F) sz)) 0 0 (va_A (wD cB cI o_Model r I F) sz) := by
  refine Met.ofW (cc := b_Model_text) (maxL := 5) (ret := (some .int)) (by decide +kernel) rfl ?_
  intro p e s m args below meth c s₁ B hml hv
  obtain ⟨rfl, hN, hsz, hP, hK, hD0⟩ := hv
  have hx := B.exec
  have hb := B.bytes
  have hr := B.returns
  have hg : ∀ w ∈ lw_g, w.before _ s = true := fun w hw => atoms_spec (ws := .code y_Model_text b_Model_text 5 (some .int) :: lw_g) B.pre w (List.mem_cons_of_mem _ hw)
  have hown : s.vm.findClass R_Model = some m.cls := findClass_of_methodNamed B.named
  have hlocks := B.notSynchronized
  clear B
  subst hsz
  have hD := hD0.self (sz := s.heap.size)
  generalize hAe : va_A (wD cB cI o_Model r I F) s.heap.size = A at hD ⊢
  have hA : ∀ q : Nat, s.heap.size ≤ q → A q := fun q h => by rw [← hAe]; exact Or.inr h
  have hS : va_S A s.heap s.heap [] := va_S.rf
  have hP : va_P (dC, dI) classes (wD cB cI o_Model r I F) s.heap := hP
  have hl := lv_entry ([.ref o_Model, .int p0]) (n := 5) (Nat.le_of_ble_eq_true rfl)
  rw [lg_entry_eq]
  generalize (lg_sl ([.ref o_Model, .int p0]) ++ List.replicate (5 - (lg_sl ([.ref o_Model, .int p0])).length) Slot.unset).toArray = ls at hl ⊢
  have hl : lv_has ls 5 [(0, .ref o_Model), (1, .int p0)] := hl
  unfold m_Model_text at h
  refine lv_iload_n hx hb d_Model_text_0 rfl (lv_at hl 1 rfl) ?_
  refine lv_if_lt (tgt := 12) hx hb d_Model_text_1 (by decide) (fun c1 => ?_) (fun c1 => ?_)
  · rw [if_pos c1] at h
    refine lv_iconst (v := 4) hx hb d_Model_text_12 (by decide) ?_
    obtain rfl := Option.some.inj h
    have hP9 := hP
    have hD9 := hD
    have hK9 := hK
    exact W.iret (v := 4) hx hb hr (fun t ht hW => ⟨⟨4, (), rfl, rfl, by rw [ht]; exact hP9, va_K.moved hW.alike hK9, hD9⟩, hS.F ht⟩) hS.2.2 d_Model_text_13
  · rw [if_neg c1] at h
    refine lv_iload_n hx hb d_Model_text_4 rfl (lv_at hl 1 rfl) ?_
    refine lv_aload_n hx hb d_Model_text_5 rfl (lv_at hl 0 rfl) ?_
    refine va_get (D := (dC, dI)) (ci := 10) (v := .int (I 18)) (C := R_Model) (T := F_Model) (N := 54) hx hb hg i_Model hown hK hP 0 rfl rfl 18 (by decide) (hg _ k711) (fun _ h9 => h9) rfl d_Model_text_6 ?_
    refine lv_icmp_lt (tgt := 14) hx hb d_Model_text_9 (by decide) (fun c2 => ?_) (fun c2 => ?_)
    · rw [if_pos c2] at h
      refine lv_aload_n hx hb d_Model_text_14 rfl (lv_at hl 0 rfl) ?_
      refine va_get (D := (dC, dI)) (ci := 10) (v := .ref (r 17)) (C := R_Model) (T := F_Model) (N := 54) hx hb hg i_Model hown hK hP 0 rfl rfl 17 (by decide) (hg _ k710) (fun _ h9 => h9) rfl d_Model_text_15 ?_
      refine lv_iload_n hx hb d_Model_text_18 rfl (lv_at hl 1 rfl) ?_
      refine lv_iconst (v := 1) hx hb d_Model_text_19 (by decide) ?_
      refine lv_iadd hx hb d_Model_text_20 ?_
      obtain ⟨i3, h⟩ := dz_oi h
      refine va_iald (D := (dC, dI)) (f := F 17) hx hb hK hP 12 1 rfl rfl i3 d_Model_text_21 ?_
      refine lv_aload_n hx hb d_Model_text_22 rfl (lv_at hl 0 rfl) ?_
      refine va_get (D := (dC, dI)) (ci := 10) (v := .ref (r 17)) (C := R_Model) (T := F_Model) (N := 54) hx hb hg i_Model hown hK hP 0 rfl rfl 17 (by decide) (hg _ k710) (fun _ h9 => h9) rfl d_Model_text_23 ?_
      refine lv_iload_n hx hb d_Model_text_26 rfl (lv_at hl 1 rfl) ?_
      obtain ⟨i4, h⟩ := dz_oi h
      refine va_iald (D := (dC, dI)) (f := F 17) hx hb hK hP 12 1 rfl rfl i4 d_Model_text_27 ?_
      refine lv_isub hx hb d_Model_text_28 ?_
      refine lv_istore_n (lv' := [(2, .int (((F 17) (p0 + 1).toNatClampNeg) - ((F 17) p0.toNatClampNeg))), (0, .ref o_Model), (1, .int p0)]) hx hb d_Model_text_29 rfl hl (by decide) rfl (fun ls hl => ?_)
      refine lv_aload_n hx hb d_Model_text_30 rfl (lv_at hl 1 rfl) ?_
      refine va_get (D := (dC, dI)) (ci := 10) (v := .int (I 29)) (C := R_Model) (T := F_Model) (N := 54) hx hb hg i_Model hown hK hP 0 rfl rfl 29 (by decide) (hg _ k719) (fun _ h9 => h9) rfl d_Model_text_31 ?_
      refine lv_ldc (v := 65536) hx hb hown (hg _ k713) d_Model_text_34 ?_
      refine lv_icmp_eq (tgt := 53) hx hb d_Model_text_36 (by decide) (fun c5 => ?_) (fun c5 => ?_)
      · rw [if_pos c5] at h
        refine lv_iconst (v := 3) hx hb d_Model_text_53 (by decide) ?_
        obtain rfl := Option.some.inj h
        have hP9 := hP
        have hD9 := hD
        have hK9 := hK
        exact W.iret (v := 3) hx hb hr (fun t ht hW => ⟨⟨3, (), rfl, rfl, by rw [ht]; exact hP9, va_K.moved hW.alike hK9, hD9⟩, hS.F ht⟩) hS.2.2 d_Model_text_54
      · rw [if_neg c5] at h
        refine lv_aload_n hx hb d_Model_text_39 rfl (lv_at hl 1 rfl) ?_
        refine lv_iconst (v := 1) hx hb d_Model_text_40 (by decide) ?_
        refine lv_iload_n hx hb d_Model_text_41 rfl (lv_at hl 0 rfl) ?_
        refine lv_iconst (v := 3) hx hb d_Model_text_42 (by decide) ?_
        refine lv_iadd hx hb d_Model_text_43 ?_
        refine lv_iconst (v := 4) hx hb d_Model_text_44 (by decide) ?_
        refine lv_idiv hx hb d_Model_text_45 (by decide) ?_
        obtain ⟨x7, ex7, h⟩ := dz_lt h
        refine dz_topi ex7 ?_
        refine lv_iadd hx hb d_Model_text_46 ?_
        obtain ⟨⟨z8_1, z8_2, z8_3⟩, hc8, h⟩ := dz_ob h
        try dsimp only at h
        have hPc := hP
        have hKc := hK
        have hDc := hD
        have hFc := dz_freeall hD hS hA
        refine va_calli (va_runV (As := [.int (1 + x7)]) (rest := []) ⟨hx, hb, hml, hown, hg⟩ (c_Model_hasRoom l dC dI N cB cI o_Model r I F (1 + x7) s.heap.size (z8_1, z8_2, z8_3) hc8) (cwV 1 hg (gd_V k788 k789 k790 k707 k787) rfl rfl rfl (by decide +kernel) ⟨Nat.le_of_ble_eq_true rfl, Nat.le_of_ble_eq_true rfl⟩) ⟨dz_blind, va_recv hKc hPc (ci := 10) (q0 := 0) rfl rfl, fun U hU hW => ⟨rfl, dz_Nw hW hN, by rw [hU], by rw [hU]; exact hPc, va_K.moved hW.alike hKc, hDc.weaken (fun _ _ _ _ => trivial)⟩⟩ rfl rfl hl.1 rfl (lv_room (Nat.le_of_ble_eq_true rfl)) d_Model_text_47 ⟨Nat.le_of_ble_eq_true rfl, Nat.le_of_ble_eq_true rfl⟩) hS (fun q _ h => hFc q h) hFc (fun r8 u8 t8 H1 locs ht hvm hw hB hz1 hk1 hS => ?_)
        obtain ⟨hP1, hK1, hD1⟩ := hB
        rw [ht] at hP1
        have hP := hP1
        have hD := hD1.weaken (fun _ q _ h => hFc q.1 h)
        obtain ⟨hw, hbz8⟩ := hw
        have hw : z8_1 = r8 := hw.symm
        subst hw
        generalize H1 = H at hP hS ⊢
        have hP : va_P (dC, dI) classes (wD cB cI o_Model r z8_3 z8_2) H := hP
        have hD : va_D A (wD cB cI o_Model r z8_3 z8_2) := hD
        refine lv_if_ne (tgt := 55) hx hb d_Model_text_50 (by decide) (fun c9 => ?_) (fun c9 => ?_)
        · rw [if_neg c9] at h
          refine lv_aload_n hx hb d_Model_text_55 rfl (lv_at hl 1 rfl) ?_
          refine lv_iload_n hx hb d_Model_text_56 rfl (lv_at hl 0 rfl) ?_
          obtain ⟨⟨z10_1, z10_2, z10_3⟩, hc10, h⟩ := dz_ob h
          try dsimp only at h
          have hPc := hP
          have hKc := hK
          have hDc := hD
          have hFc := dz_freeall hD hS hA
          refine va_calli (va_runV (As := [.int (((F 17) (p0 + 1).toNatClampNeg) - ((F 17) p0.toNatClampNeg))]) (rest := []) ⟨hx, hb, hml, hown, hg⟩ (c_Model_string l dC dI N cB cI o_Model r z8_3 z8_2 (((F 17) (p0 + 1).toNatClampNeg) - ((F 17) p0.toNatClampNeg)) H.size (z10_1, z10_2, z10_3) hc10) (cwV 1 hg (gd_V k792 k793 k794 k707 k791) rfl rfl rfl (by decide +kernel) ⟨Nat.le_of_ble_eq_true rfl, Nat.le_of_ble_eq_true rfl⟩) ⟨dz_blind, va_recv hKc hPc (ci := 10) (q0 := 0) rfl rfl, fun U hU hW => ⟨rfl, dz_Nw hW hN, by rw [hU], by rw [hU]; exact hPc, va_K.moved hW.alike hKc, hDc.weaken (fun _ _ _ _ => trivial)⟩⟩ rfl rfl hl.1 rfl (lv_room (Nat.le_of_ble_eq_true rfl)) d_Model_text_57 ⟨Nat.le_of_ble_eq_true rfl, Nat.le_of_ble_eq_true rfl⟩) hS (fun q _ h => hFc q h) hFc (fun r10 u10 t10 H1 locs ht hvm hw hB hz1 hk1 hS => ?_)
          obtain ⟨hP1, hK1, hD1⟩ := hB
          rw [ht] at hP1
          have hP := hP1
          have hD := hD1.weaken (fun _ q _ h => hFc q.1 h)
          have hw : z10_1 = r10 := hw.symm
          subst hw
          generalize H1 = H at hP hS ⊢
          have hP : va_P (dC, dI) classes (wD cB cI o_Model r z10_3 z10_2) H := hP
          have hD : va_D A (wD cB cI o_Model r z10_3 z10_2) := hD
          refine lv_istore_n (lv' := [(3, .int z10_1), (2, .int (((F 17) (p0 + 1).toNatClampNeg) - ((F 17) p0.toNatClampNeg))), (0, .ref o_Model), (1, .int p0)]) hx hb d_Model_text_60 rfl hl (by decide) rfl (fun ls hl => ?_)
          refine lv_iconst (v := 0) hx hb d_Model_text_61 (by decide) ?_
          refine lv_istore (lv' := [(4, .int 0), (3, .int z10_1), (2, .int (((F 17) (p0 + 1).toNatClampNeg) - ((F 17) p0.toNatClampNeg))), (0, .ref o_Model), (1, .int p0)]) hx hb d_Model_text_62 hl (by decide) rfl (fun ls hl => ?_)
          refine l_Model_text_1 dC dI N cB cI o_Model r F p0 z10_1 z10_3 hx hb hml hown hg hN hK hA (fun v1_4 w1_F H locs ls h hP hD hS hl => ?_) N (0 : Int32) z10_2 _ _ _ h hP hD hS (lv_sub hl [0, 1, 2, 3, 4] rfl)
          refine lv_aload_n hx hb d_Model_text_97 rfl (lv_at hl 3 rfl) ?_
          refine lv_iconst (v := 0) hx hb d_Model_text_98 (by decide) ?_
          refine lv_iconst (v := 2) hx hb d_Model_text_99 (by decide) ?_
          refine lv_iload_n hx hb d_Model_text_100 rfl (lv_at hl 1 rfl) ?_
          obtain ⟨⟨z15_1, z15_2, z15_3⟩, hc15, h⟩ := dz_ob h
          try dsimp only at h
          have hPc := hP
          have hKc := hK
          have hDc := hD
          have hFc := dz_freeall hD hS hA
          refine va_calli (va_runV (As := [.int 0, .int 2, .int z10_1]) (rest := []) ⟨hx, hb, hml, hown, hg⟩ (c_Model_give l dC dI N cB cI o_Model r z10_3 w1_F (0 : Int32) (2 : Int32) z10_1 H.size (z15_1, z15_2, z15_3) hc15) (cwV 3 hg (gd_V k734 k735 k736 k707 k733) rfl rfl rfl (by decide +kernel) ⟨Nat.le_of_ble_eq_true rfl, Nat.le_of_ble_eq_true rfl⟩) ⟨dz_blind, va_recv hKc hPc (ci := 10) (q0 := 0) rfl rfl, fun U hU hW => ⟨rfl, dz_Nw hW hN, by rw [hU], by rw [hU]; exact hPc, va_K.moved hW.alike hKc, hDc.weaken (fun _ _ _ _ => trivial)⟩⟩ rfl rfl hl.1 rfl (lv_room (Nat.le_of_ble_eq_true rfl)) d_Model_text_101 ⟨Nat.le_of_ble_eq_true rfl, Nat.le_of_ble_eq_true rfl⟩) hS (fun q _ h => hFc q h) hFc (fun r15 u15 t15 H1 locs ht hvm hw hB hz1 hk1 hS => ?_)
          obtain ⟨hP1, hK1, hD1⟩ := hB
          rw [ht] at hP1
          have hP := hP1
          have hD := hD1.weaken (fun _ q _ h => hFc q.1 h)
          have hw : z15_1 = r15 := hw.symm
          subst hw
          generalize H1 = H at hP hS ⊢
          have hP : va_P (dC, dI) classes (wD cB cI o_Model r z15_3 z15_2) H := hP
          have hD : va_D A (wD cB cI o_Model r z15_3 z15_2) := hD
          obtain rfl := Option.some.inj h
          have hP9 := hP
          have hD9 := hD
          have hK9 := hK
          exact W.iret (v := z15_1) hx hb hr (fun t ht hW => ⟨⟨z15_1, (), rfl, rfl, by rw [ht]; exact hP9, va_K.moved hW.alike hK9, hD9⟩, hS.F ht⟩) hS.2.2 d_Model_text_104
        · rw [if_pos c9] at h
          refine lv_iconst (v := 3) hx hb d_Model_text_53 (by decide) ?_
          obtain rfl := Option.some.inj h
          have hP9 := hP
          have hD9 := hD
          have hK9 := hK
          exact W.iret (v := 3) hx hb hr (fun t ht hW => ⟨⟨3, (), rfl, rfl, by rw [ht]; exact hP9, va_K.moved hW.alike hK9, hD9⟩, hS.F ht⟩) hS.2.2 d_Model_text_54
    · rw [if_neg c2] at h
      refine lv_iconst (v := 4) hx hb d_Model_text_12 (by decide) ?_
      obtain rfl := Option.some.inj h
      have hP9 := hP
      have hD9 := hD
      have hK9 := hK
      exact W.iret (v := 4) hx hb hr (fun t ht hW => ⟨⟨4, (), rfl, rfl, by rw [ht]; exact hP9, va_K.moved hW.alike hK9, hD9⟩, hS.F ht⟩) hS.2.2 d_Model_text_13

set_option maxHeartbeats 4000000 in
set_option maxRecDepth 100000 in
theorem c_Model_store (l : Launch) (dC : Nat → ClassId) (dI : Nat → Nat → Nat) (N : Nat) (cB : ClassId) (cI : ClassId) (o_Model : Nat) (r : Nat → Nat) (I : Nat → Int32) (F : Nat → Nat → Int32) (p0 : Int32) (sz : Nat) (z : Int32 × (Nat → Nat → Int32) × (Nat → Int32)) (h : m_Model_store N I F p0 = some z) : Met l y_Model_store (.code y_Model_store b_Model_store 2 (some .int) :: lw_g) ({ frames := 0, cells := 0, slots := 0, locals := 0 }) (va_Pc [.ref o_Model, .int p0] (fun U => dz_N U ∧ U.heap.size = sz ∧ va_P (dC, dI) classes (wD cB cI o_Model r I F) U.heap ∧ va_K (dC, dI) classes [(cB, .byte), (cI, .int)] U ∧ va_D (fun _ => True) (wD cB cI o_Model r I F))) (va_Qi (fun (r : Int32) (_ : Unit) => r = z.1) (fun (u : Unit) t => va_P (dC, dI) classes (wD cB cI o_Model r z.2.2 z.2.1) t.heap ∧ va_K (dC, dI) classes [(cB, .byte), (cI, .int)] t ∧ va_D (va_A (wD cB cI o_Model r I F) sz) (wD cB cI o_Model r z.2.2 z.2.1)) (va_A (wD cB cI o_Model r I F) sz)) 0 0 (va_A (wD cB cI o_Model r I F) sz) := by
  refine Met.ofW (cc := b_Model_store) (maxL := 2) (ret := (some .int)) (by decide +kernel) rfl ?_
  intro p e s m args below meth c s₁ B hml hv
  obtain ⟨rfl, hN, hsz, hP, hK, hD0⟩ := hv
  have hx := B.exec
  have hb := B.bytes
  have hr := B.returns
  have hg : ∀ w ∈ lw_g, w.before _ s = true := fun w hw => atoms_spec (ws := .code y_Model_store b_Model_store 2 (some .int) :: lw_g) B.pre w (List.mem_cons_of_mem _ hw)
  have hown : s.vm.findClass R_Model = some m.cls := findClass_of_methodNamed B.named
  have hlocks := B.notSynchronized
  clear B
  subst hsz
  have hD := hD0.self (sz := s.heap.size)
  generalize hAe : va_A (wD cB cI o_Model r I F) s.heap.size = A at hD ⊢
  have hA : ∀ q : Nat, s.heap.size ≤ q → A q := fun q h => by rw [← hAe]; exact Or.inr h
  have hS : va_S A s.heap s.heap [] := va_S.rf
  have hP : va_P (dC, dI) classes (wD cB cI o_Model r I F) s.heap := hP
  have hl := lv_entry ([.ref o_Model, .int p0]) (n := 2) (Nat.le_of_ble_eq_true rfl)
  rw [lg_entry_eq]
  generalize (lg_sl ([.ref o_Model, .int p0]) ++ List.replicate (2 - (lg_sl ([.ref o_Model, .int p0])).length) Slot.unset).toArray = ls at hl ⊢
  have hl : lv_has ls 2 [(0, .ref o_Model), (1, .int p0)] := hl
  unfold m_Model_store at h
  refine lv_iload_n hx hb d_Model_store_0 rfl (lv_at hl 1 rfl) ?_
  refine lv_if_lt (tgt := 19) hx hb d_Model_store_1 (by decide) (fun c1 => ?_) (fun c1 => ?_)
  · rw [if_pos c1] at h
    refine lv_iconst (v := 4) hx hb d_Model_store_19 (by decide) ?_
    obtain rfl := Option.some.inj h
    have hP9 := hP
    have hD9 := hD
    have hK9 := hK
    exact W.iret (v := 4) hx hb hr (fun t ht hW => ⟨⟨4, (), rfl, rfl, by rw [ht]; exact hP9, va_K.moved hW.alike hK9, hD9⟩, hS.F ht⟩) hS.2.2 d_Model_store_20
  · rw [if_neg c1] at h
    refine lv_iload_n hx hb d_Model_store_4 rfl (lv_at hl 1 rfl) ?_
    refine lv_aload_n hx hb d_Model_store_5 rfl (lv_at hl 0 rfl) ?_
    refine va_get (D := (dC, dI)) (ci := 10) (v := .ref (r 25)) (C := R_Model) (T := F_Model) (N := 54) hx hb hg i_Model hown hK hP 0 rfl rfl 25 (by decide) (hg _ k718) (fun _ h9 => h9) rfl d_Model_store_6 ?_
    refine lv_aload_n hx hb d_Model_store_9 rfl (lv_at hl 0 rfl) ?_
    refine va_get (D := (dC, dI)) (ci := 10) (v := .int (I 22)) (C := R_Model) (T := F_Model) (N := 54) hx hb hg i_Model hown hK hP 0 rfl rfl 22 (by decide) (hg _ k715) (fun _ h9 => h9) rfl d_Model_store_10 ?_
    refine lv_iconst (v := 1) hx hb d_Model_store_13 (by decide) ?_
    refine lv_isub hx hb d_Model_store_14 ?_
    obtain ⟨i2, h⟩ := dz_oi h
    refine va_iald (D := (dC, dI)) (f := F 25) hx hb hK hP 15 1 rfl rfl i2 d_Model_store_15 ?_
    refine lv_icmp_lt (tgt := 21) hx hb d_Model_store_16 (by decide) (fun c3 => ?_) (fun c3 => ?_)
    · rw [if_pos c3] at h
      refine lv_aload_n hx hb d_Model_store_21 rfl (lv_at hl 0 rfl) ?_
      refine lv_dup hx hb d_Model_store_22 rfl ?_
      refine va_get (D := (dC, dI)) (ci := 10) (v := .int (I 29)) (C := R_Model) (T := F_Model) (N := 54) hx hb hg i_Model hown hK hP 0 rfl rfl 29 (by decide) (hg _ k719) (fun _ h9 => h9) rfl d_Model_store_23 ?_
      refine lv_iconst (v := 1) hx hb d_Model_store_26 (by decide) ?_
      refine lv_isub hx hb d_Model_store_27 ?_
      refine va_put (D := (dC, dI)) (ci := 10) (v := .int ((I 29) - 1)) (ty := .int) (C := R_Model) (T := F_Model) (N := 54) hx hb hg i_Model t_Model t_Model_ok n_Model hown hK hP hD hS 0 rfl rfl 29 (by decide) (hg _ k719) (fun _ h9 => h9) rfl (by decide +kernel) rfl rfl (Nat.le_of_ble_eq_true rfl) d_Model_store_28 (fun H locs hP hD hS => ?_)
      obtain ⟨J4, eJ4, h⟩ := dz_lt h
      have hP : va_P (dC, dI) classes (wD cB cI o_Model r J4 F) H := by rw [eJ4]; exact hP
      have hD : va_D A (wD cB cI o_Model r J4 F) := by rw [eJ4]; exact hD
      refine lv_aload_n hx hb d_Model_store_31 rfl (lv_at hl 0 rfl) ?_
      refine va_get (D := (dC, dI)) (ci := 10) (v := .ref (r 27)) (C := R_Model) (T := F_Model) (N := 54) hx hb hg i_Model hown hK hP 0 rfl rfl 27 (by decide) (hg _ k731) (fun _ h9 => h9) rfl d_Model_store_32 ?_
      refine lv_aload_n hx hb d_Model_store_35 rfl (lv_at hl 0 rfl) ?_
      refine va_get (D := (dC, dI)) (ci := 10) (v := .ref (r 24)) (C := R_Model) (T := F_Model) (N := 54) hx hb hg i_Model hown hK hP 0 rfl rfl 24 (by decide) (hg _ k717) (fun _ h9 => h9) rfl d_Model_store_36 ?_
      refine lv_aload_n hx hb d_Model_store_39 rfl (lv_at hl 0 rfl) ?_
      refine va_get (D := (dC, dI)) (ci := 10) (v := .int (J4 22)) (C := R_Model) (T := F_Model) (N := 54) hx hb hg i_Model hown hK hP 0 rfl rfl 22 (by decide) (hg _ k715) (fun _ h9 => h9) rfl d_Model_store_40 ?_
      refine lv_iconst (v := 1) hx hb d_Model_store_43 (by decide) ?_
      refine lv_isub hx hb d_Model_store_44 ?_
      obtain ⟨i5, h⟩ := dz_oi h
      refine va_iald (D := (dC, dI)) (f := F 24) hx hb hK hP 14 1 rfl rfl i5 d_Model_store_45 ?_
      refine lv_iload_n hx hb d_Model_store_46 rfl (lv_at hl 1 rfl) ?_
      refine lv_iadd hx hb d_Model_store_47 ?_
      refine lv_aload_n hx hb d_Model_store_48 rfl (lv_at hl 0 rfl) ?_
      refine va_get (D := (dC, dI)) (ci := 10) (v := .ref (r 27)) (C := R_Model) (T := F_Model) (N := 54) hx hb hg i_Model hown hK hP 0 rfl rfl 27 (by decide) (hg _ k731) (fun _ h9 => h9) rfl d_Model_store_49 ?_
      refine lv_aload_n hx hb d_Model_store_52 rfl (lv_at hl 0 rfl) ?_
      refine va_get (D := (dC, dI)) (ci := 10) (v := .int (J4 29)) (C := R_Model) (T := F_Model) (N := 54) hx hb hg i_Model hown hK hP 0 rfl rfl 29 (by decide) (hg _ k719) (fun _ h9 => h9) rfl d_Model_store_53 ?_
      obtain ⟨i6, h⟩ := dz_oi h
      refine va_iald (D := (dC, dI)) (f := F 27) hx hb hK hP 17 1 rfl rfl i6 d_Model_store_56 ?_
      obtain ⟨i7, h⟩ := dz_oi h
      refine va_iast (D := (dC, dI)) (f := F 27) hx hb hK hP hD hS 17 1 rfl rfl i7 d_Model_store_57 (fun H locs hP hD hS => ?_)
      obtain ⟨G8, eG8, h⟩ := dz_lt h
      have hP : va_P (dC, dI) classes (wD cB cI o_Model r J4 G8) H := by rw [eG8]; exact hP
      have hD : va_D A (wD cB cI o_Model r J4 G8) := by rw [eG8]; exact hD
      refine lv_aload_n hx hb d_Model_store_58 rfl (lv_at hl 0 rfl) ?_
      refine va_get (D := (dC, dI)) (ci := 10) (v := .ref (r 28)) (C := R_Model) (T := F_Model) (N := 54) hx hb hg i_Model hown hK hP 0 rfl rfl 28 (by decide) (hg _ k732) (fun _ h9 => h9) rfl d_Model_store_59 ?_
      refine lv_aload_n hx hb d_Model_store_62 rfl (lv_at hl 0 rfl) ?_
      refine va_get (D := (dC, dI)) (ci := 10) (v := .ref (r 24)) (C := R_Model) (T := F_Model) (N := 54) hx hb hg i_Model hown hK hP 0 rfl rfl 24 (by decide) (hg _ k717) (fun _ h9 => h9) rfl d_Model_store_63 ?_
      refine lv_aload_n hx hb d_Model_store_66 rfl (lv_at hl 0 rfl) ?_
      refine va_get (D := (dC, dI)) (ci := 10) (v := .int (J4 22)) (C := R_Model) (T := F_Model) (N := 54) hx hb hg i_Model hown hK hP 0 rfl rfl 22 (by decide) (hg _ k715) (fun _ h9 => h9) rfl d_Model_store_67 ?_
      refine lv_iconst (v := 1) hx hb d_Model_store_70 (by decide) ?_
      refine lv_isub hx hb d_Model_store_71 ?_
      obtain ⟨i9, h⟩ := dz_oi h
      refine va_iald (D := (dC, dI)) (f := G8 24) hx hb hK hP 14 1 rfl rfl i9 d_Model_store_72 ?_
      refine lv_iload_n hx hb d_Model_store_73 rfl (lv_at hl 1 rfl) ?_
      refine lv_iadd hx hb d_Model_store_74 ?_
      refine lv_aload_n hx hb d_Model_store_75 rfl (lv_at hl 0 rfl) ?_
      refine va_get (D := (dC, dI)) (ci := 10) (v := .ref (r 28)) (C := R_Model) (T := F_Model) (N := 54) hx hb hg i_Model hown hK hP 0 rfl rfl 28 (by decide) (hg _ k732) (fun _ h9 => h9) rfl d_Model_store_76 ?_
      refine lv_aload_n hx hb d_Model_store_79 rfl (lv_at hl 0 rfl) ?_
      refine va_get (D := (dC, dI)) (ci := 10) (v := .int (J4 29)) (C := R_Model) (T := F_Model) (N := 54) hx hb hg i_Model hown hK hP 0 rfl rfl 29 (by decide) (hg _ k719) (fun _ h9 => h9) rfl d_Model_store_80 ?_
      obtain ⟨i10, h⟩ := dz_oi h
      refine va_iald (D := (dC, dI)) (f := G8 28) hx hb hK hP 18 1 rfl rfl i10 d_Model_store_83 ?_
      obtain ⟨i11, h⟩ := dz_oi h
      refine va_iast (D := (dC, dI)) (f := G8 28) hx hb hK hP hD hS 18 1 rfl rfl i11 d_Model_store_84 (fun H locs hP hD hS => ?_)
      obtain ⟨G12, eG12, h⟩ := dz_lt h
      have hP : va_P (dC, dI) classes (wD cB cI o_Model r J4 G12) H := by rw [eG12]; exact hP
      have hD : va_D A (wD cB cI o_Model r J4 G12) := by rw [eG12]; exact hD
      refine lv_iconst (v := 5) hx hb d_Model_store_85 (by decide) ?_
      obtain rfl := Option.some.inj h
      have hP9 := hP
      have hD9 := hD
      have hK9 := hK
      exact W.iret (v := 5) hx hb hr (fun t ht hW => ⟨⟨5, (), rfl, rfl, by rw [ht]; exact hP9, va_K.moved hW.alike hK9, hD9⟩, hS.F ht⟩) hS.2.2 d_Model_store_86
    · rw [if_neg c3] at h
      refine lv_iconst (v := 4) hx hb d_Model_store_19 (by decide) ?_
      obtain rfl := Option.some.inj h
      have hP9 := hP
      have hD9 := hD
      have hK9 := hK
      exact W.iret (v := 4) hx hb hr (fun t ht hW => ⟨⟨4, (), rfl, rfl, by rw [ht]; exact hP9, va_K.moved hW.alike hK9, hD9⟩, hS.F ht⟩) hS.2.2 d_Model_store_20

set_option maxHeartbeats 4000000 in
set_option maxRecDepth 100000 in
theorem c_Model_free (l : Launch) (dC : Nat → ClassId) (dI : Nat → Nat → Nat) (N : Nat) (cB : ClassId) (cI : ClassId) (o_Model : Nat) (r : Nat → Nat) (I : Nat → Int32) (F : Nat → Nat → Int32) (p0 : Int32) (sz : Nat) (z : Int32 × (Nat → Nat → Int32) × (Nat → Int32)) (h : m_Model_free N I F p0 = some z) : Met l y_Model_free (.code y_Model_free b_Model_free 3 (some .int) :: lw_g) ({ frames := 2, cells := 0, slots := 0, locals := 45 }) (va_Pc [.ref o_Model, .int p0] (fun U => dz_N U ∧ U.heap.size = sz ∧ va_P (dC, dI) classes (wD cB cI o_Model r I F) U.heap ∧ va_K (dC, dI) classes [(cB, .byte), (cI, .int)] U ∧ va_D (fun _ => True) (wD cB cI o_Model r I F))) (va_Qi (fun (r : Int32) (_ : Unit) => r = z.1) (fun (u : Unit) t => va_P (dC, dI) classes (wD cB cI o_Model r z.2.2 z.2.1) t.heap ∧ va_K (dC, dI) classes [(cB, .byte), (cI, .int)] t ∧ va_D (va_A (wD cB cI o_Model r I F) sz) (wD cB cI o_Model r z.2.2 z.2.1)) (va_A (wD cB cI o_Model r I F) sz)) 0 0 (va_A (wD cB cI o_Model r I F) sz) := by
  refine Met.ofW (cc := b_Model_free) (maxL := 3) (ret := (some .int)) (by decide +kernel) rfl ?_
  intro p e s m args below meth c s₁ B hml hv
  obtain ⟨rfl, hN, hsz, hP, hK, hD0⟩ := hv
  have hx := B.exec
  have hb := B.bytes
  have hr := B.returns
  have hg : ∀ w ∈ lw_g, w.before _ s = true := fun w hw => atoms_spec (ws := .code y_Model_free b_Model_free 3 (some .int) :: lw_g) B.pre w (List.mem_cons_of_mem _ hw)
  have hown : s.vm.findClass R_Model = some m.cls := findClass_of_methodNamed B.named
  have hlocks := B.notSynchronized
  clear B
  subst hsz
  have hD := hD0.self (sz := s.heap.size)
  generalize hAe : va_A (wD cB cI o_Model r I F) s.heap.size = A at hD ⊢
  have hA : ∀ q : Nat, s.heap.size ≤ q → A q := fun q h => by rw [← hAe]; exact Or.inr h
  have hS : va_S A s.heap s.heap [] := va_S.rf
  have hP : va_P (dC, dI) classes (wD cB cI o_Model r I F) s.heap := hP
  have hl := lv_entry ([.ref o_Model, .int p0]) (n := 3) (Nat.le_of_ble_eq_true rfl)
  rw [lg_entry_eq]
  generalize (lg_sl ([.ref o_Model, .int p0]) ++ List.replicate (3 - (lg_sl ([.ref o_Model, .int p0])).length) Slot.unset).toArray = ls at hl ⊢
  have hl : lv_has ls 3 [(0, .ref o_Model), (1, .int p0)] := hl
  unfold m_Model_free at h
  refine lv_aload_n hx hb d_Model_free_0 rfl (lv_at hl 0 rfl) ?_
  refine va_get (D := (dC, dI)) (ci := 10) (v := .ref (r 23)) (C := R_Model) (T := F_Model) (N := 54) hx hb hg i_Model hown hK hP 0 rfl rfl 23 (by decide) (hg _ k716) (fun _ h9 => h9) rfl d_Model_free_1 ?_
  refine lv_aload_n hx hb d_Model_free_4 rfl (lv_at hl 0 rfl) ?_
  refine va_get (D := (dC, dI)) (ci := 10) (v := .int (I 22)) (C := R_Model) (T := F_Model) (N := 54) hx hb hg i_Model hown hK hP 0 rfl rfl 22 (by decide) (hg _ k715) (fun _ h9 => h9) rfl d_Model_free_5 ?_
  refine lv_iconst (v := 1) hx hb d_Model_free_8 (by decide) ?_
  refine lv_isub hx hb d_Model_free_9 ?_
  obtain ⟨i1, h⟩ := dz_oi h
  refine va_iald (D := (dC, dI)) (f := F 23) hx hb hK hP 13 1 rfl rfl i1 d_Model_free_10 ?_
  refine lv_istore_n (lv' := [(2, .int ((F 23) ((I 22) - 1).toNatClampNeg)), (0, .ref o_Model), (1, .int p0)]) hx hb d_Model_free_11 rfl hl (by decide) rfl (fun ls hl => ?_)
  refine lv_iload_n hx hb d_Model_free_12 rfl (lv_at hl 0 rfl) ?_
  refine lv_if_lt (tgt := 29) hx hb d_Model_free_13 (by decide) (fun c2 => ?_) (fun c2 => ?_)
  · rw [if_pos c2] at h
    refine lv_iconst (v := 4) hx hb d_Model_free_29 (by decide) ?_
    refine lv_goto (tgt := 57) hx hb d_Model_free_30 (by decide) ?_
    obtain rfl := Option.some.inj h
    have hP9 := hP
    have hD9 := hD
    have hK9 := hK
    exact W.iret (v := 4) hx hb hr (fun t ht hW => ⟨⟨4, (), rfl, rfl, by rw [ht]; exact hP9, va_K.moved hW.alike hK9, hD9⟩, hS.F ht⟩) hS.2.2 d_Model_free_57
  · rw [if_neg c2] at h
    refine lv_iload_n hx hb d_Model_free_16 rfl (lv_at hl 2 rfl) ?_
    refine lv_if_lt (tgt := 29) hx hb d_Model_free_17 (by decide) (fun c3 => ?_) (fun c3 => ?_)
    · rw [if_pos c3] at h
      refine lv_iconst (v := 4) hx hb d_Model_free_29 (by decide) ?_
      refine lv_goto (tgt := 57) hx hb d_Model_free_30 (by decide) ?_
      obtain rfl := Option.some.inj h
      have hP9 := hP
      have hD9 := hD
      have hK9 := hK
      exact W.iret (v := 4) hx hb hr (fun t ht hW => ⟨⟨4, (), rfl, rfl, by rw [ht]; exact hP9, va_K.moved hW.alike hK9, hD9⟩, hS.F ht⟩) hS.2.2 d_Model_free_57
    · rw [if_neg c3] at h
      refine lv_iload_n hx hb d_Model_free_20 rfl (lv_at hl 2 rfl) ?_
      refine lv_aload_n hx hb d_Model_free_21 rfl (lv_at hl 1 rfl) ?_
      refine lv_iload_n hx hb d_Model_free_22 rfl (lv_at hl 0 rfl) ?_
      obtain ⟨z4_1, hc4, h⟩ := dz_ob h
      try dsimp only at h
      have hPc := hP
      have hKc := hK
      refine vp_callSi (va_Run.run (va_runV (As := [.int ((F 23) ((I 22) - 1).toNatClampNeg)]) (rest := [.int p0]) ⟨hx, hb, hml, hown, hg⟩ (c_Model_partsAt l dC dI N cB cI o_Model r I F ((F 23) ((I 22) - 1).toNatClampNeg) z4_1 hc4) (cwV 1 hg (gd_V k744 k745 k746 k707 k743) rfl rfl rfl (by decide +kernel) ⟨Nat.le_of_ble_eq_true rfl, Nat.le_of_ble_eq_true rfl⟩) ⟨dz_blindR, va_recv hKc hPc (ci := 10) (q0 := 0) rfl rfl, fun U hU hW => ⟨rfl, dz_Nw hW hN, by rw [hU]; exact hPc, va_K.moved hW.alike hKc⟩⟩ rfl rfl hl.1 rfl (lv_room (Nat.le_of_ble_eq_true rfl)) d_Model_free_23 ⟨Nat.le_of_ble_eq_true rfl, Nat.le_of_ble_eq_true rfl⟩)) (fun r4 hw => ?_)
      have hw : z4_1 = r4 := hw.symm
      subst hw
      refine lv_icmp_lt (tgt := 33) hx hb d_Model_free_26 (by decide) (fun c5 => ?_) (fun c5 => ?_)
      · rw [if_pos c5] at h
        refine lv_aload_n hx hb d_Model_free_33 rfl (lv_at hl 1 rfl) ?_
        refine lv_aload_n hx hb d_Model_free_34 rfl (lv_at hl 1 rfl) ?_
        refine va_get (D := (dC, dI)) (ci := 10) (v := .ref (r 0)) (C := R_Model) (T := F_Model) (N := 54) hx hb hg i_Model hown hK hP 0 rfl rfl 0 (by decide) (hg _ k737) (fun _ h9 => h9) rfl d_Model_free_35 ?_
        refine lv_iload_n hx hb d_Model_free_38 rfl (lv_at hl 0 rfl) ?_
        refine lv_iconst (v := 1) hx hb d_Model_free_39 (by decide) ?_
        refine lv_iadd hx hb d_Model_free_40 ?_
        refine lv_iload_n hx hb d_Model_free_41 rfl (lv_at hl 2 rfl) ?_
        refine lv_iadd hx hb d_Model_free_42 ?_
        obtain ⟨i6, h⟩ := dz_oi h
        refine va_iald (D := (dC, dI)) (f := F 0) hx hb hK hP 1 1 rfl rfl i6 d_Model_free_43 ?_
        refine lv_aload_n hx hb d_Model_free_44 rfl (lv_at hl 1 rfl) ?_
        refine va_get (D := (dC, dI)) (ci := 10) (v := .ref (r 1)) (C := R_Model) (T := F_Model) (N := 54) hx hb hg i_Model hown hK hP 0 rfl rfl 1 (by decide) (hg _ k742) (fun _ h9 => h9) rfl d_Model_free_45 ?_
        refine lv_iload_n hx hb d_Model_free_48 rfl (lv_at hl 0 rfl) ?_
        refine lv_iconst (v := 1) hx hb d_Model_free_49 (by decide) ?_
        refine lv_iadd hx hb d_Model_free_50 ?_
        refine lv_iload_n hx hb d_Model_free_51 rfl (lv_at hl 2 rfl) ?_
        refine lv_iadd hx hb d_Model_free_52 ?_
        obtain ⟨i7, h⟩ := dz_oi h
        refine va_iald (D := (dC, dI)) (f := F 1) hx hb hK hP 2 1 rfl rfl i7 d_Model_free_53 ?_
        obtain ⟨⟨z8_1, z8_2, z8_3⟩, hc8, h⟩ := dz_ob h
        try dsimp only at h
        have hPc := hP
        have hKc := hK
        have hDc := hD
        have hFc := dz_freeall hD hS hA
        refine va_calli (va_runV (As := [.int ((F 0) ((((F 23) ((I 22) - 1).toNatClampNeg) + 1) + p0).toNatClampNeg), .int ((F 1) ((((F 23) ((I 22) - 1).toNatClampNeg) + 1) + p0).toNatClampNeg)]) (rest := []) ⟨hx, hb, hml, hown, hg⟩ (c_Model_more l dC dI N cB cI o_Model r I F ((F 0) ((((F 23) ((I 22) - 1).toNatClampNeg) + 1) + p0).toNatClampNeg) ((F 1) ((((F 23) ((I 22) - 1).toNatClampNeg) + 1) + p0).toNatClampNeg) s.heap.size (z8_1, z8_2, z8_3) hc8) (cwV 2 hg (gd_V k800 k801 k802 k707 k799) rfl rfl rfl (by decide +kernel) ⟨Nat.le_of_ble_eq_true rfl, Nat.le_of_ble_eq_true rfl⟩) ⟨dz_blind, va_recv hKc hPc (ci := 10) (q0 := 0) rfl rfl, fun U hU hW => ⟨rfl, dz_Nw hW hN, by rw [hU], by rw [hU]; exact hPc, va_K.moved hW.alike hKc, hDc.weaken (fun _ _ _ _ => trivial)⟩⟩ rfl rfl hl.1 rfl (lv_room (Nat.le_of_ble_eq_true rfl)) d_Model_free_54 ⟨Nat.le_of_ble_eq_true rfl, Nat.le_of_ble_eq_true rfl⟩) hS (fun q _ h => hFc q h) hFc (fun r8 u8 t8 H1 locs ht hvm hw hB hz1 hk1 hS => ?_)
        obtain ⟨hP1, hK1, hD1⟩ := hB
        rw [ht] at hP1
        have hP := hP1
        have hD := hD1.weaken (fun _ q _ h => hFc q.1 h)
        have hw : z8_1 = r8 := hw.symm
        subst hw
        generalize H1 = H at hP hS ⊢
        have hP : va_P (dC, dI) classes (wD cB cI o_Model r z8_3 z8_2) H := hP
        have hD : va_D A (wD cB cI o_Model r z8_3 z8_2) := hD
        obtain rfl := Option.some.inj h
        have hP9 := hP
        have hD9 := hD
        have hK9 := hK
        exact W.iret (v := z8_1) hx hb hr (fun t ht hW => ⟨⟨z8_1, (), rfl, rfl, by rw [ht]; exact hP9, va_K.moved hW.alike hK9, hD9⟩, hS.F ht⟩) hS.2.2 d_Model_free_57
      · rw [if_neg c5] at h
        refine lv_iconst (v := 4) hx hb d_Model_free_29 (by decide) ?_
        refine lv_goto (tgt := 57) hx hb d_Model_free_30 (by decide) ?_
        obtain rfl := Option.some.inj h
        have hP9 := hP
        have hD9 := hD
        have hK9 := hK
        exact W.iret (v := 4) hx hb hr (fun t ht hW => ⟨⟨4, (), rfl, rfl, by rw [ht]; exact hP9, va_K.moved hW.alike hK9, hD9⟩, hS.F ht⟩) hS.2.2 d_Model_free_57

set_option maxHeartbeats 4000000 in
set_option maxRecDepth 100000 in
theorem c_Model_setGlobal (l : Launch) (dC : Nat → ClassId) (dI : Nat → Nat → Nat) (N : Nat) (cB : ClassId) (cI : ClassId) (o_Model : Nat) (r : Nat → Nat) (I : Nat → Int32) (F : Nat → Nat → Int32) (p0 : Int32) (sz : Nat) (z : Int32 × (Nat → Nat → Int32) × (Nat → Int32)) (h : m_Model_setGlobal N I F p0 = some z) : Met l y_Model_setGlobal (.code y_Model_setGlobal b_Model_setGlobal 2 (some .int) :: lw_g) ({ frames := 0, cells := 0, slots := 0, locals := 0 }) (va_Pc [.ref o_Model, .int p0] (fun U => dz_N U ∧ U.heap.size = sz ∧ va_P (dC, dI) classes (wD cB cI o_Model r I F) U.heap ∧ va_K (dC, dI) classes [(cB, .byte), (cI, .int)] U ∧ va_D (fun _ => True) (wD cB cI o_Model r I F))) (va_Qi (fun (r : Int32) (_ : Unit) => r = z.1) (fun (u : Unit) t => va_P (dC, dI) classes (wD cB cI o_Model r z.2.2 z.2.1) t.heap ∧ va_K (dC, dI) classes [(cB, .byte), (cI, .int)] t ∧ va_D (va_A (wD cB cI o_Model r I F) sz) (wD cB cI o_Model r z.2.2 z.2.1)) (va_A (wD cB cI o_Model r I F) sz)) 0 0 (va_A (wD cB cI o_Model r I F) sz) := by
  refine Met.ofW (cc := b_Model_setGlobal) (maxL := 2) (ret := (some .int)) (by decide +kernel) rfl ?_
  intro p e s m args below meth c s₁ B hml hv
  obtain ⟨rfl, hN, hsz, hP, hK, hD0⟩ := hv
  have hx := B.exec
  have hb := B.bytes
  have hr := B.returns
  have hg : ∀ w ∈ lw_g, w.before _ s = true := fun w hw => atoms_spec (ws := .code y_Model_setGlobal b_Model_setGlobal 2 (some .int) :: lw_g) B.pre w (List.mem_cons_of_mem _ hw)
  have hown : s.vm.findClass R_Model = some m.cls := findClass_of_methodNamed B.named
  have hlocks := B.notSynchronized
  clear B
  subst hsz
  have hD := hD0.self (sz := s.heap.size)
  generalize hAe : va_A (wD cB cI o_Model r I F) s.heap.size = A at hD ⊢
  have hA : ∀ q : Nat, s.heap.size ≤ q → A q := fun q h => by rw [← hAe]; exact Or.inr h
  have hS : va_S A s.heap s.heap [] := va_S.rf
  have hP : va_P (dC, dI) classes (wD cB cI o_Model r I F) s.heap := hP
  have hl := lv_entry ([.ref o_Model, .int p0]) (n := 2) (Nat.le_of_ble_eq_true rfl)
  rw [lg_entry_eq]
  generalize (lg_sl ([.ref o_Model, .int p0]) ++ List.replicate (2 - (lg_sl ([.ref o_Model, .int p0])).length) Slot.unset).toArray = ls at hl ⊢
  have hl : lv_has ls 2 [(0, .ref o_Model), (1, .int p0)] := hl
  unfold m_Model_setGlobal at h
  refine lv_iload_n hx hb d_Model_setGlobal_0 rfl (lv_at hl 1 rfl) ?_
  refine lv_if_lt (tgt := 11) hx hb d_Model_setGlobal_1 (by decide) (fun c1 => ?_) (fun c1 => ?_)
  · rw [if_pos c1] at h
    refine lv_iconst (v := 4) hx hb d_Model_setGlobal_11 (by decide) ?_
    obtain rfl := Option.some.inj h
    have hP9 := hP
    have hD9 := hD
    have hK9 := hK
    exact W.iret (v := 4) hx hb hr (fun t ht hW => ⟨⟨4, (), rfl, rfl, by rw [ht]; exact hP9, va_K.moved hW.alike hK9, hD9⟩, hS.F ht⟩) hS.2.2 d_Model_setGlobal_12
  · rw [if_neg c1] at h
    refine lv_iload_n hx hb d_Model_setGlobal_4 rfl (lv_at hl 1 rfl) ?_
    refine lv_sipush (v := 2048) hx hb d_Model_setGlobal_5 (by decide) ?_
    refine lv_icmp_lt (tgt := 13) hx hb d_Model_setGlobal_8 (by decide) (fun c2 => ?_) (fun c2 => ?_)
    · rw [if_pos c2] at h
      refine lv_aload_n hx hb d_Model_setGlobal_13 rfl (lv_at hl 0 rfl) ?_
      refine lv_dup hx hb d_Model_setGlobal_14 rfl ?_
      refine va_get (D := (dC, dI)) (ci := 10) (v := .int (I 29)) (C := R_Model) (T := F_Model) (N := 54) hx hb hg i_Model hown hK hP 0 rfl rfl 29 (by decide) (hg _ k719) (fun _ h9 => h9) rfl d_Model_setGlobal_15 ?_
      refine lv_iconst (v := 1) hx hb d_Model_setGlobal_18 (by decide) ?_
      refine lv_isub hx hb d_Model_setGlobal_19 ?_
      refine va_put (D := (dC, dI)) (ci := 10) (v := .int ((I 29) - 1)) (ty := .int) (C := R_Model) (T := F_Model) (N := 54) hx hb hg i_Model t_Model t_Model_ok n_Model hown hK hP hD hS 0 rfl rfl 29 (by decide) (hg _ k719) (fun _ h9 => h9) rfl (by decide +kernel) rfl rfl (Nat.le_of_ble_eq_true rfl) d_Model_setGlobal_20 (fun H locs hP hD hS => ?_)
      obtain ⟨J3, eJ3, h⟩ := dz_lt h
      have hP : va_P (dC, dI) classes (wD cB cI o_Model r J3 F) H := by rw [eJ3]; exact hP
      have hD : va_D A (wD cB cI o_Model r J3 F) := by rw [eJ3]; exact hD
      refine lv_aload_n hx hb d_Model_setGlobal_23 rfl (lv_at hl 0 rfl) ?_
      refine va_get (D := (dC, dI)) (ci := 10) (v := .ref (r 5)) (C := R_Model) (T := F_Model) (N := 54) hx hb hg i_Model hown hK hP 0 rfl rfl 5 (by decide) (hg _ k758) (fun _ h9 => h9) rfl d_Model_setGlobal_24 ?_
      refine lv_iload_n hx hb d_Model_setGlobal_27 rfl (lv_at hl 1 rfl) ?_
      refine lv_aload_n hx hb d_Model_setGlobal_28 rfl (lv_at hl 0 rfl) ?_
      refine va_get (D := (dC, dI)) (ci := 10) (v := .ref (r 27)) (C := R_Model) (T := F_Model) (N := 54) hx hb hg i_Model hown hK hP 0 rfl rfl 27 (by decide) (hg _ k731) (fun _ h9 => h9) rfl d_Model_setGlobal_29 ?_
      refine lv_aload_n hx hb d_Model_setGlobal_32 rfl (lv_at hl 0 rfl) ?_
      refine va_get (D := (dC, dI)) (ci := 10) (v := .int (J3 29)) (C := R_Model) (T := F_Model) (N := 54) hx hb hg i_Model hown hK hP 0 rfl rfl 29 (by decide) (hg _ k719) (fun _ h9 => h9) rfl d_Model_setGlobal_33 ?_
      obtain ⟨i4, h⟩ := dz_oi h
      refine va_iald (D := (dC, dI)) (f := F 27) hx hb hK hP 17 1 rfl rfl i4 d_Model_setGlobal_36 ?_
      obtain ⟨i5, h⟩ := dz_oi h
      refine va_iast (D := (dC, dI)) (f := F 5) hx hb hK hP hD hS 4 1 rfl rfl i5 d_Model_setGlobal_37 (fun H locs hP hD hS => ?_)
      obtain ⟨G6, eG6, h⟩ := dz_lt h
      have hP : va_P (dC, dI) classes (wD cB cI o_Model r J3 G6) H := by rw [eG6]; exact hP
      have hD : va_D A (wD cB cI o_Model r J3 G6) := by rw [eG6]; exact hD
      refine lv_aload_n hx hb d_Model_setGlobal_38 rfl (lv_at hl 0 rfl) ?_
      refine va_get (D := (dC, dI)) (ci := 10) (v := .ref (r 6)) (C := R_Model) (T := F_Model) (N := 54) hx hb hg i_Model hown hK hP 0 rfl rfl 6 (by decide) (hg _ k759) (fun _ h9 => h9) rfl d_Model_setGlobal_39 ?_
      refine lv_iload_n hx hb d_Model_setGlobal_42 rfl (lv_at hl 1 rfl) ?_
      refine lv_aload_n hx hb d_Model_setGlobal_43 rfl (lv_at hl 0 rfl) ?_
      refine va_get (D := (dC, dI)) (ci := 10) (v := .ref (r 28)) (C := R_Model) (T := F_Model) (N := 54) hx hb hg i_Model hown hK hP 0 rfl rfl 28 (by decide) (hg _ k732) (fun _ h9 => h9) rfl d_Model_setGlobal_44 ?_
      refine lv_aload_n hx hb d_Model_setGlobal_47 rfl (lv_at hl 0 rfl) ?_
      refine va_get (D := (dC, dI)) (ci := 10) (v := .int (J3 29)) (C := R_Model) (T := F_Model) (N := 54) hx hb hg i_Model hown hK hP 0 rfl rfl 29 (by decide) (hg _ k719) (fun _ h9 => h9) rfl d_Model_setGlobal_48 ?_
      obtain ⟨i7, h⟩ := dz_oi h
      refine va_iald (D := (dC, dI)) (f := G6 28) hx hb hK hP 18 1 rfl rfl i7 d_Model_setGlobal_51 ?_
      obtain ⟨i8, h⟩ := dz_oi h
      refine va_iast (D := (dC, dI)) (f := G6 6) hx hb hK hP hD hS 5 1 rfl rfl i8 d_Model_setGlobal_52 (fun H locs hP hD hS => ?_)
      obtain ⟨G9, eG9, h⟩ := dz_lt h
      have hP : va_P (dC, dI) classes (wD cB cI o_Model r J3 G9) H := by rw [eG9]; exact hP
      have hD : va_D A (wD cB cI o_Model r J3 G9) := by rw [eG9]; exact hD
      refine lv_iconst (v := 5) hx hb d_Model_setGlobal_53 (by decide) ?_
      obtain rfl := Option.some.inj h
      have hP9 := hP
      have hD9 := hD
      have hK9 := hK
      exact W.iret (v := 5) hx hb hr (fun t ht hW => ⟨⟨5, (), rfl, rfl, by rw [ht]; exact hP9, va_K.moved hW.alike hK9, hD9⟩, hS.F ht⟩) hS.2.2 d_Model_setGlobal_54
    · rw [if_neg c2] at h
      refine lv_iconst (v := 4) hx hb d_Model_setGlobal_11 (by decide) ?_
      obtain rfl := Option.some.inj h
      have hP9 := hP
      have hD9 := hD
      have hK9 := hK
      exact W.iret (v := 4) hx hb hr (fun t ht hW => ⟨⟨4, (), rfl, rfl, by rw [ht]; exact hP9, va_K.moved hW.alike hK9, hD9⟩, hS.F ht⟩) hS.2.2 d_Model_setGlobal_12

set_option maxHeartbeats 4000000 in
set_option maxRecDepth 100000 in
theorem l_Model_gather_1 {p : Program} {l : Launch} {e : Env} {s : State} {m : MethodId} {args : Array Value} {below : List Frame} {meth : Method} {c : Code} {Q : State → Prop} {A : Nat → Prop} (dC : Nat → ClassId) (dI : Nat → Nat → Nat) (N : Nat) (cB : ClassId) (cI : ClassId) (o_Model : Nat) (r : Nat → Nat) (p0 : Int32) (p1 : Int32) (p2 : Int32) (z4_1 : Int32) (z4_3 : Nat → Int32) {ζ : Type} {z : ζ} (hx : p.tables.exec = Jvm.exec) (hb : c.code = b_Model_gather) (hml : c.maxLocals = 6) (hown : s.vm.findClass R_Model = some m.cls) (hg : ∀ w ∈ lw_g, w.before args s = true) (hN : dz_N s) (hK : va_K (dC, dI) classes [(cB, .byte), (cI, .int)] s) (hA : ∀ q : Nat, s.heap.size ≤ q → A q) {k1_104 : Int32 → (Nat → Nat → Int32) → Option (ζ)} (hk1_104 : ∀ (v1_5 : Int32) (w1_F : (Nat → Nat → Int32))    (H : Heap) (locs : List Loc) (ls : Array Slot), k1_104 v1_5 w1_F = some z → va_P (dC, dI) classes (wD cB cI o_Model r z4_3 w1_F) H → va_D A (wD cB cI o_Model r z4_3 w1_F) → va_S A s.heap H locs → lv_has ls 6 [(5, .int v1_5), (4, .int z4_1), (0, .ref o_Model), (1, .int p0), (2, .int p1), (3, .int p2)] → W p l e ({ frames := 7, cells := 0, slots := 0, locals := 150 } : Room) s m args below meth c H locs 0 0 Q (F0 m 104 ls [])) : ∀ (n1 : Nat) (v1_5 : Int32) (w1_F : (Nat → Nat → Int32))   (H : Heap) (locs : List Loc) (ls : Array Slot), lm_Model_gather_1 N p1 z4_1 z4_3 k1_104 n1 v1_5 w1_F = some z → va_P (dC, dI) classes (wD cB cI o_Model r z4_3 w1_F) H → va_D A (wD cB cI o_Model r z4_3 w1_F) → va_S A s.heap H locs → lv_has ls 6 [(5, .int v1_5), (4, .int z4_1), (0, .ref o_Model), (1, .int p0), (2, .int p1), (3, .int p2)] → W p l e ({ frames := 7, cells := 0, slots := 0, locals := 150 } : Room) s m args below meth c H locs 0 0 Q (F0 m 40 ls []) := by
  intro n1
  induction n1 with
  | zero =>
    intro v1_5 w1_F H locs ls h hP hD hS hl
    rw [lm_Model_gather_1] at h
    cases h
  | succ n1 ih1 =>
    intro v1_5 w1_F H locs ls h hP hD hS hl
    rw [lm_Model_gather_1] at h
    refine lv_iload hx hb d_Model_gather_40 (lv_at hl 0 rfl) ?_
    refine lv_iload_n hx hb d_Model_gather_42 rfl (lv_at hl 4 rfl) ?_
    refine lv_icmp_ge (tgt := 104) hx hb d_Model_gather_43 (by decide) (fun c5 => ?_) (fun c5 => ?_)
    · rw [if_pos c5] at h
      exact hk1_104 v1_5 w1_F _ _ _ h hP hD hS (lv_sub hl [0, 1, 2, 3, 4, 5] rfl)
    · rw [if_neg c5] at h
      refine lv_aload_n hx hb d_Model_gather_46 rfl (lv_at hl 2 rfl) ?_
      refine va_get (D := (dC, dI)) (ci := 10) (v := .ref (r 0)) (C := R_Model) (T := F_Model) (N := 54) hx hb hg i_Model hown hK hP 0 rfl rfl 0 (by decide) (hg _ k737) (fun _ h9 => h9) rfl d_Model_gather_47 ?_
      refine lv_iload hx hb d_Model_gather_50 (lv_at hl 1 rfl) ?_
      refine lv_iconst (v := 1) hx hb d_Model_gather_52 (by decide) ?_
      refine lv_iadd hx hb d_Model_gather_53 ?_
      refine lv_iload hx hb d_Model_gather_54 (lv_at hl 0 rfl) ?_
      refine lv_iadd hx hb d_Model_gather_56 ?_
      refine lv_aload_n hx hb d_Model_gather_57 rfl (lv_at hl 2 rfl) ?_
      refine va_get (D := (dC, dI)) (ci := 10) (v := .ref (r 27)) (C := R_Model) (T := F_Model) (N := 54) hx hb hg i_Model hown hK hP 0 rfl rfl 27 (by decide) (hg _ k731) (fun _ h9 => h9) rfl d_Model_gather_58 ?_
      refine lv_aload_n hx hb d_Model_gather_61 rfl (lv_at hl 2 rfl) ?_
      refine va_get (D := (dC, dI)) (ci := 10) (v := .int (z4_3 29)) (C := R_Model) (T := F_Model) (N := 54) hx hb hg i_Model hown hK hP 0 rfl rfl 29 (by decide) (hg _ k719) (fun _ h9 => h9) rfl d_Model_gather_62 ?_
      refine lv_iload_n hx hb d_Model_gather_65 rfl (lv_at hl 4 rfl) ?_
      refine lv_isub hx hb d_Model_gather_66 ?_
      refine lv_iload hx hb d_Model_gather_67 (lv_at hl 0 rfl) ?_
      refine lv_iadd hx hb d_Model_gather_69 ?_
      obtain ⟨i6, h⟩ := dz_oi h
      refine va_iald (D := (dC, dI)) (f := w1_F 27) hx hb hK hP 17 1 rfl rfl i6 d_Model_gather_70 ?_
      obtain ⟨i7, h⟩ := dz_oi h
      refine va_iast (D := (dC, dI)) (f := w1_F 0) hx hb hK hP hD hS 1 1 rfl rfl i7 d_Model_gather_71 (fun H locs hP hD hS => ?_)
      obtain ⟨G8, eG8, h⟩ := dz_lt h
      have hP : va_P (dC, dI) classes (wD cB cI o_Model r z4_3 G8) H := by rw [eG8]; exact hP
      have hD : va_D A (wD cB cI o_Model r z4_3 G8) := by rw [eG8]; exact hD
      refine lv_aload_n hx hb d_Model_gather_72 rfl (lv_at hl 2 rfl) ?_
      refine va_get (D := (dC, dI)) (ci := 10) (v := .ref (r 1)) (C := R_Model) (T := F_Model) (N := 54) hx hb hg i_Model hown hK hP 0 rfl rfl 1 (by decide) (hg _ k742) (fun _ h9 => h9) rfl d_Model_gather_73 ?_
      refine lv_iload hx hb d_Model_gather_76 (lv_at hl 1 rfl) ?_
      refine lv_iconst (v := 1) hx hb d_Model_gather_78 (by decide) ?_
      refine lv_iadd hx hb d_Model_gather_79 ?_
      refine lv_iload hx hb d_Model_gather_80 (lv_at hl 0 rfl) ?_
      refine lv_iadd hx hb d_Model_gather_82 ?_
      refine lv_aload_n hx hb d_Model_gather_83 rfl (lv_at hl 2 rfl) ?_
      refine va_get (D := (dC, dI)) (ci := 10) (v := .ref (r 28)) (C := R_Model) (T := F_Model) (N := 54) hx hb hg i_Model hown hK hP 0 rfl rfl 28 (by decide) (hg _ k732) (fun _ h9 => h9) rfl d_Model_gather_84 ?_
      refine lv_aload_n hx hb d_Model_gather_87 rfl (lv_at hl 2 rfl) ?_
      refine va_get (D := (dC, dI)) (ci := 10) (v := .int (z4_3 29)) (C := R_Model) (T := F_Model) (N := 54) hx hb hg i_Model hown hK hP 0 rfl rfl 29 (by decide) (hg _ k719) (fun _ h9 => h9) rfl d_Model_gather_88 ?_
      refine lv_iload_n hx hb d_Model_gather_91 rfl (lv_at hl 4 rfl) ?_
      refine lv_isub hx hb d_Model_gather_92 ?_
      refine lv_iload hx hb d_Model_gather_93 (lv_at hl 0 rfl) ?_
      refine lv_iadd hx hb d_Model_gather_95 ?_
      obtain ⟨i9, h⟩ := dz_oi h
      refine va_iald (D := (dC, dI)) (f := G8 28) hx hb hK hP 18 1 rfl rfl i9 d_Model_gather_96 ?_
      obtain ⟨i10, h⟩ := dz_oi h
      refine va_iast (D := (dC, dI)) (f := G8 1) hx hb hK hP hD hS 2 1 rfl rfl i10 d_Model_gather_97 (fun H locs hP hD hS => ?_)
      obtain ⟨G11, eG11, h⟩ := dz_lt h
      have hP : va_P (dC, dI) classes (wD cB cI o_Model r z4_3 G11) H := by rw [eG11]; exact hP
      have hD : va_D A (wD cB cI o_Model r z4_3 G11) := by rw [eG11]; exact hD
      refine lv_iinc (v := v1_5 + 1) (lv' := [(5, .int (v1_5 + 1)), (4, .int z4_1), (0, .ref o_Model), (1, .int p0), (2, .int p1), (3, .int p2)]) hx hb d_Model_gather_98 hl (k := 0) rfl rfl (by decide) rfl (fun ls hl => ?_)
      refine lv_goto (tgt := 40) hx hb d_Model_gather_101 (by decide) ?_
      exact ih1 (v1_5 + 1) G11 _ _ _ h hP hD hS (lv_sub hl [0, 1, 2, 3, 4, 5] rfl)
set_option maxHeartbeats 4000000 in
set_option maxRecDepth 100000 in
theorem l_Model_gather_2 {p : Program} {l : Launch} {e : Env} {s : State} {m : MethodId} {args : Array Value} {below : List Frame} {meth : Method} {c : Code} {Q : State → Prop} {A : Nat → Prop} (dC : Nat → ClassId) (dI : Nat → Nat → Nat) (N : Nat) (cB : ClassId) (cI : ClassId) (o_Model : Nat) (r : Nat → Nat) (p0 : Int32) (p1 : Int32) (p2 : Int32) (z16_1 : Int32) (z16_3 : Nat → Int32) {ζ : Type} {z : ζ} (hx : p.tables.exec = Jvm.exec) (hb : c.code = b_Model_gather) (hml : c.maxLocals = 6) (hown : s.vm.findClass R_Model = some m.cls) (hg : ∀ w ∈ lw_g, w.before args s = true) (hN : dz_N s) (hK : va_K (dC, dI) classes [(cB, .byte), (cI, .int)] s) (hA : ∀ q : Nat, s.heap.size ≤ q → A q) {k2_104 : Int32 → (Nat → Nat → Int32) → Option (ζ)} (hk2_104 : ∀ (v2_5 : Int32) (w2_F : (Nat → Nat → Int32))    (H : Heap) (locs : List Loc) (ls : Array Slot), k2_104 v2_5 w2_F = some z → va_P (dC, dI) classes (wD cB cI o_Model r z16_3 w2_F) H → va_D A (wD cB cI o_Model r z16_3 w2_F) → va_S A s.heap H locs → lv_has ls 6 [(5, .int v2_5), (4, .int z16_1), (0, .ref o_Model), (1, .int p0), (2, .int p1), (3, .int p2)] → W p l e ({ frames := 7, cells := 0, slots := 0, locals := 150 } : Room) s m args below meth c H locs 0 0 Q (F0 m 104 ls [])) : ∀ (n2 : Nat) (v2_5 : Int32) (w2_F : (Nat → Nat → Int32))   (H : Heap) (locs : List Loc) (ls : Array Slot), lm_Model_gather_2 N p1 z16_1 z16_3 k2_104 n2 v2_5 w2_F = some z → va_P (dC, dI) classes (wD cB cI o_Model r z16_3 w2_F) H → va_D A (wD cB cI o_Model r z16_3 w2_F) → va_S A s.heap H locs → lv_has ls 6 [(5, .int v2_5), (4, .int z16_1), (0, .ref o_Model), (1, .int p0), (2, .int p1), (3, .int p2)] → W p l e ({ frames := 7, cells := 0, slots := 0, locals := 150 } : Room) s m args below meth c H locs 0 0 Q (F0 m 40 ls []) := by
  intro n2
  induction n2 with
  | zero =>
    intro v2_5 w2_F H locs ls h hP hD hS hl
    rw [lm_Model_gather_2] at h
    cases h
  | succ n2 ih2 =>
    intro v2_5 w2_F H locs ls h hP hD hS hl
    rw [lm_Model_gather_2] at h
    refine lv_iload hx hb d_Model_gather_40 (lv_at hl 0 rfl) ?_
    refine lv_iload_n hx hb d_Model_gather_42 rfl (lv_at hl 4 rfl) ?_
    refine lv_icmp_ge (tgt := 104) hx hb d_Model_gather_43 (by decide) (fun c17 => ?_) (fun c17 => ?_)
    · rw [if_pos c17] at h
      exact hk2_104 v2_5 w2_F _ _ _ h hP hD hS (lv_sub hl [0, 1, 2, 3, 4, 5] rfl)
    · rw [if_neg c17] at h
      refine lv_aload_n hx hb d_Model_gather_46 rfl (lv_at hl 2 rfl) ?_
      refine va_get (D := (dC, dI)) (ci := 10) (v := .ref (r 0)) (C := R_Model) (T := F_Model) (N := 54) hx hb hg i_Model hown hK hP 0 rfl rfl 0 (by decide) (hg _ k737) (fun _ h9 => h9) rfl d_Model_gather_47 ?_
      refine lv_iload hx hb d_Model_gather_50 (lv_at hl 1 rfl) ?_
      refine lv_iconst (v := 1) hx hb d_Model_gather_52 (by decide) ?_
      refine lv_iadd hx hb d_Model_gather_53 ?_
      refine lv_iload hx hb d_Model_gather_54 (lv_at hl 0 rfl) ?_
      refine lv_iadd hx hb d_Model_gather_56 ?_
      refine lv_aload_n hx hb d_Model_gather_57 rfl (lv_at hl 2 rfl) ?_
      refine va_get (D := (dC, dI)) (ci := 10) (v := .ref (r 27)) (C := R_Model) (T := F_Model) (N := 54) hx hb hg i_Model hown hK hP 0 rfl rfl 27 (by decide) (hg _ k731) (fun _ h9 => h9) rfl d_Model_gather_58 ?_
      refine lv_aload_n hx hb d_Model_gather_61 rfl (lv_at hl 2 rfl) ?_
      refine va_get (D := (dC, dI)) (ci := 10) (v := .int (z16_3 29)) (C := R_Model) (T := F_Model) (N := 54) hx hb hg i_Model hown hK hP 0 rfl rfl 29 (by decide) (hg _ k719) (fun _ h9 => h9) rfl d_Model_gather_62 ?_
      refine lv_iload_n hx hb d_Model_gather_65 rfl (lv_at hl 4 rfl) ?_
      refine lv_isub hx hb d_Model_gather_66 ?_
      refine lv_iload hx hb d_Model_gather_67 (lv_at hl 0 rfl) ?_
      refine lv_iadd hx hb d_Model_gather_69 ?_
      obtain ⟨i18, h⟩ := dz_oi h
      refine va_iald (D := (dC, dI)) (f := w2_F 27) hx hb hK hP 17 1 rfl rfl i18 d_Model_gather_70 ?_
      obtain ⟨i19, h⟩ := dz_oi h
      refine va_iast (D := (dC, dI)) (f := w2_F 0) hx hb hK hP hD hS 1 1 rfl rfl i19 d_Model_gather_71 (fun H locs hP hD hS => ?_)
      obtain ⟨G20, eG20, h⟩ := dz_lt h
      have hP : va_P (dC, dI) classes (wD cB cI o_Model r z16_3 G20) H := by rw [eG20]; exact hP
      have hD : va_D A (wD cB cI o_Model r z16_3 G20) := by rw [eG20]; exact hD
      refine lv_aload_n hx hb d_Model_gather_72 rfl (lv_at hl 2 rfl) ?_
      refine va_get (D := (dC, dI)) (ci := 10) (v := .ref (r 1)) (C := R_Model) (T := F_Model) (N := 54) hx hb hg i_Model hown hK hP 0 rfl rfl 1 (by decide) (hg _ k742) (fun _ h9 => h9) rfl d_Model_gather_73 ?_
      refine lv_iload hx hb d_Model_gather_76 (lv_at hl 1 rfl) ?_
      refine lv_iconst (v := 1) hx hb d_Model_gather_78 (by decide) ?_
      refine lv_iadd hx hb d_Model_gather_79 ?_
      refine lv_iload hx hb d_Model_gather_80 (lv_at hl 0 rfl) ?_
      refine lv_iadd hx hb d_Model_gather_82 ?_
      refine lv_aload_n hx hb d_Model_gather_83 rfl (lv_at hl 2 rfl) ?_
      refine va_get (D := (dC, dI)) (ci := 10) (v := .ref (r 28)) (C := R_Model) (T := F_Model) (N := 54) hx hb hg i_Model hown hK hP 0 rfl rfl 28 (by decide) (hg _ k732) (fun _ h9 => h9) rfl d_Model_gather_84 ?_
      refine lv_aload_n hx hb d_Model_gather_87 rfl (lv_at hl 2 rfl) ?_
      refine va_get (D := (dC, dI)) (ci := 10) (v := .int (z16_3 29)) (C := R_Model) (T := F_Model) (N := 54) hx hb hg i_Model hown hK hP 0 rfl rfl 29 (by decide) (hg _ k719) (fun _ h9 => h9) rfl d_Model_gather_88 ?_
      refine lv_iload_n hx hb d_Model_gather_91 rfl (lv_at hl 4 rfl) ?_
      refine lv_isub hx hb d_Model_gather_92 ?_
      refine lv_iload hx hb d_Model_gather_93 (lv_at hl 0 rfl) ?_
      refine lv_iadd hx hb d_Model_gather_95 ?_
      obtain ⟨i21, h⟩ := dz_oi h
      refine va_iald (D := (dC, dI)) (f := G20 28) hx hb hK hP 18 1 rfl rfl i21 d_Model_gather_96 ?_
      obtain ⟨i22, h⟩ := dz_oi h
      refine va_iast (D := (dC, dI)) (f := G20 1) hx hb hK hP hD hS 2 1 rfl rfl i22 d_Model_gather_97 (fun H locs hP hD hS => ?_)
      obtain ⟨G23, eG23, h⟩ := dz_lt h
      have hP : va_P (dC, dI) classes (wD cB cI o_Model r z16_3 G23) H := by rw [eG23]; exact hP
      have hD : va_D A (wD cB cI o_Model r z16_3 G23) := by rw [eG23]; exact hD
      refine lv_iinc (v := v2_5 + 1) (lv' := [(5, .int (v2_5 + 1)), (4, .int z16_1), (0, .ref o_Model), (1, .int p0), (2, .int p1), (3, .int p2)]) hx hb d_Model_gather_98 hl (k := 0) rfl rfl (by decide) rfl (fun ls hl => ?_)
      refine lv_goto (tgt := 40) hx hb d_Model_gather_101 (by decide) ?_
      exact ih2 (v2_5 + 1) G23 _ _ _ h hP hD hS (lv_sub hl [0, 1, 2, 3, 4, 5] rfl)
set_option maxHeartbeats 4000000 in
set_option maxRecDepth 100000 in
theorem c_Model_gather (l : Launch) (dC : Nat → ClassId) (dI : Nat → Nat → Nat) (N : Nat) (cB : ClassId) (cI : ClassId) (o_Model : Nat) (r : Nat → Nat) (I : Nat → Int32) (F : Nat → Nat → Int32) (p0 : Int32) (p1 : Int32) (p2 : Int32) (sz : Nat) (z : Int32 × (Nat → Nat → Int32) × (Nat → Int32)) (h : m_Model_gather N I F p0 p1 p2 = some z) : Met l y_Model_gather (.code y_Model_gather b_Model_gather 6 (some .int) :: lw_g) ({ frames := 7, cells := 0, slots := 0, locals := 150 }) (va_Pc [.ref o_Model, .int p0, .int p1, .int p2] (fun U => dz_N U ∧ U.heap.size = sz ∧ va_P (dC, dI) classes (wD cB cI o_Model r I F) U.heap ∧ va_K (dC, dI) classes [(cB, .byte), (cI, .int)] U ∧ va_D (fun _ => True) (wD cB cI o_Model r I F))) (va_Qi (fun (r : Int32) (_ : Unit) => r = z.1) (fun (u : Unit) t => va_P (dC, dI) classes (wD cB cI o_Model r z.2.2 z.2.1) t.heap ∧ va_K (dC, dI) classes [(cB, .byte), (cI, .int)] t ∧ va_D (va_A (wD cB cI o_Model r I F) sz) (wD cB cI o_Model r z.2.2 z.2.1)) (va_A (wD cB cI o_Model r I F) sz)) 0 0 (va_A (wD cB cI o_Model r I F) sz) := by
  refine Met.ofW (cc := b_Model_gather) (maxL := 6) (ret := (some .int)) (by decide +kernel) rfl ?_
  intro p e s m args below meth c s₁ B hml hv
  obtain ⟨rfl, hN, hsz, hP, hK, hD0⟩ := hv
  have hx := B.exec
  have hb := B.bytes
  have hr := B.returns
  have hg : ∀ w ∈ lw_g, w.before _ s = true := fun w hw => atoms_spec (ws := .code y_Model_gather b_Model_gather 6 (some .int) :: lw_g) B.pre w (List.mem_cons_of_mem _ hw)
  have hown : s.vm.findClass R_Model = some m.cls := findClass_of_methodNamed B.named
  have hlocks := B.notSynchronized
  clear B
  subst hsz
  have hD := hD0.self (sz := s.heap.size)
  generalize hAe : va_A (wD cB cI o_Model r I F) s.heap.size = A at hD ⊢
  have hA : ∀ q : Nat, s.heap.size ≤ q → A q := fun q h => by rw [← hAe]; exact Or.inr h
  have hS : va_S A s.heap s.heap [] := va_S.rf
  have hP : va_P (dC, dI) classes (wD cB cI o_Model r I F) s.heap := hP
  have hl := lv_entry ([.ref o_Model, .int p0, .int p1, .int p2]) (n := 6) (Nat.le_of_ble_eq_true rfl)
  rw [lg_entry_eq]
  generalize (lg_sl ([.ref o_Model, .int p0, .int p1, .int p2]) ++ List.replicate (6 - (lg_sl ([.ref o_Model, .int p0, .int p1, .int p2])).length) Slot.unset).toArray = ls at hl ⊢
  have hl : lv_has ls 6 [(0, .ref o_Model), (1, .int p0), (2, .int p1), (3, .int p2)] := hl
  unfold m_Model_gather at h
  refine lv_iload_n hx hb d_Model_gather_0 rfl (lv_at hl 2 rfl) ?_
  refine lv_if_ne (tgt := 13) hx hb d_Model_gather_1 (by decide) (fun c1 => ?_) (fun c1 => ?_)
  · rw [if_neg c1] at h
    refine lv_aload_n hx hb d_Model_gather_13 rfl (lv_at hl 0 rfl) ?_
    refine lv_iload_n hx hb d_Model_gather_14 rfl (lv_at hl 2 rfl) ?_
    refine lv_iconst (v := 1) hx hb d_Model_gather_15 (by decide) ?_
    refine lv_iadd hx hb d_Model_gather_16 ?_
    obtain ⟨⟨z2_1, z2_2, z2_3⟩, hc2, h⟩ := dz_ob h
    try dsimp only at h
    have hPc := hP
    have hKc := hK
    have hDc := hD
    have hFc := dz_freeall hD hS hA
    refine va_calli (va_runV (As := [.int (p1 + 1)]) (rest := []) ⟨hx, hb, hml, hown, hg⟩ (c_Model_hasRoom l dC dI N cB cI o_Model r I F (p1 + 1) s.heap.size (z2_1, z2_2, z2_3) hc2) (cwV 1 hg (gd_V k788 k789 k790 k707 k787) rfl rfl rfl (by decide +kernel) ⟨Nat.le_of_ble_eq_true rfl, Nat.le_of_ble_eq_true rfl⟩) ⟨dz_blind, va_recv hKc hPc (ci := 10) (q0 := 0) rfl rfl, fun U hU hW => ⟨rfl, dz_Nw hW hN, by rw [hU], by rw [hU]; exact hPc, va_K.moved hW.alike hKc, hDc.weaken (fun _ _ _ _ => trivial)⟩⟩ rfl rfl hl.1 rfl (lv_room (Nat.le_of_ble_eq_true rfl)) d_Model_gather_17 ⟨Nat.le_of_ble_eq_true rfl, Nat.le_of_ble_eq_true rfl⟩) hS (fun q _ h => hFc q h) hFc (fun r2 u2 t2 H1 locs ht hvm hw hB hz1 hk1 hS => ?_)
    obtain ⟨hP1, hK1, hD1⟩ := hB
    rw [ht] at hP1
    have hP := hP1
    have hD := hD1.weaken (fun _ q _ h => hFc q.1 h)
    obtain ⟨hw, hbz2⟩ := hw
    have hw : z2_1 = r2 := hw.symm
    subst hw
    generalize H1 = H at hP hS ⊢
    have hP : va_P (dC, dI) classes (wD cB cI o_Model r z2_3 z2_2) H := hP
    have hD : va_D A (wD cB cI o_Model r z2_3 z2_2) := hD
    refine lv_if_ne (tgt := 25) hx hb d_Model_gather_20 (by decide) (fun c3 => ?_) (fun c3 => ?_)
    · rw [if_neg c3] at h
      refine lv_aload_n hx hb d_Model_gather_25 rfl (lv_at hl 0 rfl) ?_
      refine lv_iload_n hx hb d_Model_gather_26 rfl (lv_at hl 1 rfl) ?_
      refine lv_iload_n hx hb d_Model_gather_27 rfl (lv_at hl 2 rfl) ?_
      refine lv_iload_n hx hb d_Model_gather_28 rfl (lv_at hl 3 rfl) ?_
      refine lv_iload_n hx hb d_Model_gather_29 rfl (lv_at hl 2 rfl) ?_
      refine lv_iconst (v := 1) hx hb d_Model_gather_30 (by decide) ?_
      refine lv_iadd hx hb d_Model_gather_31 ?_
      obtain ⟨⟨z4_1, z4_2, z4_3⟩, hc4, h⟩ := dz_ob h
      try dsimp only at h
      have hPc := hP
      have hKc := hK
      have hDc := hD
      have hFc := dz_freeall hD hS hA
      refine va_calli (va_runV (As := [.int p0, .int p1, .int p2, .int (p1 + 1)]) (rest := []) ⟨hx, hb, hml, hown, hg⟩ (c_Model_make l dC dI N cB cI o_Model r z2_3 z2_2 p0 p1 p2 (p1 + 1) H.size (z4_1, z4_2, z4_3) hc4) (cwV 4 hg (gd_V k784 k785 k786 k707 k783) rfl rfl rfl (by decide +kernel) ⟨Nat.le_of_ble_eq_true rfl, Nat.le_of_ble_eq_true rfl⟩) ⟨dz_blind, va_recv hKc hPc (ci := 10) (q0 := 0) rfl rfl, fun U hU hW => ⟨rfl, dz_Nw hW hN, by rw [hU], by rw [hU]; exact hPc, va_K.moved hW.alike hKc, hDc.weaken (fun _ _ _ _ => trivial)⟩⟩ rfl rfl hl.1 rfl (lv_room (Nat.le_of_ble_eq_true rfl)) d_Model_gather_32 ⟨Nat.le_of_ble_eq_true rfl, Nat.le_of_ble_eq_true rfl⟩) hS (fun q _ h => hFc q h) hFc (fun r4 u4 t4 H1 locs ht hvm hw hB hz1 hk1 hS => ?_)
      obtain ⟨hP1, hK1, hD1⟩ := hB
      rw [ht] at hP1
      have hP := hP1
      have hD := hD1.weaken (fun _ q _ h => hFc q.1 h)
      have hw : z4_1 = r4 := hw.symm
      subst hw
      generalize H1 = H at hP hS ⊢
      have hP : va_P (dC, dI) classes (wD cB cI o_Model r z4_3 z4_2) H := hP
      have hD : va_D A (wD cB cI o_Model r z4_3 z4_2) := hD
      refine lv_istore (lv' := [(4, .int z4_1), (0, .ref o_Model), (1, .int p0), (2, .int p1), (3, .int p2)]) hx hb d_Model_gather_35 hl (by decide) rfl (fun ls hl => ?_)
      refine lv_iconst (v := 0) hx hb d_Model_gather_37 (by decide) ?_
      refine lv_istore (lv' := [(5, .int 0), (4, .int z4_1), (0, .ref o_Model), (1, .int p0), (2, .int p1), (3, .int p2)]) hx hb d_Model_gather_38 hl (by decide) rfl (fun ls hl => ?_)
      refine l_Model_gather_1 dC dI N cB cI o_Model r p0 p1 p2 z4_1 z4_3 hx hb hml hown hg hN hK hA (fun v1_5 w1_F H locs ls h hP hD hS hl => ?_) N (0 : Int32) z4_2 _ _ _ h hP hD hS (lv_sub hl [0, 1, 2, 3, 4, 5] rfl)
      refine lv_aload_n hx hb d_Model_gather_104 rfl (lv_at hl 2 rfl) ?_
      refine lv_iload_n hx hb d_Model_gather_105 rfl (lv_at hl 4 rfl) ?_
      refine lv_iconst (v := 2) hx hb d_Model_gather_106 (by decide) ?_
      refine lv_iload hx hb d_Model_gather_107 (lv_at hl 1 rfl) ?_
      obtain ⟨⟨z12_1, z12_2, z12_3⟩, hc12, h⟩ := dz_ob h
      try dsimp only at h
      have hPc := hP
      have hKc := hK
      have hDc := hD
      have hFc := dz_freeall hD hS hA
      refine va_calli (va_runV (As := [.int p1, .int 2, .int z4_1]) (rest := []) ⟨hx, hb, hml, hown, hg⟩ (c_Model_give l dC dI N cB cI o_Model r z4_3 w1_F p1 (2 : Int32) z4_1 H.size (z12_1, z12_2, z12_3) hc12) (cwV 3 hg (gd_V k734 k735 k736 k707 k733) rfl rfl rfl (by decide +kernel) ⟨Nat.le_of_ble_eq_true rfl, Nat.le_of_ble_eq_true rfl⟩) ⟨dz_blind, va_recv hKc hPc (ci := 10) (q0 := 0) rfl rfl, fun U hU hW => ⟨rfl, dz_Nw hW hN, by rw [hU], by rw [hU]; exact hPc, va_K.moved hW.alike hKc, hDc.weaken (fun _ _ _ _ => trivial)⟩⟩ rfl rfl hl.1 rfl (lv_room (Nat.le_of_ble_eq_true rfl)) d_Model_gather_109 ⟨Nat.le_of_ble_eq_true rfl, Nat.le_of_ble_eq_true rfl⟩) hS (fun q _ h => hFc q h) hFc (fun r12 u12 t12 H1 locs ht hvm hw hB hz1 hk1 hS => ?_)
      obtain ⟨hP1, hK1, hD1⟩ := hB
      rw [ht] at hP1
      have hP := hP1
      have hD := hD1.weaken (fun _ q _ h => hFc q.1 h)
      have hw : z12_1 = r12 := hw.symm
      subst hw
      generalize H1 = H at hP hS ⊢
      have hP : va_P (dC, dI) classes (wD cB cI o_Model r z12_3 z12_2) H := hP
      have hD : va_D A (wD cB cI o_Model r z12_3 z12_2) := hD
      obtain rfl := Option.some.inj h
      have hP9 := hP
      have hD9 := hD
      have hK9 := hK
      exact W.iret (v := z12_1) hx hb hr (fun t ht hW => ⟨⟨z12_1, (), rfl, rfl, by rw [ht]; exact hP9, va_K.moved hW.alike hK9, hD9⟩, hS.F ht⟩) hS.2.2 d_Model_gather_112
    · rw [if_pos c3] at h
      refine lv_iconst (v := 3) hx hb d_Model_gather_23 (by decide) ?_
      obtain rfl := Option.some.inj h
      have hP9 := hP
      have hD9 := hD
      have hK9 := hK
      exact W.iret (v := 3) hx hb hr (fun t ht hW => ⟨⟨3, (), rfl, rfl, by rw [ht]; exact hP9, va_K.moved hW.alike hK9, hD9⟩, hS.F ht⟩) hS.2.2 d_Model_gather_24
  · rw [if_pos c1] at h
    refine lv_aload_n hx hb d_Model_gather_4 rfl (lv_at hl 0 rfl) ?_
    refine va_get (D := (dC, dI)) (ci := 10) (v := .int (I 29)) (C := R_Model) (T := F_Model) (N := 54) hx hb hg i_Model hown hK hP 0 rfl rfl 29 (by decide) (hg _ k719) (fun _ h9 => h9) rfl d_Model_gather_5 ?_
    refine lv_ldc (v := 65536) hx hb hown (hg _ k713) d_Model_gather_8 ?_
    refine lv_icmp_eq (tgt := 23) hx hb d_Model_gather_10 (by decide) (fun c13 => ?_) (fun c13 => ?_)
    · rw [if_pos c13] at h
      refine lv_iconst (v := 3) hx hb d_Model_gather_23 (by decide) ?_
      obtain rfl := Option.some.inj h
      have hP9 := hP
      have hD9 := hD
      have hK9 := hK
      exact W.iret (v := 3) hx hb hr (fun t ht hW => ⟨⟨3, (), rfl, rfl, by rw [ht]; exact hP9, va_K.moved hW.alike hK9, hD9⟩, hS.F ht⟩) hS.2.2 d_Model_gather_24
    · rw [if_neg c13] at h
      refine lv_aload_n hx hb d_Model_gather_13 rfl (lv_at hl 0 rfl) ?_
      refine lv_iload_n hx hb d_Model_gather_14 rfl (lv_at hl 2 rfl) ?_
      refine lv_iconst (v := 1) hx hb d_Model_gather_15 (by decide) ?_
      refine lv_iadd hx hb d_Model_gather_16 ?_
      obtain ⟨⟨z14_1, z14_2, z14_3⟩, hc14, h⟩ := dz_ob h
      try dsimp only at h
      have hPc := hP
      have hKc := hK
      have hDc := hD
      have hFc := dz_freeall hD hS hA
      refine va_calli (va_runV (As := [.int (p1 + 1)]) (rest := []) ⟨hx, hb, hml, hown, hg⟩ (c_Model_hasRoom l dC dI N cB cI o_Model r I F (p1 + 1) s.heap.size (z14_1, z14_2, z14_3) hc14) (cwV 1 hg (gd_V k788 k789 k790 k707 k787) rfl rfl rfl (by decide +kernel) ⟨Nat.le_of_ble_eq_true rfl, Nat.le_of_ble_eq_true rfl⟩) ⟨dz_blind, va_recv hKc hPc (ci := 10) (q0 := 0) rfl rfl, fun U hU hW => ⟨rfl, dz_Nw hW hN, by rw [hU], by rw [hU]; exact hPc, va_K.moved hW.alike hKc, hDc.weaken (fun _ _ _ _ => trivial)⟩⟩ rfl rfl hl.1 rfl (lv_room (Nat.le_of_ble_eq_true rfl)) d_Model_gather_17 ⟨Nat.le_of_ble_eq_true rfl, Nat.le_of_ble_eq_true rfl⟩) hS (fun q _ h => hFc q h) hFc (fun r14 u14 t14 H1 locs ht hvm hw hB hz1 hk1 hS => ?_)
      obtain ⟨hP1, hK1, hD1⟩ := hB
      rw [ht] at hP1
      have hP := hP1
      have hD := hD1.weaken (fun _ q _ h => hFc q.1 h)
      obtain ⟨hw, hbz14⟩ := hw
      have hw : z14_1 = r14 := hw.symm
      subst hw
      generalize H1 = H at hP hS ⊢
      have hP : va_P (dC, dI) classes (wD cB cI o_Model r z14_3 z14_2) H := hP
      have hD : va_D A (wD cB cI o_Model r z14_3 z14_2) := hD
      refine lv_if_ne (tgt := 25) hx hb d_Model_gather_20 (by decide) (fun c15 => ?_) (fun c15 => ?_)
      · rw [if_neg c15] at h
        refine lv_aload_n hx hb d_Model_gather_25 rfl (lv_at hl 0 rfl) ?_
        refine lv_iload_n hx hb d_Model_gather_26 rfl (lv_at hl 1 rfl) ?_
        refine lv_iload_n hx hb d_Model_gather_27 rfl (lv_at hl 2 rfl) ?_
        refine lv_iload_n hx hb d_Model_gather_28 rfl (lv_at hl 3 rfl) ?_
        refine lv_iload_n hx hb d_Model_gather_29 rfl (lv_at hl 2 rfl) ?_
        refine lv_iconst (v := 1) hx hb d_Model_gather_30 (by decide) ?_
        refine lv_iadd hx hb d_Model_gather_31 ?_
        obtain ⟨⟨z16_1, z16_2, z16_3⟩, hc16, h⟩ := dz_ob h
        try dsimp only at h
        have hPc := hP
        have hKc := hK
        have hDc := hD
        have hFc := dz_freeall hD hS hA
        refine va_calli (va_runV (As := [.int p0, .int p1, .int p2, .int (p1 + 1)]) (rest := []) ⟨hx, hb, hml, hown, hg⟩ (c_Model_make l dC dI N cB cI o_Model r z14_3 z14_2 p0 p1 p2 (p1 + 1) H.size (z16_1, z16_2, z16_3) hc16) (cwV 4 hg (gd_V k784 k785 k786 k707 k783) rfl rfl rfl (by decide +kernel) ⟨Nat.le_of_ble_eq_true rfl, Nat.le_of_ble_eq_true rfl⟩) ⟨dz_blind, va_recv hKc hPc (ci := 10) (q0 := 0) rfl rfl, fun U hU hW => ⟨rfl, dz_Nw hW hN, by rw [hU], by rw [hU]; exact hPc, va_K.moved hW.alike hKc, hDc.weaken (fun _ _ _ _ => trivial)⟩⟩ rfl rfl hl.1 rfl (lv_room (Nat.le_of_ble_eq_true rfl)) d_Model_gather_32 ⟨Nat.le_of_ble_eq_true rfl, Nat.le_of_ble_eq_true rfl⟩) hS (fun q _ h => hFc q h) hFc (fun r16 u16 t16 H1 locs ht hvm hw hB hz1 hk1 hS => ?_)
        obtain ⟨hP1, hK1, hD1⟩ := hB
        rw [ht] at hP1
        have hP := hP1
        have hD := hD1.weaken (fun _ q _ h => hFc q.1 h)
        have hw : z16_1 = r16 := hw.symm
        subst hw
        generalize H1 = H at hP hS ⊢
        have hP : va_P (dC, dI) classes (wD cB cI o_Model r z16_3 z16_2) H := hP
        have hD : va_D A (wD cB cI o_Model r z16_3 z16_2) := hD
        refine lv_istore (lv' := [(4, .int z16_1), (0, .ref o_Model), (1, .int p0), (2, .int p1), (3, .int p2)]) hx hb d_Model_gather_35 hl (by decide) rfl (fun ls hl => ?_)
        refine lv_iconst (v := 0) hx hb d_Model_gather_37 (by decide) ?_
        refine lv_istore (lv' := [(5, .int 0), (4, .int z16_1), (0, .ref o_Model), (1, .int p0), (2, .int p1), (3, .int p2)]) hx hb d_Model_gather_38 hl (by decide) rfl (fun ls hl => ?_)
        refine l_Model_gather_2 dC dI N cB cI o_Model r p0 p1 p2 z16_1 z16_3 hx hb hml hown hg hN hK hA (fun v2_5 w2_F H locs ls h hP hD hS hl => ?_) N (0 : Int32) z16_2 _ _ _ h hP hD hS (lv_sub hl [0, 1, 2, 3, 4, 5] rfl)
        refine lv_aload_n hx hb d_Model_gather_104 rfl (lv_at hl 2 rfl) ?_
        refine lv_iload_n hx hb d_Model_gather_105 rfl (lv_at hl 4 rfl) ?_
        refine lv_iconst (v := 2) hx hb d_Model_gather_106 (by decide) ?_
        refine lv_iload hx hb d_Model_gather_107 (lv_at hl 1 rfl) ?_
        obtain ⟨⟨z24_1, z24_2, z24_3⟩, hc24, h⟩ := dz_ob h
        try dsimp only at h
        have hPc := hP
        have hKc := hK
        have hDc := hD
        have hFc := dz_freeall hD hS hA
        refine va_calli (va_runV (As := [.int p1, .int 2, .int z16_1]) (rest := []) ⟨hx, hb, hml, hown, hg⟩ (c_Model_give l dC dI N cB cI o_Model r z16_3 w2_F p1 (2 : Int32) z16_1 H.size (z24_1, z24_2, z24_3) hc24) (cwV 3 hg (gd_V k734 k735 k736 k707 k733) rfl rfl rfl (by decide +kernel) ⟨Nat.le_of_ble_eq_true rfl, Nat.le_of_ble_eq_true rfl⟩) ⟨dz_blind, va_recv hKc hPc (ci := 10) (q0 := 0) rfl rfl, fun U hU hW => ⟨rfl, dz_Nw hW hN, by rw [hU], by rw [hU]; exact hPc, va_K.moved hW.alike hKc, hDc.weaken (fun _ _ _ _ => trivial)⟩⟩ rfl rfl hl.1 rfl (lv_room (Nat.le_of_ble_eq_true rfl)) d_Model_gather_109 ⟨Nat.le_of_ble_eq_true rfl, Nat.le_of_ble_eq_true rfl⟩) hS (fun q _ h => hFc q h) hFc (fun r24 u24 t24 H1 locs ht hvm hw hB hz1 hk1 hS => ?_)
        obtain ⟨hP1, hK1, hD1⟩ := hB
        rw [ht] at hP1
        have hP := hP1
        have hD := hD1.weaken (fun _ q _ h => hFc q.1 h)
        have hw : z24_1 = r24 := hw.symm
        subst hw
        generalize H1 = H at hP hS ⊢
        have hP : va_P (dC, dI) classes (wD cB cI o_Model r z24_3 z24_2) H := hP
        have hD : va_D A (wD cB cI o_Model r z24_3 z24_2) := hD
        obtain rfl := Option.some.inj h
        have hP9 := hP
        have hD9 := hD
        have hK9 := hK
        exact W.iret (v := z24_1) hx hb hr (fun t ht hW => ⟨⟨z24_1, (), rfl, rfl, by rw [ht]; exact hP9, va_K.moved hW.alike hK9, hD9⟩, hS.F ht⟩) hS.2.2 d_Model_gather_112
      · rw [if_pos c15] at h
        refine lv_iconst (v := 3) hx hb d_Model_gather_23 (by decide) ?_
        obtain rfl := Option.some.inj h
        have hP9 := hP
        have hD9 := hD
        have hK9 := hK
        exact W.iret (v := 3) hx hb hr (fun t ht hW => ⟨⟨3, (), rfl, rfl, by rw [ht]; exact hP9, va_K.moved hW.alike hK9, hD9⟩, hS.F ht⟩) hS.2.2 d_Model_gather_24

set_option maxHeartbeats 4000000 in
set_option maxRecDepth 100000 in
theorem c_Model_is (l : Launch) (dC : Nat → ClassId) (dI : Nat → Nat → Nat) (N : Nat) (cB : ClassId) (cI : ClassId) (o_Model : Nat) (r : Nat → Nat) (I : Nat → Int32) (F : Nat → Nat → Int32) (p0 : Int32) (p1 : Int32) (z : Int32) (h : m_Model_is N I F p0 p1 = some z) : Met l y_Model_is (.code y_Model_is b_Model_is 3 (some .boolean) :: lw_g) ({ frames := 1, cells := 0, slots := 0, locals := 21 }) (va_Pc [.ref o_Model, .int p0, .int p1] (fun U => dz_N U ∧ va_P (dC, dI) classes (wD cB cI o_Model r I F) U.heap ∧ va_K (dC, dI) classes [(cB, .byte), (cI, .int)] U)) (vp_Si (fun r => r = z ∧ narrow .boolean (.int z) = .int z ∧ fits .boolean (.int z) = true)) 0 0 (fun _ => False) := by
  refine Met.ofW (cc := b_Model_is) (maxL := 3) (ret := (some .boolean)) (by decide +kernel) rfl ?_
  intro p e s m args below meth c s₁ B hml hv
  obtain ⟨rfl, hN, hP, hK⟩ := hv
  have hx := B.exec
  have hb := B.bytes
  have hr := B.returns
  have hg : ∀ w ∈ lw_g, w.before _ s = true := fun w hw => atoms_spec (ws := .code y_Model_is b_Model_is 3 (some .boolean) :: lw_g) B.pre w (List.mem_cons_of_mem _ hw)
  have hown : s.vm.findClass R_Model = some m.cls := findClass_of_methodNamed B.named
  have hlocks := B.notSynchronized
  clear B
  have hP : va_P (dC, dI) classes (wD cB cI o_Model r I F) s.heap := hP
  have hl := lv_entry ([.ref o_Model, .int p0, .int p1]) (n := 3) (Nat.le_of_ble_eq_true rfl)
  rw [lg_entry_eq]
  generalize (lg_sl ([.ref o_Model, .int p0, .int p1]) ++ List.replicate (3 - (lg_sl ([.ref o_Model, .int p0, .int p1])).length) Slot.unset).toArray = ls at hl ⊢
  have hl : lv_has ls 3 [(0, .ref o_Model), (1, .int p0), (2, .int p1)] := hl
  unfold m_Model_is at h
  refine lv_aload_n hx hb d_Model_is_0 rfl (lv_at hl 0 rfl) ?_
  refine va_get (D := (dC, dI)) (ci := 10) (v := .ref (r 27)) (C := R_Model) (T := F_Model) (N := 54) hx hb hg i_Model hown hK hP 0 rfl rfl 27 (by decide) (hg _ k731) (fun _ h9 => h9) rfl d_Model_is_1 ?_
  refine lv_aload_n hx hb d_Model_is_4 rfl (lv_at hl 0 rfl) ?_
  refine va_get (D := (dC, dI)) (ci := 10) (v := .int (I 29)) (C := R_Model) (T := F_Model) (N := 54) hx hb hg i_Model hown hK hP 0 rfl rfl 29 (by decide) (hg _ k719) (fun _ h9 => h9) rfl d_Model_is_5 ?_
  refine lv_iload_n hx hb d_Model_is_8 rfl (lv_at hl 1 rfl) ?_
  refine lv_isub hx hb d_Model_is_9 ?_
  obtain ⟨i1, h⟩ := dz_oi h
  refine va_iald (D := (dC, dI)) (f := F 27) hx hb hK hP 17 1 rfl rfl i1 d_Model_is_10 ?_
  refine lv_iconst (v := 2) hx hb d_Model_is_11 (by decide) ?_
  refine lv_icmp_ne (tgt := 38) hx hb d_Model_is_12 (by decide) (fun c2 => ?_) (fun c2 => ?_)
  · rw [if_neg c2] at h
    refine lv_iconst (v := 0) hx hb d_Model_is_38 (by decide) ?_
    obtain rfl := Option.some.inj h
    exact W.zret (v := 0) (ty := .boolean) hx hb hr (show narrow .boolean (.int 0) = .int 0 from rfl) (fun t ht hW => ⟨_, rfl, ⟨rfl, (show narrow .boolean (.int 0) = .int 0 from rfl), (show fits .boolean (.int 0) = true from rfl)⟩, ht⟩) (fun _ h => by cases h) d_Model_is_39
  · rw [if_pos c2] at h
    refine lv_aload_n hx hb d_Model_is_15 rfl (lv_at hl 0 rfl) ?_
    refine lv_aload_n hx hb d_Model_is_16 rfl (lv_at hl 0 rfl) ?_
    refine va_get (D := (dC, dI)) (ci := 10) (v := .ref (r 28)) (C := R_Model) (T := F_Model) (N := 54) hx hb hg i_Model hown hK hP 0 rfl rfl 28 (by decide) (hg _ k732) (fun _ h9 => h9) rfl d_Model_is_17 ?_
    refine lv_aload_n hx hb d_Model_is_20 rfl (lv_at hl 0 rfl) ?_
    refine va_get (D := (dC, dI)) (ci := 10) (v := .int (I 29)) (C := R_Model) (T := F_Model) (N := 54) hx hb hg i_Model hown hK hP 0 rfl rfl 29 (by decide) (hg _ k719) (fun _ h9 => h9) rfl d_Model_is_21 ?_
    refine lv_iload_n hx hb d_Model_is_24 rfl (lv_at hl 1 rfl) ?_
    refine lv_isub hx hb d_Model_is_25 ?_
    obtain ⟨i3, h⟩ := dz_oi h
    refine va_iald (D := (dC, dI)) (f := F 28) hx hb hK hP 18 1 rfl rfl i3 d_Model_is_26 ?_
    obtain ⟨z4_1, hc4, h⟩ := dz_ob h
    try dsimp only at h
    have hPc := hP
    have hKc := hK
    refine vp_callSi (va_Run.run (va_runV (As := [.int ((F 28) ((I 29) - p0).toNatClampNeg)]) (rest := []) ⟨hx, hb, hml, hown, hg⟩ (c_Model_kindAt l dC dI N cB cI o_Model r I F ((F 28) ((I 29) - p0).toNatClampNeg) z4_1 hc4) (cwV 1 hg (gd_V k739 k740 k741 k707 k738) rfl rfl rfl (by decide +kernel) ⟨Nat.le_of_ble_eq_true rfl, Nat.le_of_ble_eq_true rfl⟩) ⟨dz_blindR, va_recv hKc hPc (ci := 10) (q0 := 0) rfl rfl, fun U hU hW => ⟨rfl, dz_Nw hW hN, by rw [hU]; exact hPc, va_K.moved hW.alike hKc⟩⟩ rfl rfl hl.1 rfl (lv_room (Nat.le_of_ble_eq_true rfl)) d_Model_is_27 ⟨Nat.le_of_ble_eq_true rfl, Nat.le_of_ble_eq_true rfl⟩)) (fun r4 hw => ?_)
    have hw : z4_1 = r4 := hw.symm
    subst hw
    refine lv_iload_n hx hb d_Model_is_30 rfl (lv_at hl 2 rfl) ?_
    refine lv_icmp_ne (tgt := 38) hx hb d_Model_is_31 (by decide) (fun c5 => ?_) (fun c5 => ?_)
    · rw [if_neg c5] at h
      refine lv_iconst (v := 0) hx hb d_Model_is_38 (by decide) ?_
      obtain rfl := Option.some.inj h
      exact W.zret (v := 0) (ty := .boolean) hx hb hr (show narrow .boolean (.int 0) = .int 0 from rfl) (fun t ht hW => ⟨_, rfl, ⟨rfl, (show narrow .boolean (.int 0) = .int 0 from rfl), (show fits .boolean (.int 0) = true from rfl)⟩, ht⟩) (fun _ h => by cases h) d_Model_is_39
    · rw [if_pos c5] at h
      refine lv_iconst (v := 1) hx hb d_Model_is_34 (by decide) ?_
      refine lv_goto (tgt := 39) hx hb d_Model_is_35 (by decide) ?_
      obtain rfl := Option.some.inj h
      exact W.zret (v := 1) (ty := .boolean) hx hb hr (show narrow .boolean (.int 1) = .int 1 from rfl) (fun t ht hW => ⟨_, rfl, ⟨rfl, (show narrow .boolean (.int 1) = .int 1 from rfl), (show fits .boolean (.int 1) = true from rfl)⟩, ht⟩) (fun _ h => by cases h) d_Model_is_39

set_option maxHeartbeats 4000000 in
set_option maxRecDepth 100000 in
theorem c_Model_scalar (l : Launch) (dC : Nat → ClassId) (dI : Nat → Nat → Nat) (N : Nat) (cB : ClassId) (cI : ClassId) (o_Model : Nat) (r : Nat → Nat) (I : Nat → Int32) (F : Nat → Nat → Int32) (p0 : Int32) (z : Int32) (h : m_Model_scalar N I F p0 = some z) : Met l y_Model_scalar (.code y_Model_scalar b_Model_scalar 2 (some .int) :: lw_g) ({ frames := 0, cells := 0, slots := 0, locals := 0 }) (va_Pc [.ref o_Model, .int p0] (fun U => dz_N U ∧ va_P (dC, dI) classes (wD cB cI o_Model r I F) U.heap ∧ va_K (dC, dI) classes [(cB, .byte), (cI, .int)] U)) (vp_Si (fun r => r = z)) 0 0 (fun _ => False) := by
  refine Met.ofW (cc := b_Model_scalar) (maxL := 2) (ret := (some .int)) (by decide +kernel) rfl ?_
  intro p e s m args below meth c s₁ B hml hv
  obtain ⟨rfl, hN, hP, hK⟩ := hv
  have hx := B.exec
  have hb := B.bytes
  have hr := B.returns
  have hg : ∀ w ∈ lw_g, w.before _ s = true := fun w hw => atoms_spec (ws := .code y_Model_scalar b_Model_scalar 2 (some .int) :: lw_g) B.pre w (List.mem_cons_of_mem _ hw)
  have hown : s.vm.findClass R_Model = some m.cls := findClass_of_methodNamed B.named
  have hlocks := B.notSynchronized
  clear B
  have hP : va_P (dC, dI) classes (wD cB cI o_Model r I F) s.heap := hP
  have hl := lv_entry ([.ref o_Model, .int p0]) (n := 2) (Nat.le_of_ble_eq_true rfl)
  rw [lg_entry_eq]
  generalize (lg_sl ([.ref o_Model, .int p0]) ++ List.replicate (2 - (lg_sl ([.ref o_Model, .int p0])).length) Slot.unset).toArray = ls at hl ⊢
  have hl : lv_has ls 2 [(0, .ref o_Model), (1, .int p0)] := hl
  unfold m_Model_scalar at h
  refine lv_aload_n hx hb d_Model_scalar_0 rfl (lv_at hl 0 rfl) ?_
  refine va_get (D := (dC, dI)) (ci := 10) (v := .ref (r 28)) (C := R_Model) (T := F_Model) (N := 54) hx hb hg i_Model hown hK hP 0 rfl rfl 28 (by decide) (hg _ k732) (fun _ h9 => h9) rfl d_Model_scalar_1 ?_
  refine lv_aload_n hx hb d_Model_scalar_4 rfl (lv_at hl 0 rfl) ?_
  refine va_get (D := (dC, dI)) (ci := 10) (v := .int (I 29)) (C := R_Model) (T := F_Model) (N := 54) hx hb hg i_Model hown hK hP 0 rfl rfl 29 (by decide) (hg _ k719) (fun _ h9 => h9) rfl d_Model_scalar_5 ?_
  refine lv_iload_n hx hb d_Model_scalar_8 rfl (lv_at hl 1 rfl) ?_
  refine lv_isub hx hb d_Model_scalar_9 ?_
  obtain ⟨i1, h⟩ := dz_oi h
  refine va_iald (D := (dC, dI)) (f := F 28) hx hb hK hP 18 1 rfl rfl i1 d_Model_scalar_10 ?_
  obtain rfl := Option.some.inj h
  exact W.iret (v := (F 28) ((I 29) - p0).toNatClampNeg) hx hb hr (fun t ht hW => ⟨_, rfl, rfl, ht⟩) (fun _ h => by cases h) d_Model_scalar_11

set_option maxHeartbeats 4000000 in
set_option maxRecDepth 100000 in
theorem c_Model_part (l : Launch) (dC : Nat → ClassId) (dI : Nat → Nat → Nat) (N : Nat) (cB : ClassId) (cI : ClassId) (o_Model : Nat) (r : Nat → Nat) (I : Nat → Int32) (F : Nat → Nat → Int32) (p0 : Int32) (sz : Nat) (z : Int32 × (Nat → Nat → Int32) × (Nat → Int32)) (h : m_Model_part N I F p0 = some z) : Met l y_Model_part (.code y_Model_part b_Model_part 3 (some .int) :: lw_g) ({ frames := 1, cells := 0, slots := 0, locals := 23 }) (va_Pc [.ref o_Model, .int p0] (fun U => dz_N U ∧ U.heap.size = sz ∧ va_P (dC, dI) classes (wD cB cI o_Model r I F) U.heap ∧ va_K (dC, dI) classes [(cB, .byte), (cI, .int)] U ∧ va_D (fun _ => True) (wD cB cI o_Model r I F))) (va_Qi (fun (r : Int32) (_ : Unit) => r = z.1) (fun (u : Unit) t => va_P (dC, dI) classes (wD cB cI o_Model r z.2.2 z.2.1) t.heap ∧ va_K (dC, dI) classes [(cB, .byte), (cI, .int)] t ∧ va_D (va_A (wD cB cI o_Model r I F) sz) (wD cB cI o_Model r z.2.2 z.2.1)) (va_A (wD cB cI o_Model r I F) sz)) 0 0 (va_A (wD cB cI o_Model r I F) sz) := by
  refine Met.ofW (cc := b_Model_part) (maxL := 3) (ret := (some .int)) (by decide +kernel) rfl ?_
  intro p e s m args below meth c s₁ B hml hv
  obtain ⟨rfl, hN, hsz, hP, hK, hD0⟩ := hv
  have hx := B.exec
  have hb := B.bytes
  have hr := B.returns
  have hg : ∀ w ∈ lw_g, w.before _ s = true := fun w hw => atoms_spec (ws := .code y_Model_part b_Model_part 3 (some .int) :: lw_g) B.pre w (List.mem_cons_of_mem _ hw)
  have hown : s.vm.findClass R_Model = some m.cls := findClass_of_methodNamed B.named
  have hlocks := B.notSynchronized
  clear B
  subst hsz
  have hD := hD0.self (sz := s.heap.size)
  generalize hAe : va_A (wD cB cI o_Model r I F) s.heap.size = A at hD ⊢
  have hA : ∀ q : Nat, s.heap.size ≤ q → A q := fun q h => by rw [← hAe]; exact Or.inr h
  have hS : va_S A s.heap s.heap [] := va_S.rf
  have hP : va_P (dC, dI) classes (wD cB cI o_Model r I F) s.heap := hP
  have hl := lv_entry ([.ref o_Model, .int p0]) (n := 3) (Nat.le_of_ble_eq_true rfl)
  rw [lg_entry_eq]
  generalize (lg_sl ([.ref o_Model, .int p0]) ++ List.replicate (3 - (lg_sl ([.ref o_Model, .int p0])).length) Slot.unset).toArray = ls at hl ⊢
  have hl : lv_has ls 3 [(0, .ref o_Model), (1, .int p0)] := hl
  unfold m_Model_part at h
  refine lv_aload_n hx hb d_Model_part_0 rfl (lv_at hl 0 rfl) ?_
  refine lv_iconst (v := 1) hx hb d_Model_part_1 (by decide) ?_
  obtain ⟨z1_1, hc1, h⟩ := dz_ob h
  try dsimp only at h
  have hPc := hP
  have hKc := hK
  refine vp_callSi (va_Run.run (va_runV (As := [.int 1]) (rest := []) ⟨hx, hb, hml, hown, hg⟩ (c_Model_scalar l dC dI N cB cI o_Model r I F (1 : Int32) z1_1 hc1) (cwV 1 hg (gd_V k804 k805 k806 k707 k803) rfl rfl rfl (by decide +kernel) ⟨Nat.le_of_ble_eq_true rfl, Nat.le_of_ble_eq_true rfl⟩) ⟨dz_blindR, va_recv hKc hPc (ci := 10) (q0 := 0) rfl rfl, fun U hU hW => ⟨rfl, dz_Nw hW hN, by rw [hU]; exact hPc, va_K.moved hW.alike hKc⟩⟩ rfl rfl hl.1 rfl (lv_room (Nat.le_of_ble_eq_true rfl)) d_Model_part_2 ⟨Nat.le_of_ble_eq_true rfl, Nat.le_of_ble_eq_true rfl⟩)) (fun r1 hw => ?_)
  have hw : z1_1 = r1 := hw.symm
  subst hw
  refine lv_istore_n (lv' := [(2, .int z1_1), (0, .ref o_Model), (1, .int p0)]) hx hb d_Model_part_5 rfl hl (by decide) rfl (fun ls hl => ?_)
  refine lv_aload_n hx hb d_Model_part_6 rfl (lv_at hl 1 rfl) ?_
  refine lv_iconst (v := 1) hx hb d_Model_part_7 (by decide) ?_
  refine lv_aload_n hx hb d_Model_part_8 rfl (lv_at hl 1 rfl) ?_
  refine va_get (D := (dC, dI)) (ci := 10) (v := .ref (r 0)) (C := R_Model) (T := F_Model) (N := 54) hx hb hg i_Model hown hK hP 0 rfl rfl 0 (by decide) (hg _ k737) (fun _ h9 => h9) rfl d_Model_part_9 ?_
  refine lv_iload_n hx hb d_Model_part_12 rfl (lv_at hl 0 rfl) ?_
  refine lv_iconst (v := 1) hx hb d_Model_part_13 (by decide) ?_
  refine lv_iadd hx hb d_Model_part_14 ?_
  refine lv_iload_n hx hb d_Model_part_15 rfl (lv_at hl 2 rfl) ?_
  refine lv_iadd hx hb d_Model_part_16 ?_
  obtain ⟨i2, h⟩ := dz_oi h
  refine va_iald (D := (dC, dI)) (f := F 0) hx hb hK hP 1 1 rfl rfl i2 d_Model_part_17 ?_
  refine lv_aload_n hx hb d_Model_part_18 rfl (lv_at hl 1 rfl) ?_
  refine va_get (D := (dC, dI)) (ci := 10) (v := .ref (r 1)) (C := R_Model) (T := F_Model) (N := 54) hx hb hg i_Model hown hK hP 0 rfl rfl 1 (by decide) (hg _ k742) (fun _ h9 => h9) rfl d_Model_part_19 ?_
  refine lv_iload_n hx hb d_Model_part_22 rfl (lv_at hl 0 rfl) ?_
  refine lv_iconst (v := 1) hx hb d_Model_part_23 (by decide) ?_
  refine lv_iadd hx hb d_Model_part_24 ?_
  refine lv_iload_n hx hb d_Model_part_25 rfl (lv_at hl 2 rfl) ?_
  refine lv_iadd hx hb d_Model_part_26 ?_
  obtain ⟨i3, h⟩ := dz_oi h
  refine va_iald (D := (dC, dI)) (f := F 1) hx hb hK hP 2 1 rfl rfl i3 d_Model_part_27 ?_
  obtain ⟨⟨z4_1, z4_2, z4_3⟩, hc4, h⟩ := dz_ob h
  try dsimp only at h
  have hPc := hP
  have hKc := hK
  have hDc := hD
  have hFc := dz_freeall hD hS hA
  refine va_calli (va_runV (As := [.int 1, .int ((F 0) ((z1_1 + 1) + p0).toNatClampNeg), .int ((F 1) ((z1_1 + 1) + p0).toNatClampNeg)]) (rest := []) ⟨hx, hb, hml, hown, hg⟩ (c_Model_give l dC dI N cB cI o_Model r I F (1 : Int32) ((F 0) ((z1_1 + 1) + p0).toNatClampNeg) ((F 1) ((z1_1 + 1) + p0).toNatClampNeg) s.heap.size (z4_1, z4_2, z4_3) hc4) (cwV 3 hg (gd_V k734 k735 k736 k707 k733) rfl rfl rfl (by decide +kernel) ⟨Nat.le_of_ble_eq_true rfl, Nat.le_of_ble_eq_true rfl⟩) ⟨dz_blind, va_recv hKc hPc (ci := 10) (q0 := 0) rfl rfl, fun U hU hW => ⟨rfl, dz_Nw hW hN, by rw [hU], by rw [hU]; exact hPc, va_K.moved hW.alike hKc, hDc.weaken (fun _ _ _ _ => trivial)⟩⟩ rfl rfl hl.1 rfl (lv_room (Nat.le_of_ble_eq_true rfl)) d_Model_part_28 ⟨Nat.le_of_ble_eq_true rfl, Nat.le_of_ble_eq_true rfl⟩) hS (fun q _ h => hFc q h) hFc (fun r4 u4 t4 H1 locs ht hvm hw hB hz1 hk1 hS => ?_)
  obtain ⟨hP1, hK1, hD1⟩ := hB
  rw [ht] at hP1
  have hP := hP1
  have hD := hD1.weaken (fun _ q _ h => hFc q.1 h)
  have hw : z4_1 = r4 := hw.symm
  subst hw
  generalize H1 = H at hP hS ⊢
  have hP : va_P (dC, dI) classes (wD cB cI o_Model r z4_3 z4_2) H := hP
  have hD : va_D A (wD cB cI o_Model r z4_3 z4_2) := hD
  obtain rfl := Option.some.inj h
  have hP9 := hP
  have hD9 := hD
  have hK9 := hK
  exact W.iret (v := z4_1) hx hb hr (fun t ht hW => ⟨⟨z4_1, (), rfl, rfl, by rw [ht]; exact hP9, va_K.moved hW.alike hK9, hD9⟩, hS.F ht⟩) hS.2.2 d_Model_part_31

set_option maxHeartbeats 4000000 in
set_option maxRecDepth 100000 in
theorem c_Model_isScalar (l : Launch) (dC : Nat → ClassId) (dI : Nat → Nat → Nat) (N : Nat) (cB : ClassId) (cI : ClassId) (o_Model : Nat) (r : Nat → Nat) (I : Nat → Int32) (F : Nat → Nat → Int32) (p0 : Int32) (z : Int32) (h : m_Model_isScalar N I F p0 = some z) : Met l y_Model_isScalar (.code y_Model_isScalar b_Model_isScalar 2 (some .boolean) :: lw_g) ({ frames := 0, cells := 0, slots := 0, locals := 0 }) (va_Pc [.ref o_Model, .int p0] (fun U => dz_N U ∧ va_P (dC, dI) classes (wD cB cI o_Model r I F) U.heap ∧ va_K (dC, dI) classes [(cB, .byte), (cI, .int)] U)) (vp_Si (fun r => r = z ∧ narrow .boolean (.int z) = .int z ∧ fits .boolean (.int z) = true)) 0 0 (fun _ => False) := by
  refine Met.ofW (cc := b_Model_isScalar) (maxL := 2) (ret := (some .boolean)) (by decide +kernel) rfl ?_
  intro p e s m args below meth c s₁ B hml hv
  obtain ⟨rfl, hN, hP, hK⟩ := hv
  have hx := B.exec
  have hb := B.bytes
  have hr := B.returns
  have hg : ∀ w ∈ lw_g, w.before _ s = true := fun w hw => atoms_spec (ws := .code y_Model_isScalar b_Model_isScalar 2 (some .boolean) :: lw_g) B.pre w (List.mem_cons_of_mem _ hw)
  have hown : s.vm.findClass R_Model = some m.cls := findClass_of_methodNamed B.named
  have hlocks := B.notSynchronized
  clear B
  have hP : va_P (dC, dI) classes (wD cB cI o_Model r I F) s.heap := hP
  have hl := lv_entry ([.ref o_Model, .int p0]) (n := 2) (Nat.le_of_ble_eq_true rfl)
  rw [lg_entry_eq]
  generalize (lg_sl ([.ref o_Model, .int p0]) ++ List.replicate (2 - (lg_sl ([.ref o_Model, .int p0])).length) Slot.unset).toArray = ls at hl ⊢
  have hl : lv_has ls 2 [(0, .ref o_Model), (1, .int p0)] := hl
  unfold m_Model_isScalar at h
  refine lv_aload_n hx hb d_Model_isScalar_0 rfl (lv_at hl 0 rfl) ?_
  refine va_get (D := (dC, dI)) (ci := 10) (v := .ref (r 27)) (C := R_Model) (T := F_Model) (N := 54) hx hb hg i_Model hown hK hP 0 rfl rfl 27 (by decide) (hg _ k731) (fun _ h9 => h9) rfl d_Model_isScalar_1 ?_
  refine lv_aload_n hx hb d_Model_isScalar_4 rfl (lv_at hl 0 rfl) ?_
  refine va_get (D := (dC, dI)) (ci := 10) (v := .int (I 29)) (C := R_Model) (T := F_Model) (N := 54) hx hb hg i_Model hown hK hP 0 rfl rfl 29 (by decide) (hg _ k719) (fun _ h9 => h9) rfl d_Model_isScalar_5 ?_
  refine lv_iload_n hx hb d_Model_isScalar_8 rfl (lv_at hl 1 rfl) ?_
  refine lv_isub hx hb d_Model_isScalar_9 ?_
  obtain ⟨i1, h⟩ := dz_oi h
  refine va_iald (D := (dC, dI)) (f := F 27) hx hb hK hP 17 1 rfl rfl i1 d_Model_isScalar_10 ?_
  refine lv_if_ne (tgt := 18) hx hb d_Model_isScalar_11 (by decide) (fun c2 => ?_) (fun c2 => ?_)
  · rw [if_neg c2] at h
    refine lv_iconst (v := 0) hx hb d_Model_isScalar_18 (by decide) ?_
    obtain rfl := Option.some.inj h
    exact W.zret (v := 0) (ty := .boolean) hx hb hr (show narrow .boolean (.int 0) = .int 0 from rfl) (fun t ht hW => ⟨_, rfl, ⟨rfl, (show narrow .boolean (.int 0) = .int 0 from rfl), (show fits .boolean (.int 0) = true from rfl)⟩, ht⟩) (fun _ h => by cases h) d_Model_isScalar_19
  · rw [if_pos c2] at h
    refine lv_iconst (v := 1) hx hb d_Model_isScalar_14 (by decide) ?_
    refine lv_goto (tgt := 19) hx hb d_Model_isScalar_15 (by decide) ?_
    obtain rfl := Option.some.inj h
    exact W.zret (v := 1) (ty := .boolean) hx hb hr (show narrow .boolean (.int 1) = .int 1 from rfl) (fun t ht hW => ⟨_, rfl, ⟨rfl, (show narrow .boolean (.int 1) = .int 1 from rfl), (show fits .boolean (.int 1) = true from rfl)⟩, ht⟩) (fun _ h => by cases h) d_Model_isScalar_19

set_option maxHeartbeats 4000000 in
set_option maxRecDepth 100000 in
theorem c_Model_patch (l : Launch) (dC : Nat → ClassId) (dI : Nat → Nat → Nat) (N : Nat) (cB : ClassId) (cI : ClassId) (o_Model : Nat) (r : Nat → Nat) (I : Nat → Int32) (F : Nat → Nat → Int32) (p0 : Int32) (sz : Nat) (z : Int32 × (Nat → Nat → Int32) × (Nat → Int32)) (h : m_Model_patch N I F p0 = some z) : Met l y_Model_patch (.code y_Model_patch b_Model_patch 3 (some .int) :: lw_g) ({ frames := 2, cells := 0, slots := 0, locals := 43 }) (va_Pc [.ref o_Model, .int p0] (fun U => dz_N U ∧ U.heap.size = sz ∧ va_P (dC, dI) classes (wD cB cI o_Model r I F) U.heap ∧ va_K (dC, dI) classes [(cB, .byte), (cI, .int)] U ∧ va_D (fun _ => True) (wD cB cI o_Model r I F))) (va_Qi (fun (r : Int32) (_ : Unit) => r = z.1) (fun (u : Unit) t => va_P (dC, dI) classes (wD cB cI o_Model r z.2.2 z.2.1) t.heap ∧ va_K (dC, dI) classes [(cB, .byte), (cI, .int)] t ∧ va_D (va_A (wD cB cI o_Model r I F) sz) (wD cB cI o_Model r z.2.2 z.2.1)) (va_A (wD cB cI o_Model r I F) sz)) 0 0 (va_A (wD cB cI o_Model r I F) sz) := by
  refine Met.ofW (cc := b_Model_patch) (maxL := 3) (ret := (some .int)) (by decide +kernel) rfl ?_
  intro p e s m args below meth c s₁ B hml hv
  obtain ⟨rfl, hN, hsz, hP, hK, hD0⟩ := hv
  have hx := B.exec
  have hb := B.bytes
  have hr := B.returns
  have hg : ∀ w ∈ lw_g, w.before _ s = true := fun w hw => atoms_spec (ws := .code y_Model_patch b_Model_patch 3 (some .int) :: lw_g) B.pre w (List.mem_cons_of_mem _ hw)
  have hown : s.vm.findClass R_Model = some m.cls := findClass_of_methodNamed B.named
  have hlocks := B.notSynchronized
  clear B
  subst hsz
  have hD := hD0.self (sz := s.heap.size)
  generalize hAe : va_A (wD cB cI o_Model r I F) s.heap.size = A at hD ⊢
  have hA : ∀ q : Nat, s.heap.size ≤ q → A q := fun q h => by rw [← hAe]; exact Or.inr h
  have hS : va_S A s.heap s.heap [] := va_S.rf
  have hP : va_P (dC, dI) classes (wD cB cI o_Model r I F) s.heap := hP
  have hl := lv_entry ([.ref o_Model, .int p0]) (n := 3) (Nat.le_of_ble_eq_true rfl)
  rw [lg_entry_eq]
  generalize (lg_sl ([.ref o_Model, .int p0]) ++ List.replicate (3 - (lg_sl ([.ref o_Model, .int p0])).length) Slot.unset).toArray = ls at hl ⊢
  have hl : lv_has ls 3 [(0, .ref o_Model), (1, .int p0)] := hl
  unfold m_Model_patch at h
  refine lv_aload_n hx hb d_Model_patch_0 rfl (lv_at hl 0 rfl) ?_
  refine lv_iconst (v := 2) hx hb d_Model_patch_1 (by decide) ?_
  refine lv_iconst (v := 4) hx hb d_Model_patch_2 (by decide) ?_
  obtain ⟨z1_1, hc1, h⟩ := dz_ob h
  try dsimp only at h
  have hPc := hP
  have hKc := hK
  refine vp_callSi (va_Run.run (va_runV (As := [.int 2, .int 4]) (rest := []) ⟨hx, hb, hml, hown, hg⟩ (c_Model_is l dC dI N cB cI o_Model r I F (2 : Int32) (4 : Int32) z1_1 hc1) (cwV 2 hg (gd_V k808 k809 k810 k707 k807) rfl rfl rfl (by decide +kernel) ⟨Nat.le_of_ble_eq_true rfl, Nat.le_of_ble_eq_true rfl⟩) ⟨dz_blindR, va_recv hKc hPc (ci := 10) (q0 := 0) rfl rfl, fun U hU hW => ⟨rfl, dz_Nw hW hN, by rw [hU]; exact hPc, va_K.moved hW.alike hKc⟩⟩ rfl rfl hl.1 rfl (lv_room (Nat.le_of_ble_eq_true rfl)) d_Model_patch_3 ⟨Nat.le_of_ble_eq_true rfl, Nat.le_of_ble_eq_true rfl⟩)) (fun r1 hw => ?_)
  obtain ⟨hw, hbz1⟩ := hw
  have hw : z1_1 = r1 := hw.symm
  subst hw
  refine lv_if_eq (tgt := 26) hx hb d_Model_patch_6 (by decide) (fun c2 => ?_) (fun c2 => ?_)
  · rw [if_pos c2] at h
    refine lv_iconst (v := 4) hx hb d_Model_patch_26 (by decide) ?_
    obtain rfl := Option.some.inj h
    have hP9 := hP
    have hD9 := hD
    have hK9 := hK
    exact W.iret (v := 4) hx hb hr (fun t ht hW => ⟨⟨4, (), rfl, rfl, by rw [ht]; exact hP9, va_K.moved hW.alike hK9, hD9⟩, hS.F ht⟩) hS.2.2 d_Model_patch_27
  · rw [if_neg c2] at h
    refine lv_iload_n hx hb d_Model_patch_9 rfl (lv_at hl 1 rfl) ?_
    refine lv_if_lt (tgt := 26) hx hb d_Model_patch_10 (by decide) (fun c3 => ?_) (fun c3 => ?_)
    · rw [if_pos c3] at h
      refine lv_iconst (v := 4) hx hb d_Model_patch_26 (by decide) ?_
      obtain rfl := Option.some.inj h
      have hP9 := hP
      have hD9 := hD
      have hK9 := hK
      exact W.iret (v := 4) hx hb hr (fun t ht hW => ⟨⟨4, (), rfl, rfl, by rw [ht]; exact hP9, va_K.moved hW.alike hK9, hD9⟩, hS.F ht⟩) hS.2.2 d_Model_patch_27
    · rw [if_neg c3] at h
      refine lv_iload_n hx hb d_Model_patch_13 rfl (lv_at hl 1 rfl) ?_
      refine lv_aload_n hx hb d_Model_patch_14 rfl (lv_at hl 0 rfl) ?_
      refine lv_aload_n hx hb d_Model_patch_15 rfl (lv_at hl 0 rfl) ?_
      refine lv_iconst (v := 2) hx hb d_Model_patch_16 (by decide) ?_
      obtain ⟨z4_1, hc4, h⟩ := dz_ob h
      try dsimp only at h
      have hPc := hP
      have hKc := hK
      refine vp_callSi (va_Run.run (va_runV (As := [.int 2]) (rest := [.ref o_Model, .int p0]) ⟨hx, hb, hml, hown, hg⟩ (c_Model_scalar l dC dI N cB cI o_Model r I F (2 : Int32) z4_1 hc4) (cwV 1 hg (gd_V k804 k805 k806 k707 k803) rfl rfl rfl (by decide +kernel) ⟨Nat.le_of_ble_eq_true rfl, Nat.le_of_ble_eq_true rfl⟩) ⟨dz_blindR, va_recv hKc hPc (ci := 10) (q0 := 0) rfl rfl, fun U hU hW => ⟨rfl, dz_Nw hW hN, by rw [hU]; exact hPc, va_K.moved hW.alike hKc⟩⟩ rfl rfl hl.1 rfl (lv_room (Nat.le_of_ble_eq_true rfl)) d_Model_patch_17 ⟨Nat.le_of_ble_eq_true rfl, Nat.le_of_ble_eq_true rfl⟩)) (fun r4 hw => ?_)
      have hw : z4_1 = r4 := hw.symm
      subst hw
      obtain ⟨z5_1, hc5, h⟩ := dz_ob h
      try dsimp only at h
      have hPc := hP
      have hKc := hK
      refine vp_callSi (va_Run.run (va_runV (As := [.int z4_1]) (rest := [.int p0]) ⟨hx, hb, hml, hown, hg⟩ (c_Model_partsAt l dC dI N cB cI o_Model r I F z4_1 z5_1 hc5) (cwV 1 hg (gd_V k744 k745 k746 k707 k743) rfl rfl rfl (by decide +kernel) ⟨Nat.le_of_ble_eq_true rfl, Nat.le_of_ble_eq_true rfl⟩) ⟨dz_blindR, va_recv hKc hPc (ci := 10) (q0 := 0) rfl rfl, fun U hU hW => ⟨rfl, dz_Nw hW hN, by rw [hU]; exact hPc, va_K.moved hW.alike hKc⟩⟩ rfl rfl hl.1 rfl (lv_room (Nat.le_of_ble_eq_true rfl)) d_Model_patch_20 ⟨Nat.le_of_ble_eq_true rfl, Nat.le_of_ble_eq_true rfl⟩)) (fun r5 hw => ?_)
      have hw : z5_1 = r5 := hw.symm
      subst hw
      refine lv_icmp_lt (tgt := 28) hx hb d_Model_patch_23 (by decide) (fun c6 => ?_) (fun c6 => ?_)
      · rw [if_pos c6] at h
        refine lv_aload_n hx hb d_Model_patch_28 rfl (lv_at hl 0 rfl) ?_
        refine lv_iconst (v := 2) hx hb d_Model_patch_29 (by decide) ?_
        obtain ⟨z7_1, hc7, h⟩ := dz_ob h
        try dsimp only at h
        have hPc := hP
        have hKc := hK
        refine vp_callSi (va_Run.run (va_runV (As := [.int 2]) (rest := []) ⟨hx, hb, hml, hown, hg⟩ (c_Model_scalar l dC dI N cB cI o_Model r I F (2 : Int32) z7_1 hc7) (cwV 1 hg (gd_V k804 k805 k806 k707 k803) rfl rfl rfl (by decide +kernel) ⟨Nat.le_of_ble_eq_true rfl, Nat.le_of_ble_eq_true rfl⟩) ⟨dz_blindR, va_recv hKc hPc (ci := 10) (q0 := 0) rfl rfl, fun U hU hW => ⟨rfl, dz_Nw hW hN, by rw [hU]; exact hPc, va_K.moved hW.alike hKc⟩⟩ rfl rfl hl.1 rfl (lv_room (Nat.le_of_ble_eq_true rfl)) d_Model_patch_30 ⟨Nat.le_of_ble_eq_true rfl, Nat.le_of_ble_eq_true rfl⟩)) (fun r7 hw => ?_)
        have hw : z7_1 = r7 := hw.symm
        subst hw
        refine lv_istore_n (lv' := [(2, .int z7_1), (0, .ref o_Model), (1, .int p0)]) hx hb d_Model_patch_33 rfl hl (by decide) rfl (fun ls hl => ?_)
        refine lv_aload_n hx hb d_Model_patch_34 rfl (lv_at hl 1 rfl) ?_
        refine va_get (D := (dC, dI)) (ci := 10) (v := .ref (r 0)) (C := R_Model) (T := F_Model) (N := 54) hx hb hg i_Model hown hK hP 0 rfl rfl 0 (by decide) (hg _ k737) (fun _ h9 => h9) rfl d_Model_patch_35 ?_
        refine lv_iload_n hx hb d_Model_patch_38 rfl (lv_at hl 0 rfl) ?_
        refine lv_iconst (v := 1) hx hb d_Model_patch_39 (by decide) ?_
        refine lv_iadd hx hb d_Model_patch_40 ?_
        refine lv_iload_n hx hb d_Model_patch_41 rfl (lv_at hl 2 rfl) ?_
        refine lv_iadd hx hb d_Model_patch_42 ?_
        refine lv_aload_n hx hb d_Model_patch_43 rfl (lv_at hl 1 rfl) ?_
        refine va_get (D := (dC, dI)) (ci := 10) (v := .ref (r 27)) (C := R_Model) (T := F_Model) (N := 54) hx hb hg i_Model hown hK hP 0 rfl rfl 27 (by decide) (hg _ k731) (fun _ h9 => h9) rfl d_Model_patch_44 ?_
        refine lv_aload_n hx hb d_Model_patch_47 rfl (lv_at hl 1 rfl) ?_
        refine va_get (D := (dC, dI)) (ci := 10) (v := .int (I 29)) (C := R_Model) (T := F_Model) (N := 54) hx hb hg i_Model hown hK hP 0 rfl rfl 29 (by decide) (hg _ k719) (fun _ h9 => h9) rfl d_Model_patch_48 ?_
        refine lv_iconst (v := 1) hx hb d_Model_patch_51 (by decide) ?_
        refine lv_isub hx hb d_Model_patch_52 ?_
        obtain ⟨i8, h⟩ := dz_oi h
        refine va_iald (D := (dC, dI)) (f := F 27) hx hb hK hP 17 1 rfl rfl i8 d_Model_patch_53 ?_
        obtain ⟨i9, h⟩ := dz_oi h
        refine va_iast (D := (dC, dI)) (f := F 0) hx hb hK hP hD hS 1 1 rfl rfl i9 d_Model_patch_54 (fun H locs hP hD hS => ?_)
        obtain ⟨G10, eG10, h⟩ := dz_lt h
        have hP : va_P (dC, dI) classes (wD cB cI o_Model r I G10) H := by rw [eG10]; exact hP
        have hD : va_D A (wD cB cI o_Model r I G10) := by rw [eG10]; exact hD
        refine lv_aload_n hx hb d_Model_patch_55 rfl (lv_at hl 1 rfl) ?_
        refine va_get (D := (dC, dI)) (ci := 10) (v := .ref (r 1)) (C := R_Model) (T := F_Model) (N := 54) hx hb hg i_Model hown hK hP 0 rfl rfl 1 (by decide) (hg _ k742) (fun _ h9 => h9) rfl d_Model_patch_56 ?_
        refine lv_iload_n hx hb d_Model_patch_59 rfl (lv_at hl 0 rfl) ?_
        refine lv_iconst (v := 1) hx hb d_Model_patch_60 (by decide) ?_
        refine lv_iadd hx hb d_Model_patch_61 ?_
        refine lv_iload_n hx hb d_Model_patch_62 rfl (lv_at hl 2 rfl) ?_
        refine lv_iadd hx hb d_Model_patch_63 ?_
        refine lv_aload_n hx hb d_Model_patch_64 rfl (lv_at hl 1 rfl) ?_
        refine va_get (D := (dC, dI)) (ci := 10) (v := .ref (r 28)) (C := R_Model) (T := F_Model) (N := 54) hx hb hg i_Model hown hK hP 0 rfl rfl 28 (by decide) (hg _ k732) (fun _ h9 => h9) rfl d_Model_patch_65 ?_
        refine lv_aload_n hx hb d_Model_patch_68 rfl (lv_at hl 1 rfl) ?_
        refine va_get (D := (dC, dI)) (ci := 10) (v := .int (I 29)) (C := R_Model) (T := F_Model) (N := 54) hx hb hg i_Model hown hK hP 0 rfl rfl 29 (by decide) (hg _ k719) (fun _ h9 => h9) rfl d_Model_patch_69 ?_
        refine lv_iconst (v := 1) hx hb d_Model_patch_72 (by decide) ?_
        refine lv_isub hx hb d_Model_patch_73 ?_
        obtain ⟨i11, h⟩ := dz_oi h
        refine va_iald (D := (dC, dI)) (f := G10 28) hx hb hK hP 18 1 rfl rfl i11 d_Model_patch_74 ?_
        obtain ⟨i12, h⟩ := dz_oi h
        refine va_iast (D := (dC, dI)) (f := G10 1) hx hb hK hP hD hS 2 1 rfl rfl i12 d_Model_patch_75 (fun H locs hP hD hS => ?_)
        obtain ⟨G13, eG13, h⟩ := dz_lt h
        have hP : va_P (dC, dI) classes (wD cB cI o_Model r I G13) H := by rw [eG13]; exact hP
        have hD : va_D A (wD cB cI o_Model r I G13) := by rw [eG13]; exact hD
        refine lv_aload_n hx hb d_Model_patch_76 rfl (lv_at hl 1 rfl) ?_
        refine lv_dup hx hb d_Model_patch_77 rfl ?_
        refine va_get (D := (dC, dI)) (ci := 10) (v := .int (I 29)) (C := R_Model) (T := F_Model) (N := 54) hx hb hg i_Model hown hK hP 0 rfl rfl 29 (by decide) (hg _ k719) (fun _ h9 => h9) rfl d_Model_patch_78 ?_
        refine lv_iconst (v := 1) hx hb d_Model_patch_81 (by decide) ?_
        refine lv_isub hx hb d_Model_patch_82 ?_
        refine va_put (D := (dC, dI)) (ci := 10) (v := .int ((I 29) - 1)) (ty := .int) (C := R_Model) (T := F_Model) (N := 54) hx hb hg i_Model t_Model t_Model_ok n_Model hown hK hP hD hS 0 rfl rfl 29 (by decide) (hg _ k719) (fun _ h9 => h9) rfl (by decide +kernel) rfl rfl (Nat.le_of_ble_eq_true rfl) d_Model_patch_83 (fun H locs hP hD hS => ?_)
        obtain ⟨J14, eJ14, h⟩ := dz_lt h
        have hP : va_P (dC, dI) classes (wD cB cI o_Model r J14 G13) H := by rw [eJ14]; exact hP
        have hD : va_D A (wD cB cI o_Model r J14 G13) := by rw [eJ14]; exact hD
        refine lv_iconst (v := 5) hx hb d_Model_patch_86 (by decide) ?_
        obtain rfl := Option.some.inj h
        have hP9 := hP
        have hD9 := hD
        have hK9 := hK
        exact W.iret (v := 5) hx hb hr (fun t ht hW => ⟨⟨5, (), rfl, rfl, by rw [ht]; exact hP9, va_K.moved hW.alike hK9, hD9⟩, hS.F ht⟩) hS.2.2 d_Model_patch_87
      · rw [if_neg c6] at h
        refine lv_iconst (v := 4) hx hb d_Model_patch_26 (by decide) ?_
        obtain rfl := Option.some.inj h
        have hP9 := hP
        have hD9 := hD
        have hK9 := hK
        exact W.iret (v := 4) hx hb hr (fun t ht hW => ⟨⟨4, (), rfl, rfl, by rw [ht]; exact hP9, va_K.moved hW.alike hK9, hD9⟩, hS.F ht⟩) hS.2.2 d_Model_patch_27

set_option maxHeartbeats 4000000 in
set_option maxRecDepth 100000 in
theorem c_Model_call (l : Launch) (dC : Nat → ClassId) (dI : Nat → Nat → Nat) (N : Nat) (cB : ClassId) (cI : ClassId) (o_Model : Nat) (r : Nat → Nat) (I : Nat → Int32) (F : Nat → Nat → Int32) (sz : Nat) (z : Int32 × (Nat → Nat → Int32) × (Nat → Int32)) (h : m_Model_call N I F = some z) : Met l y_Model_call (.code y_Model_call b_Model_call 2 (some .int) :: lw_g) ({ frames := 2, cells := 0, slots := 0, locals := 43 }) (va_Pc [.ref o_Model] (fun U => dz_N U ∧ U.heap.size = sz ∧ va_P (dC, dI) classes (wD cB cI o_Model r I F) U.heap ∧ va_K (dC, dI) classes [(cB, .byte), (cI, .int)] U ∧ va_D (fun _ => True) (wD cB cI o_Model r I F))) (va_Qi (fun (r : Int32) (_ : Unit) => r = z.1) (fun (u : Unit) t => va_P (dC, dI) classes (wD cB cI o_Model r z.2.2 z.2.1) t.heap ∧ va_K (dC, dI) classes [(cB, .byte), (cI, .int)] t ∧ va_D (va_A (wD cB cI o_Model r I F) sz) (wD cB cI o_Model r z.2.2 z.2.1)) (va_A (wD cB cI o_Model r I F) sz)) 0 0 (va_A (wD cB cI o_Model r I F) sz) := by
  refine Met.ofW (cc := b_Model_call) (maxL := 2) (ret := (some .int)) (by decide +kernel) rfl ?_
  intro p e s m args below meth c s₁ B hml hv
  obtain ⟨rfl, hN, hsz, hP, hK, hD0⟩ := hv
  have hx := B.exec
  have hb := B.bytes
  have hr := B.returns
  have hg : ∀ w ∈ lw_g, w.before _ s = true := fun w hw => atoms_spec (ws := .code y_Model_call b_Model_call 2 (some .int) :: lw_g) B.pre w (List.mem_cons_of_mem _ hw)
  have hown : s.vm.findClass R_Model = some m.cls := findClass_of_methodNamed B.named
  have hlocks := B.notSynchronized
  clear B
  subst hsz
  have hD := hD0.self (sz := s.heap.size)
  generalize hAe : va_A (wD cB cI o_Model r I F) s.heap.size = A at hD ⊢
  have hA : ∀ q : Nat, s.heap.size ≤ q → A q := fun q h => by rw [← hAe]; exact Or.inr h
  have hS : va_S A s.heap s.heap [] := va_S.rf
  have hP : va_P (dC, dI) classes (wD cB cI o_Model r I F) s.heap := hP
  have hl := lv_entry ([.ref o_Model]) (n := 2) (Nat.le_of_ble_eq_true rfl)
  rw [lg_entry_eq]
  generalize (lg_sl ([.ref o_Model]) ++ List.replicate (2 - (lg_sl ([.ref o_Model])).length) Slot.unset).toArray = ls at hl ⊢
  have hl : lv_has ls 2 [(0, .ref o_Model)] := hl
  unfold m_Model_call at h
  refine lv_aload_n hx hb d_Model_call_0 rfl (lv_at hl 0 rfl) ?_
  refine lv_iconst (v := 2) hx hb d_Model_call_1 (by decide) ?_
  refine lv_iconst (v := 4) hx hb d_Model_call_2 (by decide) ?_
  obtain ⟨z1_1, hc1, h⟩ := dz_ob h
  try dsimp only at h
  have hPc := hP
  have hKc := hK
  refine vp_callSi (va_Run.run (va_runV (As := [.int 2, .int 4]) (rest := []) ⟨hx, hb, hml, hown, hg⟩ (c_Model_is l dC dI N cB cI o_Model r I F (2 : Int32) (4 : Int32) z1_1 hc1) (cwV 2 hg (gd_V k808 k809 k810 k707 k807) rfl rfl rfl (by decide +kernel) ⟨Nat.le_of_ble_eq_true rfl, Nat.le_of_ble_eq_true rfl⟩) ⟨dz_blindR, va_recv hKc hPc (ci := 10) (q0 := 0) rfl rfl, fun U hU hW => ⟨rfl, dz_Nw hW hN, by rw [hU]; exact hPc, va_K.moved hW.alike hKc⟩⟩ rfl rfl hl.1 rfl (lv_room (Nat.le_of_ble_eq_true rfl)) d_Model_call_3 ⟨Nat.le_of_ble_eq_true rfl, Nat.le_of_ble_eq_true rfl⟩)) (fun r1 hw => ?_)
  obtain ⟨hw, hbz1⟩ := hw
  have hw : z1_1 = r1 := hw.symm
  subst hw
  refine lv_if_ne (tgt := 11) hx hb d_Model_call_6 (by decide) (fun c2 => ?_) (fun c2 => ?_)
  · rw [if_neg c2] at h
    refine lv_aload_n hx hb d_Model_call_11 rfl (lv_at hl 0 rfl) ?_
    refine va_get (D := (dC, dI)) (ci := 10) (v := .int (I 22)) (C := R_Model) (T := F_Model) (N := 54) hx hb hg i_Model hown hK hP 0 rfl rfl 22 (by decide) (hg _ k715) (fun _ h9 => h9) rfl d_Model_call_12 ?_
    refine lv_sipush (v := 8192) hx hb d_Model_call_15 (by decide) ?_
    refine lv_icmp_ne (tgt := 23) hx hb d_Model_call_18 (by decide) (fun c3 => ?_) (fun c3 => ?_)
    · rw [if_neg c3] at h
      refine lv_aload_n hx hb d_Model_call_23 rfl (lv_at hl 0 rfl) ?_
      refine lv_iconst (v := 2) hx hb d_Model_call_24 (by decide) ?_
      obtain ⟨z4_1, hc4, h⟩ := dz_ob h
      try dsimp only at h
      have hPc := hP
      have hKc := hK
      refine vp_callSi (va_Run.run (va_runV (As := [.int 2]) (rest := []) ⟨hx, hb, hml, hown, hg⟩ (c_Model_scalar l dC dI N cB cI o_Model r I F (2 : Int32) z4_1 hc4) (cwV 1 hg (gd_V k804 k805 k806 k707 k803) rfl rfl rfl (by decide +kernel) ⟨Nat.le_of_ble_eq_true rfl, Nat.le_of_ble_eq_true rfl⟩) ⟨dz_blindR, va_recv hKc hPc (ci := 10) (q0 := 0) rfl rfl, fun U hU hW => ⟨rfl, dz_Nw hW hN, by rw [hU]; exact hPc, va_K.moved hW.alike hKc⟩⟩ rfl rfl hl.1 rfl (lv_room (Nat.le_of_ble_eq_true rfl)) d_Model_call_25 ⟨Nat.le_of_ble_eq_true rfl, Nat.le_of_ble_eq_true rfl⟩)) (fun r4 hw => ?_)
      have hw : z4_1 = r4 := hw.symm
      subst hw
      refine lv_istore_n (lv' := [(1, .int z4_1), (0, .ref o_Model)]) hx hb d_Model_call_28 rfl hl (by decide) rfl (fun ls hl => ?_)
      refine lv_aload_n hx hb d_Model_call_29 rfl (lv_at hl 1 rfl) ?_
      refine va_get (D := (dC, dI)) (ci := 10) (v := .ref (r 27)) (C := R_Model) (T := F_Model) (N := 54) hx hb hg i_Model hown hK hP 0 rfl rfl 27 (by decide) (hg _ k731) (fun _ h9 => h9) rfl d_Model_call_30 ?_
      refine lv_aload_n hx hb d_Model_call_33 rfl (lv_at hl 1 rfl) ?_
      refine va_get (D := (dC, dI)) (ci := 10) (v := .int (I 29)) (C := R_Model) (T := F_Model) (N := 54) hx hb hg i_Model hown hK hP 0 rfl rfl 29 (by decide) (hg _ k719) (fun _ h9 => h9) rfl d_Model_call_34 ?_
      refine lv_iconst (v := 2) hx hb d_Model_call_37 (by decide) ?_
      refine lv_isub hx hb d_Model_call_38 ?_
      refine lv_aload_n hx hb d_Model_call_39 rfl (lv_at hl 1 rfl) ?_
      refine va_get (D := (dC, dI)) (ci := 10) (v := .ref (r 27)) (C := R_Model) (T := F_Model) (N := 54) hx hb hg i_Model hown hK hP 0 rfl rfl 27 (by decide) (hg _ k731) (fun _ h9 => h9) rfl d_Model_call_40 ?_
      refine lv_aload_n hx hb d_Model_call_43 rfl (lv_at hl 1 rfl) ?_
      refine va_get (D := (dC, dI)) (ci := 10) (v := .int (I 29)) (C := R_Model) (T := F_Model) (N := 54) hx hb hg i_Model hown hK hP 0 rfl rfl 29 (by decide) (hg _ k719) (fun _ h9 => h9) rfl d_Model_call_44 ?_
      refine lv_iconst (v := 1) hx hb d_Model_call_47 (by decide) ?_
      refine lv_isub hx hb d_Model_call_48 ?_
      obtain ⟨i5, h⟩ := dz_oi h
      refine va_iald (D := (dC, dI)) (f := F 27) hx hb hK hP 17 1 rfl rfl i5 d_Model_call_49 ?_
      obtain ⟨i6, h⟩ := dz_oi h
      refine va_iast (D := (dC, dI)) (f := F 27) hx hb hK hP hD hS 17 1 rfl rfl i6 d_Model_call_50 (fun H locs hP hD hS => ?_)
      obtain ⟨G7, eG7, h⟩ := dz_lt h
      have hP : va_P (dC, dI) classes (wD cB cI o_Model r I G7) H := by rw [eG7]; exact hP
      have hD : va_D A (wD cB cI o_Model r I G7) := by rw [eG7]; exact hD
      refine lv_aload_n hx hb d_Model_call_51 rfl (lv_at hl 1 rfl) ?_
      refine va_get (D := (dC, dI)) (ci := 10) (v := .ref (r 28)) (C := R_Model) (T := F_Model) (N := 54) hx hb hg i_Model hown hK hP 0 rfl rfl 28 (by decide) (hg _ k732) (fun _ h9 => h9) rfl d_Model_call_52 ?_
      refine lv_aload_n hx hb d_Model_call_55 rfl (lv_at hl 1 rfl) ?_
      refine va_get (D := (dC, dI)) (ci := 10) (v := .int (I 29)) (C := R_Model) (T := F_Model) (N := 54) hx hb hg i_Model hown hK hP 0 rfl rfl 29 (by decide) (hg _ k719) (fun _ h9 => h9) rfl d_Model_call_56 ?_
      refine lv_iconst (v := 2) hx hb d_Model_call_59 (by decide) ?_
      refine lv_isub hx hb d_Model_call_60 ?_
      refine lv_aload_n hx hb d_Model_call_61 rfl (lv_at hl 1 rfl) ?_
      refine va_get (D := (dC, dI)) (ci := 10) (v := .ref (r 28)) (C := R_Model) (T := F_Model) (N := 54) hx hb hg i_Model hown hK hP 0 rfl rfl 28 (by decide) (hg _ k732) (fun _ h9 => h9) rfl d_Model_call_62 ?_
      refine lv_aload_n hx hb d_Model_call_65 rfl (lv_at hl 1 rfl) ?_
      refine va_get (D := (dC, dI)) (ci := 10) (v := .int (I 29)) (C := R_Model) (T := F_Model) (N := 54) hx hb hg i_Model hown hK hP 0 rfl rfl 29 (by decide) (hg _ k719) (fun _ h9 => h9) rfl d_Model_call_66 ?_
      refine lv_iconst (v := 1) hx hb d_Model_call_69 (by decide) ?_
      refine lv_isub hx hb d_Model_call_70 ?_
      obtain ⟨i8, h⟩ := dz_oi h
      refine va_iald (D := (dC, dI)) (f := G7 28) hx hb hK hP 18 1 rfl rfl i8 d_Model_call_71 ?_
      obtain ⟨i9, h⟩ := dz_oi h
      refine va_iast (D := (dC, dI)) (f := G7 28) hx hb hK hP hD hS 18 1 rfl rfl i9 d_Model_call_72 (fun H locs hP hD hS => ?_)
      obtain ⟨G10, eG10, h⟩ := dz_lt h
      have hP : va_P (dC, dI) classes (wD cB cI o_Model r I G10) H := by rw [eG10]; exact hP
      have hD : va_D A (wD cB cI o_Model r I G10) := by rw [eG10]; exact hD
      refine lv_aload_n hx hb d_Model_call_73 rfl (lv_at hl 1 rfl) ?_
      refine lv_dup hx hb d_Model_call_74 rfl ?_
      refine va_get (D := (dC, dI)) (ci := 10) (v := .int (I 29)) (C := R_Model) (T := F_Model) (N := 54) hx hb hg i_Model hown hK hP 0 rfl rfl 29 (by decide) (hg _ k719) (fun _ h9 => h9) rfl d_Model_call_75 ?_
      refine lv_iconst (v := 1) hx hb d_Model_call_78 (by decide) ?_
      refine lv_isub hx hb d_Model_call_79 ?_
      refine va_put (D := (dC, dI)) (ci := 10) (v := .int ((I 29) - 1)) (ty := .int) (C := R_Model) (T := F_Model) (N := 54) hx hb hg i_Model t_Model t_Model_ok n_Model hown hK hP hD hS 0 rfl rfl 29 (by decide) (hg _ k719) (fun _ h9 => h9) rfl (by decide +kernel) rfl rfl (Nat.le_of_ble_eq_true rfl) d_Model_call_80 (fun H locs hP hD hS => ?_)
      obtain ⟨J11, eJ11, h⟩ := dz_lt h
      have hP : va_P (dC, dI) classes (wD cB cI o_Model r J11 G10) H := by rw [eJ11]; exact hP
      have hD : va_D A (wD cB cI o_Model r J11 G10) := by rw [eJ11]; exact hD
      refine lv_aload_n hx hb d_Model_call_83 rfl (lv_at hl 1 rfl) ?_
      refine va_get (D := (dC, dI)) (ci := 10) (v := .ref (r 23)) (C := R_Model) (T := F_Model) (N := 54) hx hb hg i_Model hown hK hP 0 rfl rfl 23 (by decide) (hg _ k716) (fun _ h9 => h9) rfl d_Model_call_84 ?_
      refine lv_aload_n hx hb d_Model_call_87 rfl (lv_at hl 1 rfl) ?_
      refine va_get (D := (dC, dI)) (ci := 10) (v := .int (J11 22)) (C := R_Model) (T := F_Model) (N := 54) hx hb hg i_Model hown hK hP 0 rfl rfl 22 (by decide) (hg _ k715) (fun _ h9 => h9) rfl d_Model_call_88 ?_
      refine lv_iload_n hx hb d_Model_call_91 rfl (lv_at hl 0 rfl) ?_
      obtain ⟨i12, h⟩ := dz_oi h
      refine va_iast (D := (dC, dI)) (f := G10 23) hx hb hK hP hD hS 13 1 rfl rfl i12 d_Model_call_92 (fun H locs hP hD hS => ?_)
      obtain ⟨G13, eG13, h⟩ := dz_lt h
      have hP : va_P (dC, dI) classes (wD cB cI o_Model r J11 G13) H := by rw [eG13]; exact hP
      have hD : va_D A (wD cB cI o_Model r J11 G13) := by rw [eG13]; exact hD
      refine lv_aload_n hx hb d_Model_call_93 rfl (lv_at hl 1 rfl) ?_
      refine va_get (D := (dC, dI)) (ci := 10) (v := .ref (r 24)) (C := R_Model) (T := F_Model) (N := 54) hx hb hg i_Model hown hK hP 0 rfl rfl 24 (by decide) (hg _ k717) (fun _ h9 => h9) rfl d_Model_call_94 ?_
      refine lv_aload_n hx hb d_Model_call_97 rfl (lv_at hl 1 rfl) ?_
      refine va_get (D := (dC, dI)) (ci := 10) (v := .int (J11 22)) (C := R_Model) (T := F_Model) (N := 54) hx hb hg i_Model hown hK hP 0 rfl rfl 22 (by decide) (hg _ k715) (fun _ h9 => h9) rfl d_Model_call_98 ?_
      refine lv_aload_n hx hb d_Model_call_101 rfl (lv_at hl 1 rfl) ?_
      refine va_get (D := (dC, dI)) (ci := 10) (v := .int (J11 29)) (C := R_Model) (T := F_Model) (N := 54) hx hb hg i_Model hown hK hP 0 rfl rfl 29 (by decide) (hg _ k719) (fun _ h9 => h9) rfl d_Model_call_102 ?_
      refine lv_iconst (v := 1) hx hb d_Model_call_105 (by decide) ?_
      refine lv_isub hx hb d_Model_call_106 ?_
      obtain ⟨i14, h⟩ := dz_oi h
      refine va_iast (D := (dC, dI)) (f := G13 24) hx hb hK hP hD hS 14 1 rfl rfl i14 d_Model_call_107 (fun H locs hP hD hS => ?_)
      obtain ⟨G15, eG15, h⟩ := dz_lt h
      have hP : va_P (dC, dI) classes (wD cB cI o_Model r J11 G15) H := by rw [eG15]; exact hP
      have hD : va_D A (wD cB cI o_Model r J11 G15) := by rw [eG15]; exact hD
      refine lv_aload_n hx hb d_Model_call_108 rfl (lv_at hl 1 rfl) ?_
      refine va_get (D := (dC, dI)) (ci := 10) (v := .ref (r 25)) (C := R_Model) (T := F_Model) (N := 54) hx hb hg i_Model hown hK hP 0 rfl rfl 25 (by decide) (hg _ k718) (fun _ h9 => h9) rfl d_Model_call_109 ?_
      refine lv_aload_n hx hb d_Model_call_112 rfl (lv_at hl 1 rfl) ?_
      refine va_get (D := (dC, dI)) (ci := 10) (v := .int (J11 22)) (C := R_Model) (T := F_Model) (N := 54) hx hb hg i_Model hown hK hP 0 rfl rfl 22 (by decide) (hg _ k715) (fun _ h9 => h9) rfl d_Model_call_113 ?_
      refine lv_iconst (v := 1) hx hb d_Model_call_116 (by decide) ?_
      obtain ⟨i16, h⟩ := dz_oi h
      refine va_iast (D := (dC, dI)) (f := G15 25) hx hb hK hP hD hS 15 1 rfl rfl i16 d_Model_call_117 (fun H locs hP hD hS => ?_)
      obtain ⟨G17, eG17, h⟩ := dz_lt h
      have hP : va_P (dC, dI) classes (wD cB cI o_Model r J11 G17) H := by rw [eG17]; exact hP
      have hD : va_D A (wD cB cI o_Model r J11 G17) := by rw [eG17]; exact hD
      refine lv_aload_n hx hb d_Model_call_118 rfl (lv_at hl 1 rfl) ?_
      refine va_get (D := (dC, dI)) (ci := 10) (v := .ref (r 26)) (C := R_Model) (T := F_Model) (N := 54) hx hb hg i_Model hown hK hP 0 rfl rfl 26 (by decide) (hg _ k811) (fun _ h9 => h9) rfl d_Model_call_119 ?_
      refine lv_aload_n hx hb d_Model_call_122 rfl (lv_at hl 1 rfl) ?_
      refine va_get (D := (dC, dI)) (ci := 10) (v := .int (J11 22)) (C := R_Model) (T := F_Model) (N := 54) hx hb hg i_Model hown hK hP 0 rfl rfl 22 (by decide) (hg _ k715) (fun _ h9 => h9) rfl d_Model_call_123 ?_
      refine lv_aload_n hx hb d_Model_call_126 rfl (lv_at hl 1 rfl) ?_
      refine va_get (D := (dC, dI)) (ci := 10) (v := .int (J11 35)) (C := R_Model) (T := F_Model) (N := 54) hx hb hg i_Model hown hK hP 0 rfl rfl 35 (by decide) (hg _ k721) (fun _ h9 => h9) rfl d_Model_call_127 ?_
      refine lv_iconst (v := 1) hx hb d_Model_call_130 (by decide) ?_
      refine lv_iadd hx hb d_Model_call_131 ?_
      obtain ⟨i18, h⟩ := dz_oi h
      refine va_iast (D := (dC, dI)) (f := G17 26) hx hb hK hP hD hS 16 1 rfl rfl i18 d_Model_call_132 (fun H locs hP hD hS => ?_)
      obtain ⟨G19, eG19, h⟩ := dz_lt h
      have hP : va_P (dC, dI) classes (wD cB cI o_Model r J11 G19) H := by rw [eG19]; exact hP
      have hD : va_D A (wD cB cI o_Model r J11 G19) := by rw [eG19]; exact hD
      refine lv_aload_n hx hb d_Model_call_133 rfl (lv_at hl 1 rfl) ?_
      refine lv_dup hx hb d_Model_call_134 rfl ?_
      refine va_get (D := (dC, dI)) (ci := 10) (v := .int (J11 22)) (C := R_Model) (T := F_Model) (N := 54) hx hb hg i_Model hown hK hP 0 rfl rfl 22 (by decide) (hg _ k715) (fun _ h9 => h9) rfl d_Model_call_135 ?_
      refine lv_iconst (v := 1) hx hb d_Model_call_138 (by decide) ?_
      refine lv_iadd hx hb d_Model_call_139 ?_
      refine va_put (D := (dC, dI)) (ci := 10) (v := .int ((J11 22) + 1)) (ty := .int) (C := R_Model) (T := F_Model) (N := 54) hx hb hg i_Model t_Model t_Model_ok n_Model hown hK hP hD hS 0 rfl rfl 22 (by decide) (hg _ k715) (fun _ h9 => h9) rfl (by decide +kernel) rfl rfl (Nat.le_of_ble_eq_true rfl) d_Model_call_140 (fun H locs hP hD hS => ?_)
      obtain ⟨J20, eJ20, h⟩ := dz_lt h
      have hP : va_P (dC, dI) classes (wD cB cI o_Model r J20 G19) H := by rw [eJ20]; exact hP
      have hD : va_D A (wD cB cI o_Model r J20 G19) := by rw [eJ20]; exact hD
      refine lv_aload_n hx hb d_Model_call_143 rfl (lv_at hl 1 rfl) ?_
      refine lv_aload_n hx hb d_Model_call_144 rfl (lv_at hl 1 rfl) ?_
      refine va_get (D := (dC, dI)) (ci := 10) (v := .ref (r 1)) (C := R_Model) (T := F_Model) (N := 54) hx hb hg i_Model hown hK hP 0 rfl rfl 1 (by decide) (hg _ k742) (fun _ h9 => h9) rfl d_Model_call_145 ?_
      refine lv_iload_n hx hb d_Model_call_148 rfl (lv_at hl 0 rfl) ?_
      obtain ⟨i21, h⟩ := dz_oi h
      refine va_iald (D := (dC, dI)) (f := G19 1) hx hb hK hP 2 1 rfl rfl i21 d_Model_call_149 ?_
      refine va_put (D := (dC, dI)) (ci := 10) (v := .int ((G19 1) z4_1.toNatClampNeg)) (ty := .int) (C := R_Model) (T := F_Model) (N := 54) hx hb hg i_Model t_Model t_Model_ok n_Model hown hK hP hD hS 0 rfl rfl 35 (by decide) (hg _ k721) (fun _ h9 => h9) rfl (by decide +kernel) rfl rfl (Nat.le_of_ble_eq_true rfl) d_Model_call_150 (fun H locs hP hD hS => ?_)
      obtain ⟨J22, eJ22, h⟩ := dz_lt h
      have hP : va_P (dC, dI) classes (wD cB cI o_Model r J22 G19) H := by rw [eJ22]; exact hP
      have hD : va_D A (wD cB cI o_Model r J22 G19) := by rw [eJ22]; exact hD
      refine lv_iconst (v := 5) hx hb d_Model_call_153 (by decide) ?_
      obtain rfl := Option.some.inj h
      have hP9 := hP
      have hD9 := hD
      have hK9 := hK
      exact W.iret (v := 5) hx hb hr (fun t ht hW => ⟨⟨5, (), rfl, rfl, by rw [ht]; exact hP9, va_K.moved hW.alike hK9, hD9⟩, hS.F ht⟩) hS.2.2 d_Model_call_154
    · rw [if_pos c3] at h
      refine lv_iconst (v := 3) hx hb d_Model_call_21 (by decide) ?_
      obtain rfl := Option.some.inj h
      have hP9 := hP
      have hD9 := hD
      have hK9 := hK
      exact W.iret (v := 3) hx hb hr (fun t ht hW => ⟨⟨3, (), rfl, rfl, by rw [ht]; exact hP9, va_K.moved hW.alike hK9, hD9⟩, hS.F ht⟩) hS.2.2 d_Model_call_22
  · rw [if_pos c2] at h
    refine lv_iconst (v := 4) hx hb d_Model_call_9 (by decide) ?_
    obtain rfl := Option.some.inj h
    have hP9 := hP
    have hD9 := hD
    have hK9 := hK
    exact W.iret (v := 4) hx hb hr (fun t ht hW => ⟨⟨4, (), rfl, rfl, by rw [ht]; exact hP9, va_K.moved hW.alike hK9, hD9⟩, hS.F ht⟩) hS.2.2 d_Model_call_10

set_option maxHeartbeats 4000000 in
set_option maxRecDepth 100000 in
theorem c_Model_hasHandlers (l : Launch) (dC : Nat → ClassId) (dI : Nat → Nat → Nat) (N : Nat) (cB : ClassId) (cI : ClassId) (o_Model : Nat) (r : Nat → Nat) (I : Nat → Int32) (F : Nat → Nat → Int32) (z : Int32) (h : m_Model_hasHandlers N I F = some z) : Met l y_Model_hasHandlers (.code y_Model_hasHandlers b_Model_hasHandlers 1 (some .boolean) :: lw_g) ({ frames := 0, cells := 0, slots := 0, locals := 0 }) (va_Pc [.ref o_Model] (fun U => dz_N U ∧ va_P (dC, dI) classes (wD cB cI o_Model r I F) U.heap ∧ va_K (dC, dI) classes [(cB, .byte), (cI, .int)] U)) (vp_Si (fun r => r = z ∧ narrow .boolean (.int z) = .int z ∧ fits .boolean (.int z) = true)) 0 0 (fun _ => False) := by
  refine Met.ofW (cc := b_Model_hasHandlers) (maxL := 1) (ret := (some .boolean)) (by decide +kernel) rfl ?_
  intro p e s m args below meth c s₁ B hml hv
  obtain ⟨rfl, hN, hP, hK⟩ := hv
  have hx := B.exec
  have hb := B.bytes
  have hr := B.returns
  have hg : ∀ w ∈ lw_g, w.before _ s = true := fun w hw => atoms_spec (ws := .code y_Model_hasHandlers b_Model_hasHandlers 1 (some .boolean) :: lw_g) B.pre w (List.mem_cons_of_mem _ hw)
  have hown : s.vm.findClass R_Model = some m.cls := findClass_of_methodNamed B.named
  have hlocks := B.notSynchronized
  clear B
  have hP : va_P (dC, dI) classes (wD cB cI o_Model r I F) s.heap := hP
  have hl := lv_entry ([.ref o_Model]) (n := 1) (Nat.le_of_ble_eq_true rfl)
  rw [lg_entry_eq]
  generalize (lg_sl ([.ref o_Model]) ++ List.replicate (1 - (lg_sl ([.ref o_Model])).length) Slot.unset).toArray = ls at hl ⊢
  have hl : lv_has ls 1 [(0, .ref o_Model)] := hl
  unfold m_Model_hasHandlers at h
  refine lv_aload_n hx hb d_Model_hasHandlers_0 rfl (lv_at hl 0 rfl) ?_
  refine va_get (D := (dC, dI)) (ci := 10) (v := .int (I 30)) (C := R_Model) (T := F_Model) (N := 54) hx hb hg i_Model hown hK hP 0 rfl rfl 30 (by decide) (hg _ k720) (fun _ h9 => h9) rfl d_Model_hasHandlers_1 ?_
  refine lv_if_le (tgt := 31) hx hb d_Model_hasHandlers_4 (by decide) (fun c1 => ?_) (fun c1 => ?_)
  · rw [if_pos c1] at h
    refine lv_iconst (v := 0) hx hb d_Model_hasHandlers_31 (by decide) ?_
    obtain rfl := Option.some.inj h
    exact W.zret (v := 0) (ty := .boolean) hx hb hr (show narrow .boolean (.int 0) = .int 0 from rfl) (fun t ht hW => ⟨_, rfl, ⟨rfl, (show narrow .boolean (.int 0) = .int 0 from rfl), (show fits .boolean (.int 0) = true from rfl)⟩, ht⟩) (fun _ h => by cases h) d_Model_hasHandlers_32
  · rw [if_neg c1] at h
    refine lv_aload_n hx hb d_Model_hasHandlers_7 rfl (lv_at hl 0 rfl) ?_
    refine va_get (D := (dC, dI)) (ci := 10) (v := .ref (r 31)) (C := R_Model) (T := F_Model) (N := 54) hx hb hg i_Model hown hK hP 0 rfl rfl 31 (by decide) (hg _ k812) (fun _ h9 => h9) rfl d_Model_hasHandlers_8 ?_
    refine lv_aload_n hx hb d_Model_hasHandlers_11 rfl (lv_at hl 0 rfl) ?_
    refine va_get (D := (dC, dI)) (ci := 10) (v := .int (I 30)) (C := R_Model) (T := F_Model) (N := 54) hx hb hg i_Model hown hK hP 0 rfl rfl 30 (by decide) (hg _ k720) (fun _ h9 => h9) rfl d_Model_hasHandlers_12 ?_
    refine lv_iconst (v := 1) hx hb d_Model_hasHandlers_15 (by decide) ?_
    refine lv_isub hx hb d_Model_hasHandlers_16 ?_
    obtain ⟨i2, h⟩ := dz_oi h
    refine va_iald (D := (dC, dI)) (f := F 31) hx hb hK hP 19 1 rfl rfl i2 d_Model_hasHandlers_17 ?_
    refine lv_aload_n hx hb d_Model_hasHandlers_18 rfl (lv_at hl 0 rfl) ?_
    refine va_get (D := (dC, dI)) (ci := 10) (v := .int (I 22)) (C := R_Model) (T := F_Model) (N := 54) hx hb hg i_Model hown hK hP 0 rfl rfl 22 (by decide) (hg _ k715) (fun _ h9 => h9) rfl d_Model_hasHandlers_19 ?_
    refine lv_iconst (v := 1) hx hb d_Model_hasHandlers_22 (by decide) ?_
    refine lv_isub hx hb d_Model_hasHandlers_23 ?_
    refine lv_icmp_ne (tgt := 31) hx hb d_Model_hasHandlers_24 (by decide) (fun c3 => ?_) (fun c3 => ?_)
    · rw [if_neg c3] at h
      refine lv_iconst (v := 0) hx hb d_Model_hasHandlers_31 (by decide) ?_
      obtain rfl := Option.some.inj h
      exact W.zret (v := 0) (ty := .boolean) hx hb hr (show narrow .boolean (.int 0) = .int 0 from rfl) (fun t ht hW => ⟨_, rfl, ⟨rfl, (show narrow .boolean (.int 0) = .int 0 from rfl), (show fits .boolean (.int 0) = true from rfl)⟩, ht⟩) (fun _ h => by cases h) d_Model_hasHandlers_32
    · rw [if_pos c3] at h
      refine lv_iconst (v := 1) hx hb d_Model_hasHandlers_27 (by decide) ?_
      refine lv_goto (tgt := 32) hx hb d_Model_hasHandlers_28 (by decide) ?_
      obtain rfl := Option.some.inj h
      exact W.zret (v := 1) (ty := .boolean) hx hb hr (show narrow .boolean (.int 1) = .int 1 from rfl) (fun t ht hW => ⟨_, rfl, ⟨rfl, (show narrow .boolean (.int 1) = .int 1 from rfl), (show fits .boolean (.int 1) = true from rfl)⟩, ht⟩) (fun _ h => by cases h) d_Model_hasHandlers_32

set_option maxHeartbeats 4000000 in
set_option maxRecDepth 100000 in
theorem c_Model_tail (l : Launch) (dC : Nat → ClassId) (dI : Nat → Nat → Nat) (N : Nat) (cB : ClassId) (cI : ClassId) (o_Model : Nat) (r : Nat → Nat) (I : Nat → Int32) (F : Nat → Nat → Int32) (sz : Nat) (z : Int32 × (Nat → Nat → Int32) × (Nat → Int32)) (h : m_Model_tail N I F = some z) : Met l y_Model_tail (.code y_Model_tail b_Model_tail 2 (some .int) :: lw_g) ({ frames := 2, cells := 0, slots := 0, locals := 43 }) (va_Pc [.ref o_Model] (fun U => dz_N U ∧ U.heap.size = sz ∧ va_P (dC, dI) classes (wD cB cI o_Model r I F) U.heap ∧ va_K (dC, dI) classes [(cB, .byte), (cI, .int)] U ∧ va_D (fun _ => True) (wD cB cI o_Model r I F))) (va_Qi (fun (r : Int32) (_ : Unit) => r = z.1) (fun (u : Unit) t => va_P (dC, dI) classes (wD cB cI o_Model r z.2.2 z.2.1) t.heap ∧ va_K (dC, dI) classes [(cB, .byte), (cI, .int)] t ∧ va_D (va_A (wD cB cI o_Model r I F) sz) (wD cB cI o_Model r z.2.2 z.2.1)) (va_A (wD cB cI o_Model r I F) sz)) 0 0 (va_A (wD cB cI o_Model r I F) sz) := by
  refine Met.ofW (cc := b_Model_tail) (maxL := 2) (ret := (some .int)) (by decide +kernel) rfl ?_
  intro p e s m args below meth c s₁ B hml hv
  obtain ⟨rfl, hN, hsz, hP, hK, hD0⟩ := hv
  have hx := B.exec
  have hb := B.bytes
  have hr := B.returns
  have hg : ∀ w ∈ lw_g, w.before _ s = true := fun w hw => atoms_spec (ws := .code y_Model_tail b_Model_tail 2 (some .int) :: lw_g) B.pre w (List.mem_cons_of_mem _ hw)
  have hown : s.vm.findClass R_Model = some m.cls := findClass_of_methodNamed B.named
  have hlocks := B.notSynchronized
  clear B
  subst hsz
  have hD := hD0.self (sz := s.heap.size)
  generalize hAe : va_A (wD cB cI o_Model r I F) s.heap.size = A at hD ⊢
  have hA : ∀ q : Nat, s.heap.size ≤ q → A q := fun q h => by rw [← hAe]; exact Or.inr h
  have hS : va_S A s.heap s.heap [] := va_S.rf
  have hP : va_P (dC, dI) classes (wD cB cI o_Model r I F) s.heap := hP
  have hl := lv_entry ([.ref o_Model]) (n := 2) (Nat.le_of_ble_eq_true rfl)
  rw [lg_entry_eq]
  generalize (lg_sl ([.ref o_Model]) ++ List.replicate (2 - (lg_sl ([.ref o_Model])).length) Slot.unset).toArray = ls at hl ⊢
  have hl : lv_has ls 2 [(0, .ref o_Model)] := hl
  unfold m_Model_tail at h
  refine lv_aload_n hx hb d_Model_tail_0 rfl (lv_at hl 0 rfl) ?_
  refine lv_iconst (v := 2) hx hb d_Model_tail_1 (by decide) ?_
  refine lv_iconst (v := 4) hx hb d_Model_tail_2 (by decide) ?_
  obtain ⟨z1_1, hc1, h⟩ := dz_ob h
  try dsimp only at h
  have hPc := hP
  have hKc := hK
  refine vp_callSi (va_Run.run (va_runV (As := [.int 2, .int 4]) (rest := []) ⟨hx, hb, hml, hown, hg⟩ (c_Model_is l dC dI N cB cI o_Model r I F (2 : Int32) (4 : Int32) z1_1 hc1) (cwV 2 hg (gd_V k808 k809 k810 k707 k807) rfl rfl rfl (by decide +kernel) ⟨Nat.le_of_ble_eq_true rfl, Nat.le_of_ble_eq_true rfl⟩) ⟨dz_blindR, va_recv hKc hPc (ci := 10) (q0 := 0) rfl rfl, fun U hU hW => ⟨rfl, dz_Nw hW hN, by rw [hU]; exact hPc, va_K.moved hW.alike hKc⟩⟩ rfl rfl hl.1 rfl (lv_room (Nat.le_of_ble_eq_true rfl)) d_Model_tail_3 ⟨Nat.le_of_ble_eq_true rfl, Nat.le_of_ble_eq_true rfl⟩)) (fun r1 hw => ?_)
  obtain ⟨hw, hbz1⟩ := hw
  have hw : z1_1 = r1 := hw.symm
  subst hw
  refine lv_if_eq (tgt := 16) hx hb d_Model_tail_6 (by decide) (fun c2 => ?_) (fun c2 => ?_)
  · rw [if_pos c2] at h
    refine lv_iconst (v := 4) hx hb d_Model_tail_16 (by decide) ?_
    obtain rfl := Option.some.inj h
    have hP9 := hP
    have hD9 := hD
    have hK9 := hK
    exact W.iret (v := 4) hx hb hr (fun t ht hW => ⟨⟨4, (), rfl, rfl, by rw [ht]; exact hP9, va_K.moved hW.alike hK9, hD9⟩, hS.F ht⟩) hS.2.2 d_Model_tail_17
  · rw [if_neg c2] at h
    refine lv_aload_n hx hb d_Model_tail_9 rfl (lv_at hl 0 rfl) ?_
    obtain ⟨z3_1, hc3, h⟩ := dz_ob h
    try dsimp only at h
    have hPc := hP
    have hKc := hK
    refine vp_callSi (va_Run.run (va_runV (As := []) (rest := []) ⟨hx, hb, hml, hown, hg⟩ (c_Model_hasHandlers l dC dI N cB cI o_Model r I F z3_1 hc3) (cwV 0 hg (gd_V k814 k815 k816 k707 k813) rfl rfl rfl (by decide +kernel) ⟨Nat.le_of_ble_eq_true rfl, Nat.le_of_ble_eq_true rfl⟩) ⟨dz_blindR, va_recv hKc hPc (ci := 10) (q0 := 0) rfl rfl, fun U hU hW => ⟨rfl, dz_Nw hW hN, by rw [hU]; exact hPc, va_K.moved hW.alike hKc⟩⟩ rfl rfl hl.1 rfl (lv_room (Nat.le_of_ble_eq_true rfl)) d_Model_tail_10 ⟨Nat.le_of_ble_eq_true rfl, Nat.le_of_ble_eq_true rfl⟩)) (fun r3 hw => ?_)
    obtain ⟨hw, hbz3⟩ := hw
    have hw : z3_1 = r3 := hw.symm
    subst hw
    refine lv_if_eq (tgt := 18) hx hb d_Model_tail_13 (by decide) (fun c4 => ?_) (fun c4 => ?_)
    · rw [if_pos c4] at h
      refine lv_aload_n hx hb d_Model_tail_18 rfl (lv_at hl 0 rfl) ?_
      refine va_get (D := (dC, dI)) (ci := 10) (v := .ref (r 24)) (C := R_Model) (T := F_Model) (N := 54) hx hb hg i_Model hown hK hP 0 rfl rfl 24 (by decide) (hg _ k717) (fun _ h9 => h9) rfl d_Model_tail_19 ?_
      refine lv_aload_n hx hb d_Model_tail_22 rfl (lv_at hl 0 rfl) ?_
      refine va_get (D := (dC, dI)) (ci := 10) (v := .int (I 22)) (C := R_Model) (T := F_Model) (N := 54) hx hb hg i_Model hown hK hP 0 rfl rfl 22 (by decide) (hg _ k715) (fun _ h9 => h9) rfl d_Model_tail_23 ?_
      refine lv_iconst (v := 1) hx hb d_Model_tail_26 (by decide) ?_
      refine lv_isub hx hb d_Model_tail_27 ?_
      obtain ⟨i5, h⟩ := dz_oi h
      refine va_iald (D := (dC, dI)) (f := F 24) hx hb hK hP 14 1 rfl rfl i5 d_Model_tail_28 ?_
      refine lv_istore_n (lv' := [(1, .int ((F 24) ((I 22) - 1).toNatClampNeg)), (0, .ref o_Model)]) hx hb d_Model_tail_29 rfl hl (by decide) rfl (fun ls hl => ?_)
      refine lv_aload_n hx hb d_Model_tail_30 rfl (lv_at hl 1 rfl) ?_
      refine va_get (D := (dC, dI)) (ci := 10) (v := .ref (r 23)) (C := R_Model) (T := F_Model) (N := 54) hx hb hg i_Model hown hK hP 0 rfl rfl 23 (by decide) (hg _ k716) (fun _ h9 => h9) rfl d_Model_tail_31 ?_
      refine lv_aload_n hx hb d_Model_tail_34 rfl (lv_at hl 1 rfl) ?_
      refine va_get (D := (dC, dI)) (ci := 10) (v := .int (I 22)) (C := R_Model) (T := F_Model) (N := 54) hx hb hg i_Model hown hK hP 0 rfl rfl 22 (by decide) (hg _ k715) (fun _ h9 => h9) rfl d_Model_tail_35 ?_
      refine lv_iconst (v := 1) hx hb d_Model_tail_38 (by decide) ?_
      refine lv_isub hx hb d_Model_tail_39 ?_
      refine lv_aload_n hx hb d_Model_tail_40 rfl (lv_at hl 1 rfl) ?_
      refine lv_iconst (v := 2) hx hb d_Model_tail_41 (by decide) ?_
      obtain ⟨z6_1, hc6, h⟩ := dz_ob h
      try dsimp only at h
      have hPc := hP
      have hKc := hK
      refine vp_callSi (va_Run.run (va_runV (As := [.int 2]) (rest := [.int ((I 22) - 1), .ref (r 23)]) ⟨hx, hb, hml, hown, hg⟩ (c_Model_scalar l dC dI N cB cI o_Model r I F (2 : Int32) z6_1 hc6) (cwV 1 hg (gd_V k804 k805 k806 k707 k803) rfl rfl rfl (by decide +kernel) ⟨Nat.le_of_ble_eq_true rfl, Nat.le_of_ble_eq_true rfl⟩) ⟨dz_blindR, va_recv hKc hPc (ci := 10) (q0 := 0) rfl rfl, fun U hU hW => ⟨rfl, dz_Nw hW hN, by rw [hU]; exact hPc, va_K.moved hW.alike hKc⟩⟩ rfl rfl hl.1 rfl (lv_room (Nat.le_of_ble_eq_true rfl)) d_Model_tail_42 ⟨Nat.le_of_ble_eq_true rfl, Nat.le_of_ble_eq_true rfl⟩)) (fun r6 hw => ?_)
      have hw : z6_1 = r6 := hw.symm
      subst hw
      obtain ⟨i7, h⟩ := dz_oi h
      refine va_iast (D := (dC, dI)) (f := F 23) hx hb hK hP hD hS 13 1 rfl rfl i7 d_Model_tail_45 (fun H locs hP hD hS => ?_)
      obtain ⟨G8, eG8, h⟩ := dz_lt h
      have hP : va_P (dC, dI) classes (wD cB cI o_Model r I G8) H := by rw [eG8]; exact hP
      have hD : va_D A (wD cB cI o_Model r I G8) := by rw [eG8]; exact hD
      refine lv_aload_n hx hb d_Model_tail_46 rfl (lv_at hl 1 rfl) ?_
      refine va_get (D := (dC, dI)) (ci := 10) (v := .ref (r 27)) (C := R_Model) (T := F_Model) (N := 54) hx hb hg i_Model hown hK hP 0 rfl rfl 27 (by decide) (hg _ k731) (fun _ h9 => h9) rfl d_Model_tail_47 ?_
      refine lv_iload_n hx hb d_Model_tail_50 rfl (lv_at hl 0 rfl) ?_
      refine lv_aload_n hx hb d_Model_tail_51 rfl (lv_at hl 1 rfl) ?_
      refine va_get (D := (dC, dI)) (ci := 10) (v := .ref (r 27)) (C := R_Model) (T := F_Model) (N := 54) hx hb hg i_Model hown hK hP 0 rfl rfl 27 (by decide) (hg _ k731) (fun _ h9 => h9) rfl d_Model_tail_52 ?_
      refine lv_aload_n hx hb d_Model_tail_55 rfl (lv_at hl 1 rfl) ?_
      refine va_get (D := (dC, dI)) (ci := 10) (v := .int (I 29)) (C := R_Model) (T := F_Model) (N := 54) hx hb hg i_Model hown hK hP 0 rfl rfl 29 (by decide) (hg _ k719) (fun _ h9 => h9) rfl d_Model_tail_56 ?_
      refine lv_iconst (v := 1) hx hb d_Model_tail_59 (by decide) ?_
      refine lv_isub hx hb d_Model_tail_60 ?_
      obtain ⟨i9, h⟩ := dz_oi h
      refine va_iald (D := (dC, dI)) (f := G8 27) hx hb hK hP 17 1 rfl rfl i9 d_Model_tail_61 ?_
      obtain ⟨i10, h⟩ := dz_oi h
      refine va_iast (D := (dC, dI)) (f := G8 27) hx hb hK hP hD hS 17 1 rfl rfl i10 d_Model_tail_62 (fun H locs hP hD hS => ?_)
      obtain ⟨G11, eG11, h⟩ := dz_lt h
      have hP : va_P (dC, dI) classes (wD cB cI o_Model r I G11) H := by rw [eG11]; exact hP
      have hD : va_D A (wD cB cI o_Model r I G11) := by rw [eG11]; exact hD
      refine lv_aload_n hx hb d_Model_tail_63 rfl (lv_at hl 1 rfl) ?_
      refine va_get (D := (dC, dI)) (ci := 10) (v := .ref (r 28)) (C := R_Model) (T := F_Model) (N := 54) hx hb hg i_Model hown hK hP 0 rfl rfl 28 (by decide) (hg _ k732) (fun _ h9 => h9) rfl d_Model_tail_64 ?_
      refine lv_iload_n hx hb d_Model_tail_67 rfl (lv_at hl 0 rfl) ?_
      refine lv_aload_n hx hb d_Model_tail_68 rfl (lv_at hl 1 rfl) ?_
      refine va_get (D := (dC, dI)) (ci := 10) (v := .ref (r 28)) (C := R_Model) (T := F_Model) (N := 54) hx hb hg i_Model hown hK hP 0 rfl rfl 28 (by decide) (hg _ k732) (fun _ h9 => h9) rfl d_Model_tail_69 ?_
      refine lv_aload_n hx hb d_Model_tail_72 rfl (lv_at hl 1 rfl) ?_
      refine va_get (D := (dC, dI)) (ci := 10) (v := .int (I 29)) (C := R_Model) (T := F_Model) (N := 54) hx hb hg i_Model hown hK hP 0 rfl rfl 29 (by decide) (hg _ k719) (fun _ h9 => h9) rfl d_Model_tail_73 ?_
      refine lv_iconst (v := 1) hx hb d_Model_tail_76 (by decide) ?_
      refine lv_isub hx hb d_Model_tail_77 ?_
      obtain ⟨i12, h⟩ := dz_oi h
      refine va_iald (D := (dC, dI)) (f := G11 28) hx hb hK hP 18 1 rfl rfl i12 d_Model_tail_78 ?_
      obtain ⟨i13, h⟩ := dz_oi h
      refine va_iast (D := (dC, dI)) (f := G11 28) hx hb hK hP hD hS 18 1 rfl rfl i13 d_Model_tail_79 (fun H locs hP hD hS => ?_)
      obtain ⟨G14, eG14, h⟩ := dz_lt h
      have hP : va_P (dC, dI) classes (wD cB cI o_Model r I G14) H := by rw [eG14]; exact hP
      have hD : va_D A (wD cB cI o_Model r I G14) := by rw [eG14]; exact hD
      refine lv_aload_n hx hb d_Model_tail_80 rfl (lv_at hl 1 rfl) ?_
      refine va_get (D := (dC, dI)) (ci := 10) (v := .ref (r 25)) (C := R_Model) (T := F_Model) (N := 54) hx hb hg i_Model hown hK hP 0 rfl rfl 25 (by decide) (hg _ k718) (fun _ h9 => h9) rfl d_Model_tail_81 ?_
      refine lv_aload_n hx hb d_Model_tail_84 rfl (lv_at hl 1 rfl) ?_
      refine va_get (D := (dC, dI)) (ci := 10) (v := .int (I 22)) (C := R_Model) (T := F_Model) (N := 54) hx hb hg i_Model hown hK hP 0 rfl rfl 22 (by decide) (hg _ k715) (fun _ h9 => h9) rfl d_Model_tail_85 ?_
      refine lv_iconst (v := 1) hx hb d_Model_tail_88 (by decide) ?_
      refine lv_isub hx hb d_Model_tail_89 ?_
      refine lv_iconst (v := 1) hx hb d_Model_tail_90 (by decide) ?_
      obtain ⟨i15, h⟩ := dz_oi h
      refine va_iast (D := (dC, dI)) (f := G14 25) hx hb hK hP hD hS 15 1 rfl rfl i15 d_Model_tail_91 (fun H locs hP hD hS => ?_)
      obtain ⟨G16, eG16, h⟩ := dz_lt h
      have hP : va_P (dC, dI) classes (wD cB cI o_Model r I G16) H := by rw [eG16]; exact hP
      have hD : va_D A (wD cB cI o_Model r I G16) := by rw [eG16]; exact hD
      refine lv_aload_n hx hb d_Model_tail_92 rfl (lv_at hl 1 rfl) ?_
      refine lv_iload_n hx hb d_Model_tail_93 rfl (lv_at hl 0 rfl) ?_
      refine lv_iconst (v := 1) hx hb d_Model_tail_94 (by decide) ?_
      refine lv_iadd hx hb d_Model_tail_95 ?_
      refine va_put (D := (dC, dI)) (ci := 10) (v := .int (((F 24) ((I 22) - 1).toNatClampNeg) + 1)) (ty := .int) (C := R_Model) (T := F_Model) (N := 54) hx hb hg i_Model t_Model t_Model_ok n_Model hown hK hP hD hS 0 rfl rfl 29 (by decide) (hg _ k719) (fun _ h9 => h9) rfl (by decide +kernel) rfl rfl (Nat.le_of_ble_eq_true rfl) d_Model_tail_96 (fun H locs hP hD hS => ?_)
      obtain ⟨J17, eJ17, h⟩ := dz_lt h
      have hP : va_P (dC, dI) classes (wD cB cI o_Model r J17 G16) H := by rw [eJ17]; exact hP
      have hD : va_D A (wD cB cI o_Model r J17 G16) := by rw [eJ17]; exact hD
      refine lv_aload_n hx hb d_Model_tail_99 rfl (lv_at hl 1 rfl) ?_
      refine lv_aload_n hx hb d_Model_tail_100 rfl (lv_at hl 1 rfl) ?_
      refine va_get (D := (dC, dI)) (ci := 10) (v := .ref (r 1)) (C := R_Model) (T := F_Model) (N := 54) hx hb hg i_Model hown hK hP 0 rfl rfl 1 (by decide) (hg _ k742) (fun _ h9 => h9) rfl d_Model_tail_101 ?_
      refine lv_aload_n hx hb d_Model_tail_104 rfl (lv_at hl 1 rfl) ?_
      refine va_get (D := (dC, dI)) (ci := 10) (v := .ref (r 23)) (C := R_Model) (T := F_Model) (N := 54) hx hb hg i_Model hown hK hP 0 rfl rfl 23 (by decide) (hg _ k716) (fun _ h9 => h9) rfl d_Model_tail_105 ?_
      refine lv_aload_n hx hb d_Model_tail_108 rfl (lv_at hl 1 rfl) ?_
      refine va_get (D := (dC, dI)) (ci := 10) (v := .int (J17 22)) (C := R_Model) (T := F_Model) (N := 54) hx hb hg i_Model hown hK hP 0 rfl rfl 22 (by decide) (hg _ k715) (fun _ h9 => h9) rfl d_Model_tail_109 ?_
      refine lv_iconst (v := 1) hx hb d_Model_tail_112 (by decide) ?_
      refine lv_isub hx hb d_Model_tail_113 ?_
      obtain ⟨i18, h⟩ := dz_oi h
      refine va_iald (D := (dC, dI)) (f := G16 23) hx hb hK hP 13 1 rfl rfl i18 d_Model_tail_114 ?_
      obtain ⟨i19, h⟩ := dz_oi h
      refine va_iald (D := (dC, dI)) (f := G16 1) hx hb hK hP 2 1 rfl rfl i19 d_Model_tail_115 ?_
      refine va_put (D := (dC, dI)) (ci := 10) (v := .int ((G16 1) ((G16 23) ((J17 22) - 1).toNatClampNeg).toNatClampNeg)) (ty := .int) (C := R_Model) (T := F_Model) (N := 54) hx hb hg i_Model t_Model t_Model_ok n_Model hown hK hP hD hS 0 rfl rfl 35 (by decide) (hg _ k721) (fun _ h9 => h9) rfl (by decide +kernel) rfl rfl (Nat.le_of_ble_eq_true rfl) d_Model_tail_116 (fun H locs hP hD hS => ?_)
      obtain ⟨J20, eJ20, h⟩ := dz_lt h
      have hP : va_P (dC, dI) classes (wD cB cI o_Model r J20 G16) H := by rw [eJ20]; exact hP
      have hD : va_D A (wD cB cI o_Model r J20 G16) := by rw [eJ20]; exact hD
      refine lv_iconst (v := 5) hx hb d_Model_tail_119 (by decide) ?_
      obtain rfl := Option.some.inj h
      have hP9 := hP
      have hD9 := hD
      have hK9 := hK
      exact W.iret (v := 5) hx hb hr (fun t ht hW => ⟨⟨5, (), rfl, rfl, by rw [ht]; exact hP9, va_K.moved hW.alike hK9, hD9⟩, hS.F ht⟩) hS.2.2 d_Model_tail_120
    · rw [if_neg c4] at h
      refine lv_iconst (v := 4) hx hb d_Model_tail_16 (by decide) ?_
      obtain rfl := Option.some.inj h
      have hP9 := hP
      have hD9 := hD
      have hK9 := hK
      exact W.iret (v := 4) hx hb hr (fun t ht hW => ⟨⟨4, (), rfl, rfl, by rw [ht]; exact hP9, va_K.moved hW.alike hK9, hD9⟩, hS.F ht⟩) hS.2.2 d_Model_tail_17

set_option maxHeartbeats 4000000 in
set_option maxRecDepth 100000 in
theorem c_Model_back (l : Launch) (dC : Nat → ClassId) (dI : Nat → Nat → Nat) (N : Nat) (cB : ClassId) (cI : ClassId) (o_Model : Nat) (r : Nat → Nat) (I : Nat → Int32) (F : Nat → Nat → Int32) (sz : Nat) (z : Int32 × (Nat → Nat → Int32) × (Nat → Int32)) (h : m_Model_back N I F = some z) : Met l y_Model_back (.code y_Model_back b_Model_back 3 (some .int) :: lw_g) ({ frames := 1, cells := 0, slots := 0, locals := 23 }) (va_Pc [.ref o_Model] (fun U => dz_N U ∧ U.heap.size = sz ∧ va_P (dC, dI) classes (wD cB cI o_Model r I F) U.heap ∧ va_K (dC, dI) classes [(cB, .byte), (cI, .int)] U ∧ va_D (fun _ => True) (wD cB cI o_Model r I F))) (va_Qi (fun (r : Int32) (_ : Unit) => r = z.1) (fun (u : Unit) t => va_P (dC, dI) classes (wD cB cI o_Model r z.2.2 z.2.1) t.heap ∧ va_K (dC, dI) classes [(cB, .byte), (cI, .int)] t ∧ va_D (va_A (wD cB cI o_Model r I F) sz) (wD cB cI o_Model r z.2.2 z.2.1)) (va_A (wD cB cI o_Model r I F) sz)) 0 0 (va_A (wD cB cI o_Model r I F) sz) := by
  refine Met.ofW (cc := b_Model_back) (maxL := 3) (ret := (some .int)) (by decide +kernel) rfl ?_
  intro p e s m args below meth c s₁ B hml hv
  obtain ⟨rfl, hN, hsz, hP, hK, hD0⟩ := hv
  have hx := B.exec
  have hb := B.bytes
  have hr := B.returns
  have hg : ∀ w ∈ lw_g, w.before _ s = true := fun w hw => atoms_spec (ws := .code y_Model_back b_Model_back 3 (some .int) :: lw_g) B.pre w (List.mem_cons_of_mem _ hw)
  have hown : s.vm.findClass R_Model = some m.cls := findClass_of_methodNamed B.named
  have hlocks := B.notSynchronized
  clear B
  subst hsz
  have hD := hD0.self (sz := s.heap.size)
  generalize hAe : va_A (wD cB cI o_Model r I F) s.heap.size = A at hD ⊢
  have hA : ∀ q : Nat, s.heap.size ≤ q → A q := fun q h => by rw [← hAe]; exact Or.inr h
  have hS : va_S A s.heap s.heap [] := va_S.rf
  have hP : va_P (dC, dI) classes (wD cB cI o_Model r I F) s.heap := hP
  have hl := lv_entry ([.ref o_Model]) (n := 3) (Nat.le_of_ble_eq_true rfl)
  rw [lg_entry_eq]
  generalize (lg_sl ([.ref o_Model]) ++ List.replicate (3 - (lg_sl ([.ref o_Model])).length) Slot.unset).toArray = ls at hl ⊢
  have hl : lv_has ls 3 [(0, .ref o_Model)] := hl
  unfold m_Model_back at h
  refine lv_aload_n hx hb d_Model_back_0 rfl (lv_at hl 0 rfl) ?_
  refine va_get (D := (dC, dI)) (ci := 10) (v := .int (I 22)) (C := R_Model) (T := F_Model) (N := 54) hx hb hg i_Model hown hK hP 0 rfl rfl 22 (by decide) (hg _ k715) (fun _ h9 => h9) rfl d_Model_back_1 ?_
  refine lv_iconst (v := 1) hx hb d_Model_back_4 (by decide) ?_
  refine lv_icmp_eq (tgt := 15) hx hb d_Model_back_5 (by decide) (fun c1 => ?_) (fun c1 => ?_)
  · rw [if_pos c1] at h
    refine lv_iconst (v := 4) hx hb d_Model_back_15 (by decide) ?_
    obtain rfl := Option.some.inj h
    have hP9 := hP
    have hD9 := hD
    have hK9 := hK
    exact W.iret (v := 4) hx hb hr (fun t ht hW => ⟨⟨4, (), rfl, rfl, by rw [ht]; exact hP9, va_K.moved hW.alike hK9, hD9⟩, hS.F ht⟩) hS.2.2 d_Model_back_16
  · rw [if_neg c1] at h
    refine lv_aload_n hx hb d_Model_back_8 rfl (lv_at hl 0 rfl) ?_
    obtain ⟨z2_1, hc2, h⟩ := dz_ob h
    try dsimp only at h
    have hPc := hP
    have hKc := hK
    refine vp_callSi (va_Run.run (va_runV (As := []) (rest := []) ⟨hx, hb, hml, hown, hg⟩ (c_Model_hasHandlers l dC dI N cB cI o_Model r I F z2_1 hc2) (cwV 0 hg (gd_V k814 k815 k816 k707 k813) rfl rfl rfl (by decide +kernel) ⟨Nat.le_of_ble_eq_true rfl, Nat.le_of_ble_eq_true rfl⟩) ⟨dz_blindR, va_recv hKc hPc (ci := 10) (q0 := 0) rfl rfl, fun U hU hW => ⟨rfl, dz_Nw hW hN, by rw [hU]; exact hPc, va_K.moved hW.alike hKc⟩⟩ rfl rfl hl.1 rfl (lv_room (Nat.le_of_ble_eq_true rfl)) d_Model_back_9 ⟨Nat.le_of_ble_eq_true rfl, Nat.le_of_ble_eq_true rfl⟩)) (fun r2 hw => ?_)
    obtain ⟨hw, hbz2⟩ := hw
    have hw : z2_1 = r2 := hw.symm
    subst hw
    refine lv_if_eq (tgt := 17) hx hb d_Model_back_12 (by decide) (fun c3 => ?_) (fun c3 => ?_)
    · rw [if_pos c3] at h
      refine lv_aload_n hx hb d_Model_back_17 rfl (lv_at hl 0 rfl) ?_
      refine va_get (D := (dC, dI)) (ci := 10) (v := .ref (r 27)) (C := R_Model) (T := F_Model) (N := 54) hx hb hg i_Model hown hK hP 0 rfl rfl 27 (by decide) (hg _ k731) (fun _ h9 => h9) rfl d_Model_back_18 ?_
      refine lv_aload_n hx hb d_Model_back_21 rfl (lv_at hl 0 rfl) ?_
      refine va_get (D := (dC, dI)) (ci := 10) (v := .int (I 29)) (C := R_Model) (T := F_Model) (N := 54) hx hb hg i_Model hown hK hP 0 rfl rfl 29 (by decide) (hg _ k719) (fun _ h9 => h9) rfl d_Model_back_22 ?_
      refine lv_iconst (v := 1) hx hb d_Model_back_25 (by decide) ?_
      refine lv_isub hx hb d_Model_back_26 ?_
      obtain ⟨i4, h⟩ := dz_oi h
      refine va_iald (D := (dC, dI)) (f := F 27) hx hb hK hP 17 1 rfl rfl i4 d_Model_back_27 ?_
      refine lv_istore_n (lv' := [(1, .int ((F 27) ((I 29) - 1).toNatClampNeg)), (0, .ref o_Model)]) hx hb d_Model_back_28 rfl hl (by decide) rfl (fun ls hl => ?_)
      refine lv_aload_n hx hb d_Model_back_29 rfl (lv_at hl 1 rfl) ?_
      refine va_get (D := (dC, dI)) (ci := 10) (v := .ref (r 28)) (C := R_Model) (T := F_Model) (N := 54) hx hb hg i_Model hown hK hP 0 rfl rfl 28 (by decide) (hg _ k732) (fun _ h9 => h9) rfl d_Model_back_30 ?_
      refine lv_aload_n hx hb d_Model_back_33 rfl (lv_at hl 1 rfl) ?_
      refine va_get (D := (dC, dI)) (ci := 10) (v := .int (I 29)) (C := R_Model) (T := F_Model) (N := 54) hx hb hg i_Model hown hK hP 0 rfl rfl 29 (by decide) (hg _ k719) (fun _ h9 => h9) rfl d_Model_back_34 ?_
      refine lv_iconst (v := 1) hx hb d_Model_back_37 (by decide) ?_
      refine lv_isub hx hb d_Model_back_38 ?_
      obtain ⟨i5, h⟩ := dz_oi h
      refine va_iald (D := (dC, dI)) (f := F 28) hx hb hK hP 18 1 rfl rfl i5 d_Model_back_39 ?_
      refine lv_istore_n (lv' := [(2, .int ((F 28) ((I 29) - 1).toNatClampNeg)), (1, .int ((F 27) ((I 29) - 1).toNatClampNeg)), (0, .ref o_Model)]) hx hb d_Model_back_40 rfl hl (by decide) rfl (fun ls hl => ?_)
      refine lv_aload_n hx hb d_Model_back_41 rfl (lv_at hl 2 rfl) ?_
      refine lv_dup hx hb d_Model_back_42 rfl ?_
      refine va_get (D := (dC, dI)) (ci := 10) (v := .int (I 22)) (C := R_Model) (T := F_Model) (N := 54) hx hb hg i_Model hown hK hP 0 rfl rfl 22 (by decide) (hg _ k715) (fun _ h9 => h9) rfl d_Model_back_43 ?_
      refine lv_iconst (v := 1) hx hb d_Model_back_46 (by decide) ?_
      refine lv_isub hx hb d_Model_back_47 ?_
      refine va_put (D := (dC, dI)) (ci := 10) (v := .int ((I 22) - 1)) (ty := .int) (C := R_Model) (T := F_Model) (N := 54) hx hb hg i_Model t_Model t_Model_ok n_Model hown hK hP hD hS 0 rfl rfl 22 (by decide) (hg _ k715) (fun _ h9 => h9) rfl (by decide +kernel) rfl rfl (Nat.le_of_ble_eq_true rfl) d_Model_back_48 (fun H locs hP hD hS => ?_)
      obtain ⟨J6, eJ6, h⟩ := dz_lt h
      have hP : va_P (dC, dI) classes (wD cB cI o_Model r J6 F) H := by rw [eJ6]; exact hP
      have hD : va_D A (wD cB cI o_Model r J6 F) := by rw [eJ6]; exact hD
      refine lv_aload_n hx hb d_Model_back_51 rfl (lv_at hl 2 rfl) ?_
      refine lv_aload_n hx hb d_Model_back_52 rfl (lv_at hl 2 rfl) ?_
      refine va_get (D := (dC, dI)) (ci := 10) (v := .ref (r 24)) (C := R_Model) (T := F_Model) (N := 54) hx hb hg i_Model hown hK hP 0 rfl rfl 24 (by decide) (hg _ k717) (fun _ h9 => h9) rfl d_Model_back_53 ?_
      refine lv_aload_n hx hb d_Model_back_56 rfl (lv_at hl 2 rfl) ?_
      refine va_get (D := (dC, dI)) (ci := 10) (v := .int (J6 22)) (C := R_Model) (T := F_Model) (N := 54) hx hb hg i_Model hown hK hP 0 rfl rfl 22 (by decide) (hg _ k715) (fun _ h9 => h9) rfl d_Model_back_57 ?_
      obtain ⟨i7, h⟩ := dz_oi h
      refine va_iald (D := (dC, dI)) (f := F 24) hx hb hK hP 14 1 rfl rfl i7 d_Model_back_60 ?_
      refine va_put (D := (dC, dI)) (ci := 10) (v := .int ((F 24) (J6 22).toNatClampNeg)) (ty := .int) (C := R_Model) (T := F_Model) (N := 54) hx hb hg i_Model t_Model t_Model_ok n_Model hown hK hP hD hS 0 rfl rfl 29 (by decide) (hg _ k719) (fun _ h9 => h9) rfl (by decide +kernel) rfl rfl (Nat.le_of_ble_eq_true rfl) d_Model_back_61 (fun H locs hP hD hS => ?_)
      obtain ⟨J8, eJ8, h⟩ := dz_lt h
      have hP : va_P (dC, dI) classes (wD cB cI o_Model r J8 F) H := by rw [eJ8]; exact hP
      have hD : va_D A (wD cB cI o_Model r J8 F) := by rw [eJ8]; exact hD
      refine lv_aload_n hx hb d_Model_back_64 rfl (lv_at hl 2 rfl) ?_
      refine lv_aload_n hx hb d_Model_back_65 rfl (lv_at hl 2 rfl) ?_
      refine va_get (D := (dC, dI)) (ci := 10) (v := .ref (r 26)) (C := R_Model) (T := F_Model) (N := 54) hx hb hg i_Model hown hK hP 0 rfl rfl 26 (by decide) (hg _ k811) (fun _ h9 => h9) rfl d_Model_back_66 ?_
      refine lv_aload_n hx hb d_Model_back_69 rfl (lv_at hl 2 rfl) ?_
      refine va_get (D := (dC, dI)) (ci := 10) (v := .int (J8 22)) (C := R_Model) (T := F_Model) (N := 54) hx hb hg i_Model hown hK hP 0 rfl rfl 22 (by decide) (hg _ k715) (fun _ h9 => h9) rfl d_Model_back_70 ?_
      obtain ⟨i9, h⟩ := dz_oi h
      refine va_iald (D := (dC, dI)) (f := F 26) hx hb hK hP 16 1 rfl rfl i9 d_Model_back_73 ?_
      refine va_put (D := (dC, dI)) (ci := 10) (v := .int ((F 26) (J8 22).toNatClampNeg)) (ty := .int) (C := R_Model) (T := F_Model) (N := 54) hx hb hg i_Model t_Model t_Model_ok n_Model hown hK hP hD hS 0 rfl rfl 35 (by decide) (hg _ k721) (fun _ h9 => h9) rfl (by decide +kernel) rfl rfl (Nat.le_of_ble_eq_true rfl) d_Model_back_74 (fun H locs hP hD hS => ?_)
      obtain ⟨J10, eJ10, h⟩ := dz_lt h
      have hP : va_P (dC, dI) classes (wD cB cI o_Model r J10 F) H := by rw [eJ10]; exact hP
      have hD : va_D A (wD cB cI o_Model r J10 F) := by rw [eJ10]; exact hD
      refine lv_aload_n hx hb d_Model_back_77 rfl (lv_at hl 2 rfl) ?_
      refine lv_iconst (v := 0) hx hb d_Model_back_78 (by decide) ?_
      refine lv_iload_n hx hb d_Model_back_79 rfl (lv_at hl 1 rfl) ?_
      refine lv_iload_n hx hb d_Model_back_80 rfl (lv_at hl 0 rfl) ?_
      obtain ⟨⟨z11_1, z11_2, z11_3⟩, hc11, h⟩ := dz_ob h
      try dsimp only at h
      have hPc := hP
      have hKc := hK
      have hDc := hD
      have hFc := dz_freeall hD hS hA
      refine va_calli (va_runV (As := [.int 0, .int ((F 27) ((I 29) - 1).toNatClampNeg), .int ((F 28) ((I 29) - 1).toNatClampNeg)]) (rest := []) ⟨hx, hb, hml, hown, hg⟩ (c_Model_give l dC dI N cB cI o_Model r J10 F (0 : Int32) ((F 27) ((I 29) - 1).toNatClampNeg) ((F 28) ((I 29) - 1).toNatClampNeg) H.size (z11_1, z11_2, z11_3) hc11) (cwV 3 hg (gd_V k734 k735 k736 k707 k733) rfl rfl rfl (by decide +kernel) ⟨Nat.le_of_ble_eq_true rfl, Nat.le_of_ble_eq_true rfl⟩) ⟨dz_blind, va_recv hKc hPc (ci := 10) (q0 := 0) rfl rfl, fun U hU hW => ⟨rfl, dz_Nw hW hN, by rw [hU], by rw [hU]; exact hPc, va_K.moved hW.alike hKc, hDc.weaken (fun _ _ _ _ => trivial)⟩⟩ rfl rfl hl.1 rfl (lv_room (Nat.le_of_ble_eq_true rfl)) d_Model_back_81 ⟨Nat.le_of_ble_eq_true rfl, Nat.le_of_ble_eq_true rfl⟩) hS (fun q _ h => hFc q h) hFc (fun r11 u11 t11 H1 locs ht hvm hw hB hz1 hk1 hS => ?_)
      obtain ⟨hP1, hK1, hD1⟩ := hB
      rw [ht] at hP1
      have hP := hP1
      have hD := hD1.weaken (fun _ q _ h => hFc q.1 h)
      have hw : z11_1 = r11 := hw.symm
      subst hw
      generalize H1 = H at hP hS ⊢
      have hP : va_P (dC, dI) classes (wD cB cI o_Model r z11_3 z11_2) H := hP
      have hD : va_D A (wD cB cI o_Model r z11_3 z11_2) := hD
      obtain rfl := Option.some.inj h
      have hP9 := hP
      have hD9 := hD
      have hK9 := hK
      exact W.iret (v := z11_1) hx hb hr (fun t ht hW => ⟨⟨z11_1, (), rfl, rfl, by rw [ht]; exact hP9, va_K.moved hW.alike hK9, hD9⟩, hS.F ht⟩) hS.2.2 d_Model_back_84
    · rw [if_neg c3] at h
      refine lv_iconst (v := 4) hx hb d_Model_back_15 (by decide) ?_
      obtain rfl := Option.some.inj h
      have hP9 := hP
      have hD9 := hD
      have hK9 := hK
      exact W.iret (v := 4) hx hb hr (fun t ht hW => ⟨⟨4, (), rfl, rfl, by rw [ht]; exact hP9, va_K.moved hW.alike hK9, hD9⟩, hS.F ht⟩) hS.2.2 d_Model_back_16

set_option maxHeartbeats 4000000 in
set_option maxRecDepth 100000 in
theorem c_Model_branch (l : Launch) (dC : Nat → ClassId) (dI : Nat → Nat → Nat) (N : Nat) (cB : ClassId) (cI : ClassId) (o_Model : Nat) (r : Nat → Nat) (I : Nat → Int32) (F : Nat → Nat → Int32) (p0 : Int32) (p1 : Int32) (sz : Nat) (z : Int32 × (Nat → Int32)) (h : m_Model_branch N I F p0 p1 = some z) : Met l y_Model_branch (.code y_Model_branch b_Model_branch 4 (some .int) :: lw_g) ({ frames := 1, cells := 0, slots := 0, locals := 21 }) (va_Pc [.ref o_Model, .int p0, .int p1] (fun U => dz_N U ∧ U.heap.size = sz ∧ va_P (dC, dI) classes (wD cB cI o_Model r I F) U.heap ∧ va_K (dC, dI) classes [(cB, .byte), (cI, .int)] U ∧ va_D (fun _ => True) (wD cB cI o_Model r I F))) (va_Qi (fun (r : Int32) (_ : Unit) => r = z.1) (fun (u : Unit) t => va_P (dC, dI) classes (wD cB cI o_Model r z.2 F) t.heap ∧ va_K (dC, dI) classes [(cB, .byte), (cI, .int)] t ∧ va_D (va_A (wD cB cI o_Model r I F) sz) (wD cB cI o_Model r z.2 F)) (va_A (wD cB cI o_Model r I F) sz)) 0 0 (va_A (wD cB cI o_Model r I F) sz) := by
  refine Met.ofW (cc := b_Model_branch) (maxL := 4) (ret := (some .int)) (by decide +kernel) rfl ?_
  intro p e s m args below meth c s₁ B hml hv
  obtain ⟨rfl, hN, hsz, hP, hK, hD0⟩ := hv
  have hx := B.exec
  have hb := B.bytes
  have hr := B.returns
  have hg : ∀ w ∈ lw_g, w.before _ s = true := fun w hw => atoms_spec (ws := .code y_Model_branch b_Model_branch 4 (some .int) :: lw_g) B.pre w (List.mem_cons_of_mem _ hw)
  have hown : s.vm.findClass R_Model = some m.cls := findClass_of_methodNamed B.named
  have hlocks := B.notSynchronized
  clear B
  subst hsz
  have hD := hD0.self (sz := s.heap.size)
  generalize hAe : va_A (wD cB cI o_Model r I F) s.heap.size = A at hD ⊢
  have hA : ∀ q : Nat, s.heap.size ≤ q → A q := fun q h => by rw [← hAe]; exact Or.inr h
  have hS : va_S A s.heap s.heap [] := va_S.rf
  have hP : va_P (dC, dI) classes (wD cB cI o_Model r I F) s.heap := hP
  have hl := lv_entry ([.ref o_Model, .int p0, .int p1]) (n := 4) (Nat.le_of_ble_eq_true rfl)
  rw [lg_entry_eq]
  generalize (lg_sl ([.ref o_Model, .int p0, .int p1]) ++ List.replicate (4 - (lg_sl ([.ref o_Model, .int p0, .int p1])).length) Slot.unset).toArray = ls at hl ⊢
  have hl : lv_has ls 4 [(0, .ref o_Model), (1, .int p0), (2, .int p1)] := hl
  unfold m_Model_branch at h
  refine lv_aload_n hx hb d_Model_branch_0 rfl (lv_at hl 0 rfl) ?_
  refine lv_iconst (v := 1) hx hb d_Model_branch_1 (by decide) ?_
  obtain ⟨z1_1, hc1, h⟩ := dz_ob h
  try dsimp only at h
  have hPc := hP
  have hKc := hK
  refine vp_callSi (va_Run.run (va_runV (As := [.int 1]) (rest := []) ⟨hx, hb, hml, hown, hg⟩ (c_Model_isScalar l dC dI N cB cI o_Model r I F (1 : Int32) z1_1 hc1) (cwV 1 hg (gd_V k818 k819 k820 k707 k817) rfl rfl rfl (by decide +kernel) ⟨Nat.le_of_ble_eq_true rfl, Nat.le_of_ble_eq_true rfl⟩) ⟨dz_blindR, va_recv hKc hPc (ci := 10) (q0 := 0) rfl rfl, fun U hU hW => ⟨rfl, dz_Nw hW hN, by rw [hU]; exact hPc, va_K.moved hW.alike hKc⟩⟩ rfl rfl hl.1 rfl (lv_room (Nat.le_of_ble_eq_true rfl)) d_Model_branch_2 ⟨Nat.le_of_ble_eq_true rfl, Nat.le_of_ble_eq_true rfl⟩)) (fun r1 hw => ?_)
  obtain ⟨hw, hbz1⟩ := hw
  have hw : z1_1 = r1 := hw.symm
  subst hw
  refine lv_if_ne (tgt := 10) hx hb d_Model_branch_5 (by decide) (fun c2 => ?_) (fun c2 => ?_)
  · rw [if_neg c2] at h
    refine lv_aload_n hx hb d_Model_branch_10 rfl (lv_at hl 0 rfl) ?_
    refine lv_iconst (v := 1) hx hb d_Model_branch_11 (by decide) ?_
    obtain ⟨z3_1, hc3, h⟩ := dz_ob h
    try dsimp only at h
    have hPc := hP
    have hKc := hK
    refine vp_callSi (va_Run.run (va_runV (As := [.int 1]) (rest := []) ⟨hx, hb, hml, hown, hg⟩ (c_Model_scalar l dC dI N cB cI o_Model r I F (1 : Int32) z3_1 hc3) (cwV 1 hg (gd_V k804 k805 k806 k707 k803) rfl rfl rfl (by decide +kernel) ⟨Nat.le_of_ble_eq_true rfl, Nat.le_of_ble_eq_true rfl⟩) ⟨dz_blindR, va_recv hKc hPc (ci := 10) (q0 := 0) rfl rfl, fun U hU hW => ⟨rfl, dz_Nw hW hN, by rw [hU]; exact hPc, va_K.moved hW.alike hKc⟩⟩ rfl rfl hl.1 rfl (lv_room (Nat.le_of_ble_eq_true rfl)) d_Model_branch_12 ⟨Nat.le_of_ble_eq_true rfl, Nat.le_of_ble_eq_true rfl⟩)) (fun r3 hw => ?_)
    have hw : z3_1 = r3 := hw.symm
    subst hw
    refine lv_istore_n (lv' := [(3, .int z3_1), (0, .ref o_Model), (1, .int p0), (2, .int p1)]) hx hb d_Model_branch_15 rfl hl (by decide) rfl (fun ls hl => ?_)
    refine lv_aload_n hx hb d_Model_branch_16 rfl (lv_at hl 1 rfl) ?_
    refine lv_dup hx hb d_Model_branch_17 rfl ?_
    refine va_get (D := (dC, dI)) (ci := 10) (v := .int (I 29)) (C := R_Model) (T := F_Model) (N := 54) hx hb hg i_Model hown hK hP 0 rfl rfl 29 (by decide) (hg _ k719) (fun _ h9 => h9) rfl d_Model_branch_18 ?_
    refine lv_iconst (v := 1) hx hb d_Model_branch_21 (by decide) ?_
    refine lv_isub hx hb d_Model_branch_22 ?_
    refine va_put (D := (dC, dI)) (ci := 10) (v := .int ((I 29) - 1)) (ty := .int) (C := R_Model) (T := F_Model) (N := 54) hx hb hg i_Model t_Model t_Model_ok n_Model hown hK hP hD hS 0 rfl rfl 29 (by decide) (hg _ k719) (fun _ h9 => h9) rfl (by decide +kernel) rfl rfl (Nat.le_of_ble_eq_true rfl) d_Model_branch_23 (fun H locs hP hD hS => ?_)
    obtain ⟨J4, eJ4, h⟩ := dz_lt h
    have hP : va_P (dC, dI) classes (wD cB cI o_Model r J4 F) H := by rw [eJ4]; exact hP
    have hD : va_D A (wD cB cI o_Model r J4 F) := by rw [eJ4]; exact hD
    refine lv_iload_n hx hb d_Model_branch_26 rfl (lv_at hl 2 rfl) ?_
    refine lv_iconst (v := 2) hx hb d_Model_branch_27 (by decide) ?_
    refine lv_icmp_ne (tgt := 52) hx hb d_Model_branch_28 (by decide) (fun c5 => ?_) (fun c5 => ?_)
    · rw [if_neg c5] at h
      refine lv_aload_n hx hb d_Model_branch_52 rfl (lv_at hl 1 rfl) ?_
      refine lv_iload_n hx hb d_Model_branch_53 rfl (lv_at hl 0 rfl) ?_
      refine lv_if_lt (tgt := 72) hx hb d_Model_branch_54 (by decide) (fun c6 => ?_) (fun c6 => ?_)
      · rw [if_pos c6] at h
        refine lv_aload_n hx hb d_Model_branch_72 rfl (lv_at hl 1 rfl) ?_
        refine lv_iconst (v := 2) hx hb d_Model_branch_73 (by decide) ?_
        refine lv_iload_n hx hb d_Model_branch_74 rfl (lv_at hl 3 rfl) ?_
        refine lv_iadd hx hb d_Model_branch_75 ?_
        obtain ⟨z7_1, hc7, h⟩ := dz_ob h
        try dsimp only at h
        have hPc := hP
        have hKc := hK
        refine vp_callSi (va_Run.run (va_runV (As := [.int (2 + p1)]) (rest := [.ref o_Model]) ⟨hx, hb, hml, hown, hg⟩ (c_Model_word l dC dI N cB cI o_Model r J4 F (2 + p1) z7_1 hc7) (cwV 1 hg (gd_V k822 k823 k824 k707 k821) rfl rfl rfl (by decide +kernel) ⟨Nat.le_of_ble_eq_true rfl, Nat.le_of_ble_eq_true rfl⟩) ⟨dz_blindR, va_recv hKc hPc (ci := 10) (q0 := 0) rfl rfl, fun U hU hW => ⟨rfl, dz_Nw hW hN, by rw [hU]; exact hPc, va_K.moved hW.alike hKc⟩⟩ rfl rfl hl.1 rfl (lv_room (Nat.le_of_ble_eq_true rfl)) d_Model_branch_76 ⟨Nat.le_of_ble_eq_true rfl, Nat.le_of_ble_eq_true rfl⟩)) (fun r7 hw => ?_)
        have hw : z7_1 = r7 := hw.symm
        subst hw
        refine va_put (D := (dC, dI)) (ci := 10) (v := .int z7_1) (ty := .int) (C := R_Model) (T := F_Model) (N := 54) hx hb hg i_Model t_Model t_Model_ok n_Model hown hK hP hD hS 0 rfl rfl 35 (by decide) (hg _ k721) (fun _ h9 => h9) rfl (by decide +kernel) rfl rfl (Nat.le_of_ble_eq_true rfl) d_Model_branch_79 (fun H locs hP hD hS => ?_)
        obtain ⟨J8, eJ8, h⟩ := dz_lt h
        have hP : va_P (dC, dI) classes (wD cB cI o_Model r J8 F) H := by rw [eJ8]; exact hP
        have hD : va_D A (wD cB cI o_Model r J8 F) := by rw [eJ8]; exact hD
        refine lv_iconst (v := 5) hx hb d_Model_branch_82 (by decide) ?_
        obtain rfl := Option.some.inj h
        have hP9 := hP
        have hD9 := hD
        have hK9 := hK
        exact W.iret (v := 5) hx hb hr (fun t ht hW => ⟨⟨5, (), rfl, rfl, by rw [ht]; exact hP9, va_K.moved hW.alike hK9, hD9⟩, hS.F ht⟩) hS.2.2 d_Model_branch_83
      · rw [if_neg c6] at h
        refine lv_iload_n hx hb d_Model_branch_57 rfl (lv_at hl 0 rfl) ?_
        refine lv_iload_n hx hb d_Model_branch_58 rfl (lv_at hl 3 rfl) ?_
        refine lv_icmp_ge (tgt := 72) hx hb d_Model_branch_59 (by decide) (fun c9 => ?_) (fun c9 => ?_)
        · rw [if_pos c9] at h
          refine lv_aload_n hx hb d_Model_branch_72 rfl (lv_at hl 1 rfl) ?_
          refine lv_iconst (v := 2) hx hb d_Model_branch_73 (by decide) ?_
          refine lv_iload_n hx hb d_Model_branch_74 rfl (lv_at hl 3 rfl) ?_
          refine lv_iadd hx hb d_Model_branch_75 ?_
          obtain ⟨z10_1, hc10, h⟩ := dz_ob h
          try dsimp only at h
          have hPc := hP
          have hKc := hK
          refine vp_callSi (va_Run.run (va_runV (As := [.int (2 + p1)]) (rest := [.ref o_Model]) ⟨hx, hb, hml, hown, hg⟩ (c_Model_word l dC dI N cB cI o_Model r J4 F (2 + p1) z10_1 hc10) (cwV 1 hg (gd_V k822 k823 k824 k707 k821) rfl rfl rfl (by decide +kernel) ⟨Nat.le_of_ble_eq_true rfl, Nat.le_of_ble_eq_true rfl⟩) ⟨dz_blindR, va_recv hKc hPc (ci := 10) (q0 := 0) rfl rfl, fun U hU hW => ⟨rfl, dz_Nw hW hN, by rw [hU]; exact hPc, va_K.moved hW.alike hKc⟩⟩ rfl rfl hl.1 rfl (lv_room (Nat.le_of_ble_eq_true rfl)) d_Model_branch_76 ⟨Nat.le_of_ble_eq_true rfl, Nat.le_of_ble_eq_true rfl⟩)) (fun r10 hw => ?_)
          have hw : z10_1 = r10 := hw.symm
          subst hw
          refine va_put (D := (dC, dI)) (ci := 10) (v := .int z10_1) (ty := .int) (C := R_Model) (T := F_Model) (N := 54) hx hb hg i_Model t_Model t_Model_ok n_Model hown hK hP hD hS 0 rfl rfl 35 (by decide) (hg _ k721) (fun _ h9 => h9) rfl (by decide +kernel) rfl rfl (Nat.le_of_ble_eq_true rfl) d_Model_branch_79 (fun H locs hP hD hS => ?_)
          obtain ⟨J11, eJ11, h⟩ := dz_lt h
          have hP : va_P (dC, dI) classes (wD cB cI o_Model r J11 F) H := by rw [eJ11]; exact hP
          have hD : va_D A (wD cB cI o_Model r J11 F) := by rw [eJ11]; exact hD
          refine lv_iconst (v := 5) hx hb d_Model_branch_82 (by decide) ?_
          obtain rfl := Option.some.inj h
          have hP9 := hP
          have hD9 := hD
          have hK9 := hK
          exact W.iret (v := 5) hx hb hr (fun t ht hW => ⟨⟨5, (), rfl, rfl, by rw [ht]; exact hP9, va_K.moved hW.alike hK9, hD9⟩, hS.F ht⟩) hS.2.2 d_Model_branch_83
        · rw [if_neg c9] at h
          refine lv_aload_n hx hb d_Model_branch_62 rfl (lv_at hl 1 rfl) ?_
          refine lv_iconst (v := 2) hx hb d_Model_branch_63 (by decide) ?_
          refine lv_iload_n hx hb d_Model_branch_64 rfl (lv_at hl 0 rfl) ?_
          refine lv_iadd hx hb d_Model_branch_65 ?_
          obtain ⟨z12_1, hc12, h⟩ := dz_ob h
          try dsimp only at h
          have hPc := hP
          have hKc := hK
          refine vp_callSi (va_Run.run (va_runV (As := [.int (2 + z3_1)]) (rest := [.ref o_Model]) ⟨hx, hb, hml, hown, hg⟩ (c_Model_word l dC dI N cB cI o_Model r J4 F (2 + z3_1) z12_1 hc12) (cwV 1 hg (gd_V k822 k823 k824 k707 k821) rfl rfl rfl (by decide +kernel) ⟨Nat.le_of_ble_eq_true rfl, Nat.le_of_ble_eq_true rfl⟩) ⟨dz_blindR, va_recv hKc hPc (ci := 10) (q0 := 0) rfl rfl, fun U hU hW => ⟨rfl, dz_Nw hW hN, by rw [hU]; exact hPc, va_K.moved hW.alike hKc⟩⟩ rfl rfl hl.1 rfl (lv_room (Nat.le_of_ble_eq_true rfl)) d_Model_branch_66 ⟨Nat.le_of_ble_eq_true rfl, Nat.le_of_ble_eq_true rfl⟩)) (fun r12 hw => ?_)
          have hw : z12_1 = r12 := hw.symm
          subst hw
          refine lv_goto (tgt := 79) hx hb d_Model_branch_69 (by decide) ?_
          refine va_put (D := (dC, dI)) (ci := 10) (v := .int z12_1) (ty := .int) (C := R_Model) (T := F_Model) (N := 54) hx hb hg i_Model t_Model t_Model_ok n_Model hown hK hP hD hS 0 rfl rfl 35 (by decide) (hg _ k721) (fun _ h9 => h9) rfl (by decide +kernel) rfl rfl (Nat.le_of_ble_eq_true rfl) d_Model_branch_79 (fun H locs hP hD hS => ?_)
          obtain ⟨J13, eJ13, h⟩ := dz_lt h
          have hP : va_P (dC, dI) classes (wD cB cI o_Model r J13 F) H := by rw [eJ13]; exact hP
          have hD : va_D A (wD cB cI o_Model r J13 F) := by rw [eJ13]; exact hD
          refine lv_iconst (v := 5) hx hb d_Model_branch_82 (by decide) ?_
          obtain rfl := Option.some.inj h
          have hP9 := hP
          have hD9 := hD
          have hK9 := hK
          exact W.iret (v := 5) hx hb hr (fun t ht hW => ⟨⟨5, (), rfl, rfl, by rw [ht]; exact hP9, va_K.moved hW.alike hK9, hD9⟩, hS.F ht⟩) hS.2.2 d_Model_branch_83
    · rw [if_pos c5] at h
      refine lv_aload_n hx hb d_Model_branch_31 rfl (lv_at hl 1 rfl) ?_
      refine lv_iload_n hx hb d_Model_branch_32 rfl (lv_at hl 0 rfl) ?_
      refine lv_if_ne (tgt := 40) hx hb d_Model_branch_33 (by decide) (fun c14 => ?_) (fun c14 => ?_)
      · rw [if_neg c14] at h
        refine lv_aload_n hx hb d_Model_branch_40 rfl (lv_at hl 1 rfl) ?_
        refine va_get (D := (dC, dI)) (ci := 10) (v := .int (J4 35)) (C := R_Model) (T := F_Model) (N := 54) hx hb hg i_Model hown hK hP 0 rfl rfl 35 (by decide) (hg _ k721) (fun _ h9 => h9) rfl d_Model_branch_41 ?_
        refine lv_iconst (v := 2) hx hb d_Model_branch_44 (by decide) ?_
        refine lv_iadd hx hb d_Model_branch_45 ?_
        refine va_put (D := (dC, dI)) (ci := 10) (v := .int ((J4 35) + 2)) (ty := .int) (C := R_Model) (T := F_Model) (N := 54) hx hb hg i_Model t_Model t_Model_ok n_Model hown hK hP hD hS 0 rfl rfl 35 (by decide) (hg _ k721) (fun _ h9 => h9) rfl (by decide +kernel) rfl rfl (Nat.le_of_ble_eq_true rfl) d_Model_branch_46 (fun H locs hP hD hS => ?_)
        obtain ⟨J15, eJ15, h⟩ := dz_lt h
        have hP : va_P (dC, dI) classes (wD cB cI o_Model r J15 F) H := by rw [eJ15]; exact hP
        have hD : va_D A (wD cB cI o_Model r J15 F) := by rw [eJ15]; exact hD
        refine lv_goto (tgt := 82) hx hb d_Model_branch_49 (by decide) ?_
        refine lv_iconst (v := 5) hx hb d_Model_branch_82 (by decide) ?_
        obtain rfl := Option.some.inj h
        have hP9 := hP
        have hD9 := hD
        have hK9 := hK
        exact W.iret (v := 5) hx hb hr (fun t ht hW => ⟨⟨5, (), rfl, rfl, by rw [ht]; exact hP9, va_K.moved hW.alike hK9, hD9⟩, hS.F ht⟩) hS.2.2 d_Model_branch_83
      · rw [if_pos c14] at h
        refine lv_iload_n hx hb d_Model_branch_36 rfl (lv_at hl 3 rfl) ?_
        refine lv_goto (tgt := 46) hx hb d_Model_branch_37 (by decide) ?_
        refine va_put (D := (dC, dI)) (ci := 10) (v := .int p1) (ty := .int) (C := R_Model) (T := F_Model) (N := 54) hx hb hg i_Model t_Model t_Model_ok n_Model hown hK hP hD hS 0 rfl rfl 35 (by decide) (hg _ k721) (fun _ h9 => h9) rfl (by decide +kernel) rfl rfl (Nat.le_of_ble_eq_true rfl) d_Model_branch_46 (fun H locs hP hD hS => ?_)
        obtain ⟨J16, eJ16, h⟩ := dz_lt h
        have hP : va_P (dC, dI) classes (wD cB cI o_Model r J16 F) H := by rw [eJ16]; exact hP
        have hD : va_D A (wD cB cI o_Model r J16 F) := by rw [eJ16]; exact hD
        refine lv_goto (tgt := 82) hx hb d_Model_branch_49 (by decide) ?_
        refine lv_iconst (v := 5) hx hb d_Model_branch_82 (by decide) ?_
        obtain rfl := Option.some.inj h
        have hP9 := hP
        have hD9 := hD
        have hK9 := hK
        exact W.iret (v := 5) hx hb hr (fun t ht hW => ⟨⟨5, (), rfl, rfl, by rw [ht]; exact hP9, va_K.moved hW.alike hK9, hD9⟩, hS.F ht⟩) hS.2.2 d_Model_branch_83
  · rw [if_pos c2] at h
    refine lv_iconst (v := 4) hx hb d_Model_branch_8 (by decide) ?_
    obtain rfl := Option.some.inj h
    have hP9 := hP
    have hD9 := hD
    have hK9 := hK
    exact W.iret (v := 4) hx hb hr (fun t ht hW => ⟨⟨4, (), rfl, rfl, by rw [ht]; exact hP9, va_K.moved hW.alike hK9, hD9⟩, hS.F ht⟩) hS.2.2 d_Model_branch_9

set_option maxHeartbeats 4000000 in
set_option maxRecDepth 100000 in
theorem c_Model_assign (l : Launch) (dC : Nat → ClassId) (dI : Nat → Nat → Nat) (N : Nat) (cB : ClassId) (cI : ClassId) (o_Model : Nat) (r : Nat → Nat) (I : Nat → Int32) (F : Nat → Nat → Int32) (sz : Nat) (z : Int32 × (Nat → Nat → Int32) × (Nat → Int32)) (h : m_Model_assign N I F = some z) : Met l y_Model_assign (.code y_Model_assign b_Model_assign 2 (some .int) :: lw_g) ({ frames := 2, cells := 0, slots := 0, locals := 43 }) (va_Pc [.ref o_Model] (fun U => dz_N U ∧ U.heap.size = sz ∧ va_P (dC, dI) classes (wD cB cI o_Model r I F) U.heap ∧ va_K (dC, dI) classes [(cB, .byte), (cI, .int)] U ∧ va_D (fun _ => True) (wD cB cI o_Model r I F))) (va_Qi (fun (r : Int32) (_ : Unit) => r = z.1) (fun (u : Unit) t => va_P (dC, dI) classes (wD cB cI o_Model r z.2.2 z.2.1) t.heap ∧ va_K (dC, dI) classes [(cB, .byte), (cI, .int)] t ∧ va_D (va_A (wD cB cI o_Model r I F) sz) (wD cB cI o_Model r z.2.2 z.2.1)) (va_A (wD cB cI o_Model r I F) sz)) 0 0 (va_A (wD cB cI o_Model r I F) sz) := by
  refine Met.ofW (cc := b_Model_assign) (maxL := 2) (ret := (some .int)) (by decide +kernel) rfl ?_
  intro p e s m args below meth c s₁ B hml hv
  obtain ⟨rfl, hN, hsz, hP, hK, hD0⟩ := hv
  have hx := B.exec
  have hb := B.bytes
  have hr := B.returns
  have hg : ∀ w ∈ lw_g, w.before _ s = true := fun w hw => atoms_spec (ws := .code y_Model_assign b_Model_assign 2 (some .int) :: lw_g) B.pre w (List.mem_cons_of_mem _ hw)
  have hown : s.vm.findClass R_Model = some m.cls := findClass_of_methodNamed B.named
  have hlocks := B.notSynchronized
  clear B
  subst hsz
  have hD := hD0.self (sz := s.heap.size)
  generalize hAe : va_A (wD cB cI o_Model r I F) s.heap.size = A at hD ⊢
  have hA : ∀ q : Nat, s.heap.size ≤ q → A q := fun q h => by rw [← hAe]; exact Or.inr h
  have hS : va_S A s.heap s.heap [] := va_S.rf
  have hP : va_P (dC, dI) classes (wD cB cI o_Model r I F) s.heap := hP
  have hl := lv_entry ([.ref o_Model]) (n := 2) (Nat.le_of_ble_eq_true rfl)
  rw [lg_entry_eq]
  generalize (lg_sl ([.ref o_Model]) ++ List.replicate (2 - (lg_sl ([.ref o_Model])).length) Slot.unset).toArray = ls at hl ⊢
  have hl : lv_has ls 2 [(0, .ref o_Model)] := hl
  unfold m_Model_assign at h
  refine lv_aload_n hx hb d_Model_assign_0 rfl (lv_at hl 0 rfl) ?_
  refine lv_iconst (v := 2) hx hb d_Model_assign_1 (by decide) ?_
  refine lv_iconst (v := 5) hx hb d_Model_assign_2 (by decide) ?_
  obtain ⟨z1_1, hc1, h⟩ := dz_ob h
  try dsimp only at h
  have hPc := hP
  have hKc := hK
  refine vp_callSi (va_Run.run (va_runV (As := [.int 2, .int 5]) (rest := []) ⟨hx, hb, hml, hown, hg⟩ (c_Model_is l dC dI N cB cI o_Model r I F (2 : Int32) (5 : Int32) z1_1 hc1) (cwV 2 hg (gd_V k808 k809 k810 k707 k807) rfl rfl rfl (by decide +kernel) ⟨Nat.le_of_ble_eq_true rfl, Nat.le_of_ble_eq_true rfl⟩) ⟨dz_blindR, va_recv hKc hPc (ci := 10) (q0 := 0) rfl rfl, fun U hU hW => ⟨rfl, dz_Nw hW hN, by rw [hU]; exact hPc, va_K.moved hW.alike hKc⟩⟩ rfl rfl hl.1 rfl (lv_room (Nat.le_of_ble_eq_true rfl)) d_Model_assign_3 ⟨Nat.le_of_ble_eq_true rfl, Nat.le_of_ble_eq_true rfl⟩)) (fun r1 hw => ?_)
  obtain ⟨hw, hbz1⟩ := hw
  have hw : z1_1 = r1 := hw.symm
  subst hw
  refine lv_if_ne (tgt := 11) hx hb d_Model_assign_6 (by decide) (fun c2 => ?_) (fun c2 => ?_)
  · rw [if_neg c2] at h
    refine lv_aload_n hx hb d_Model_assign_11 rfl (lv_at hl 0 rfl) ?_
    refine lv_iconst (v := 2) hx hb d_Model_assign_12 (by decide) ?_
    obtain ⟨z3_1, hc3, h⟩ := dz_ob h
    try dsimp only at h
    have hPc := hP
    have hKc := hK
    refine vp_callSi (va_Run.run (va_runV (As := [.int 2]) (rest := []) ⟨hx, hb, hml, hown, hg⟩ (c_Model_scalar l dC dI N cB cI o_Model r I F (2 : Int32) z3_1 hc3) (cwV 1 hg (gd_V k804 k805 k806 k707 k803) rfl rfl rfl (by decide +kernel) ⟨Nat.le_of_ble_eq_true rfl, Nat.le_of_ble_eq_true rfl⟩) ⟨dz_blindR, va_recv hKc hPc (ci := 10) (q0 := 0) rfl rfl, fun U hU hW => ⟨rfl, dz_Nw hW hN, by rw [hU]; exact hPc, va_K.moved hW.alike hKc⟩⟩ rfl rfl hl.1 rfl (lv_room (Nat.le_of_ble_eq_true rfl)) d_Model_assign_13 ⟨Nat.le_of_ble_eq_true rfl, Nat.le_of_ble_eq_true rfl⟩)) (fun r3 hw => ?_)
    have hw : z3_1 = r3 := hw.symm
    subst hw
    refine lv_istore_n (lv' := [(1, .int z3_1), (0, .ref o_Model)]) hx hb d_Model_assign_16 rfl hl (by decide) rfl (fun ls hl => ?_)
    refine lv_aload_n hx hb d_Model_assign_17 rfl (lv_at hl 1 rfl) ?_
    refine va_get (D := (dC, dI)) (ci := 10) (v := .ref (r 0)) (C := R_Model) (T := F_Model) (N := 54) hx hb hg i_Model hown hK hP 0 rfl rfl 0 (by decide) (hg _ k737) (fun _ h9 => h9) rfl d_Model_assign_18 ?_
    refine lv_iload_n hx hb d_Model_assign_21 rfl (lv_at hl 0 rfl) ?_
    refine lv_iconst (v := 1) hx hb d_Model_assign_22 (by decide) ?_
    refine lv_iadd hx hb d_Model_assign_23 ?_
    refine lv_aload_n hx hb d_Model_assign_24 rfl (lv_at hl 1 rfl) ?_
    refine va_get (D := (dC, dI)) (ci := 10) (v := .ref (r 27)) (C := R_Model) (T := F_Model) (N := 54) hx hb hg i_Model hown hK hP 0 rfl rfl 27 (by decide) (hg _ k731) (fun _ h9 => h9) rfl d_Model_assign_25 ?_
    refine lv_aload_n hx hb d_Model_assign_28 rfl (lv_at hl 1 rfl) ?_
    refine va_get (D := (dC, dI)) (ci := 10) (v := .int (I 29)) (C := R_Model) (T := F_Model) (N := 54) hx hb hg i_Model hown hK hP 0 rfl rfl 29 (by decide) (hg _ k719) (fun _ h9 => h9) rfl d_Model_assign_29 ?_
    refine lv_iconst (v := 1) hx hb d_Model_assign_32 (by decide) ?_
    refine lv_isub hx hb d_Model_assign_33 ?_
    obtain ⟨i4, h⟩ := dz_oi h
    refine va_iald (D := (dC, dI)) (f := F 27) hx hb hK hP 17 1 rfl rfl i4 d_Model_assign_34 ?_
    obtain ⟨i5, h⟩ := dz_oi h
    refine va_iast (D := (dC, dI)) (f := F 0) hx hb hK hP hD hS 1 1 rfl rfl i5 d_Model_assign_35 (fun H locs hP hD hS => ?_)
    obtain ⟨G6, eG6, h⟩ := dz_lt h
    have hP : va_P (dC, dI) classes (wD cB cI o_Model r I G6) H := by rw [eG6]; exact hP
    have hD : va_D A (wD cB cI o_Model r I G6) := by rw [eG6]; exact hD
    refine lv_aload_n hx hb d_Model_assign_36 rfl (lv_at hl 1 rfl) ?_
    refine va_get (D := (dC, dI)) (ci := 10) (v := .ref (r 1)) (C := R_Model) (T := F_Model) (N := 54) hx hb hg i_Model hown hK hP 0 rfl rfl 1 (by decide) (hg _ k742) (fun _ h9 => h9) rfl d_Model_assign_37 ?_
    refine lv_iload_n hx hb d_Model_assign_40 rfl (lv_at hl 0 rfl) ?_
    refine lv_iconst (v := 1) hx hb d_Model_assign_41 (by decide) ?_
    refine lv_iadd hx hb d_Model_assign_42 ?_
    refine lv_aload_n hx hb d_Model_assign_43 rfl (lv_at hl 1 rfl) ?_
    refine va_get (D := (dC, dI)) (ci := 10) (v := .ref (r 28)) (C := R_Model) (T := F_Model) (N := 54) hx hb hg i_Model hown hK hP 0 rfl rfl 28 (by decide) (hg _ k732) (fun _ h9 => h9) rfl d_Model_assign_44 ?_
    refine lv_aload_n hx hb d_Model_assign_47 rfl (lv_at hl 1 rfl) ?_
    refine va_get (D := (dC, dI)) (ci := 10) (v := .int (I 29)) (C := R_Model) (T := F_Model) (N := 54) hx hb hg i_Model hown hK hP 0 rfl rfl 29 (by decide) (hg _ k719) (fun _ h9 => h9) rfl d_Model_assign_48 ?_
    refine lv_iconst (v := 1) hx hb d_Model_assign_51 (by decide) ?_
    refine lv_isub hx hb d_Model_assign_52 ?_
    obtain ⟨i7, h⟩ := dz_oi h
    refine va_iald (D := (dC, dI)) (f := G6 28) hx hb hK hP 18 1 rfl rfl i7 d_Model_assign_53 ?_
    obtain ⟨i8, h⟩ := dz_oi h
    refine va_iast (D := (dC, dI)) (f := G6 1) hx hb hK hP hD hS 2 1 rfl rfl i8 d_Model_assign_54 (fun H locs hP hD hS => ?_)
    obtain ⟨G9, eG9, h⟩ := dz_lt h
    have hP : va_P (dC, dI) classes (wD cB cI o_Model r I G9) H := by rw [eG9]; exact hP
    have hD : va_D A (wD cB cI o_Model r I G9) := by rw [eG9]; exact hD
    refine lv_aload_n hx hb d_Model_assign_55 rfl (lv_at hl 1 rfl) ?_
    refine lv_dup hx hb d_Model_assign_56 rfl ?_
    refine va_get (D := (dC, dI)) (ci := 10) (v := .int (I 29)) (C := R_Model) (T := F_Model) (N := 54) hx hb hg i_Model hown hK hP 0 rfl rfl 29 (by decide) (hg _ k719) (fun _ h9 => h9) rfl d_Model_assign_57 ?_
    refine lv_iconst (v := 2) hx hb d_Model_assign_60 (by decide) ?_
    refine lv_isub hx hb d_Model_assign_61 ?_
    refine va_put (D := (dC, dI)) (ci := 10) (v := .int ((I 29) - 2)) (ty := .int) (C := R_Model) (T := F_Model) (N := 54) hx hb hg i_Model t_Model t_Model_ok n_Model hown hK hP hD hS 0 rfl rfl 29 (by decide) (hg _ k719) (fun _ h9 => h9) rfl (by decide +kernel) rfl rfl (Nat.le_of_ble_eq_true rfl) d_Model_assign_62 (fun H locs hP hD hS => ?_)
    obtain ⟨J10, eJ10, h⟩ := dz_lt h
    have hP : va_P (dC, dI) classes (wD cB cI o_Model r J10 G9) H := by rw [eJ10]; exact hP
    have hD : va_D A (wD cB cI o_Model r J10 G9) := by rw [eJ10]; exact hD
    refine lv_iconst (v := 5) hx hb d_Model_assign_65 (by decide) ?_
    obtain rfl := Option.some.inj h
    have hP9 := hP
    have hD9 := hD
    have hK9 := hK
    exact W.iret (v := 5) hx hb hr (fun t ht hW => ⟨⟨5, (), rfl, rfl, by rw [ht]; exact hP9, va_K.moved hW.alike hK9, hD9⟩, hS.F ht⟩) hS.2.2 d_Model_assign_66
  · rw [if_pos c2] at h
    refine lv_iconst (v := 4) hx hb d_Model_assign_9 (by decide) ?_
    obtain rfl := Option.some.inj h
    have hP9 := hP
    have hD9 := hD
    have hK9 := hK
    exact W.iret (v := 4) hx hb hr (fun t ht hW => ⟨⟨4, (), rfl, rfl, by rw [ht]; exact hP9, va_K.moved hW.alike hK9, hD9⟩, hS.F ht⟩) hS.2.2 d_Model_assign_10
