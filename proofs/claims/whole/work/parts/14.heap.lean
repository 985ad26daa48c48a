theorem d_Heap_sizeOf_0 : decode b_Heap_sizeOf 0 = .ok (.lload_n 1, 1) := by decide +kernel
theorem d_Heap_sizeOf_1 : decode b_Heap_sizeOf 1 = .ok (.l2i, 1) := by decide +kernel
theorem d_Heap_sizeOf_2 : decode b_Heap_sizeOf 2 = .ok (.bipush 7, 2) := by decide +kernel
theorem d_Heap_sizeOf_4 : decode b_Heap_sizeOf 4 = .ok (.iand, 1) := by decide +kernel
theorem d_Heap_sizeOf_5 : decode b_Heap_sizeOf 5 = .ok (.istore_n 3, 1) := by decide +kernel
theorem d_Heap_sizeOf_6 : decode b_Heap_sizeOf 6 = .ok (.iload_n 3, 1) := by decide +kernel
theorem d_Heap_sizeOf_7 : decode b_Heap_sizeOf 7 = .ok (.bipush 6, 2) := by decide +kernel
theorem d_Heap_sizeOf_9 : decode b_Heap_sizeOf 9 = .ok (.if_icmp .ne 16, 3) := by decide +kernel
theorem d_Heap_sizeOf_12 : decode b_Heap_sizeOf 12 = .ok (.iconst 1, 1) := by decide +kernel
theorem d_Heap_sizeOf_13 : decode b_Heap_sizeOf 13 = .ok (.lload_n 1, 1) := by decide +kernel
theorem d_Heap_sizeOf_14 : decode b_Heap_sizeOf 14 = .ok (.iconst 3, 1) := by decide +kernel
theorem d_Heap_sizeOf_15 : decode b_Heap_sizeOf 15 = .ok (.lshr, 1) := by decide +kernel
theorem d_Heap_sizeOf_16 : decode b_Heap_sizeOf 16 = .ok (.l2i, 1) := by decide +kernel
theorem d_Heap_sizeOf_17 : decode b_Heap_sizeOf 17 = .ok (.iconst 3, 1) := by decide +kernel
theorem d_Heap_sizeOf_18 : decode b_Heap_sizeOf 18 = .ok (.iadd, 1) := by decide +kernel
theorem d_Heap_sizeOf_19 : decode b_Heap_sizeOf 19 = .ok (.iconst 4, 1) := by decide +kernel
theorem d_Heap_sizeOf_20 : decode b_Heap_sizeOf 20 = .ok (.idiv, 1) := by decide +kernel
theorem d_Heap_sizeOf_21 : decode b_Heap_sizeOf 21 = .ok (.iadd, 1) := by decide +kernel
theorem d_Heap_sizeOf_22 : decode b_Heap_sizeOf 22 = .ok (.goto 20, 3) := by decide +kernel
theorem d_Heap_sizeOf_25 : decode b_Heap_sizeOf 25 = .ok (.iload_n 3, 1) := by decide +kernel
theorem d_Heap_sizeOf_26 : decode b_Heap_sizeOf 26 = .ok (.bipush 7, 2) := by decide +kernel
theorem d_Heap_sizeOf_28 : decode b_Heap_sizeOf 28 = .ok (.if_icmp .ne 7, 3) := by decide +kernel
theorem d_Heap_sizeOf_31 : decode b_Heap_sizeOf 31 = .ok (.iconst 2, 1) := by decide +kernel
theorem d_Heap_sizeOf_32 : decode b_Heap_sizeOf 32 = .ok (.goto 10, 3) := by decide +kernel
theorem d_Heap_sizeOf_35 : decode b_Heap_sizeOf 35 = .ok (.iconst 1, 1) := by decide +kernel
theorem d_Heap_sizeOf_36 : decode b_Heap_sizeOf 36 = .ok (.lload_n 1, 1) := by decide +kernel
theorem d_Heap_sizeOf_37 : decode b_Heap_sizeOf 37 = .ok (.bipush 35, 2) := by decide +kernel
theorem d_Heap_sizeOf_39 : decode b_Heap_sizeOf 39 = .ok (.lushr, 1) := by decide +kernel
theorem d_Heap_sizeOf_40 : decode b_Heap_sizeOf 40 = .ok (.l2i, 1) := by decide +kernel
theorem d_Heap_sizeOf_41 : decode b_Heap_sizeOf 41 = .ok (.iadd, 1) := by decide +kernel
theorem d_Heap_sizeOf_42 : decode b_Heap_sizeOf 42 = .ok (.ireturn, 1) := by decide +kernel
theorem d_Heap_moveBack_0 : decode b_Heap_moveBack 0 = .ok (.aload_n 0, 1) := by decide +kernel
theorem d_Heap_moveBack_1 : decode b_Heap_moveBack 1 = .ok (.getfield 18, 3) := by decide +kernel
theorem d_Heap_moveBack_4 : decode b_Heap_moveBack 4 = .ok (.iload_n 1, 1) := by decide +kernel
theorem d_Heap_moveBack_5 : decode b_Heap_moveBack 5 = .ok (.aload_n 0, 1) := by decide +kernel
theorem d_Heap_moveBack_6 : decode b_Heap_moveBack 6 = .ok (.getfield 15, 3) := by decide +kernel
theorem d_Heap_moveBack_9 : decode b_Heap_moveBack 9 = .ok (.iload_n 1, 1) := by decide +kernel
theorem d_Heap_moveBack_10 : decode b_Heap_moveBack 10 = .ok (.aload_n 0, 1) := by decide +kernel
theorem d_Heap_moveBack_11 : decode b_Heap_moveBack 11 = .ok (.getfield 108, 3) := by decide +kernel
theorem d_Heap_moveBack_14 : decode b_Heap_moveBack 14 = .ok (.iload_n 1, 1) := by decide +kernel
theorem d_Heap_moveBack_15 : decode b_Heap_moveBack 15 = .ok (.isub, 1) := by decide +kernel
theorem d_Heap_moveBack_16 : decode b_Heap_moveBack 16 = .ok (.invokestatic 142, 3) := by decide +kernel
theorem d_Heap_moveBack_19 : decode b_Heap_moveBack 19 = .ok (.aload_n 0, 1) := by decide +kernel
theorem d_Heap_moveBack_20 : decode b_Heap_moveBack 20 = .ok (.aload_n 0, 1) := by decide +kernel
theorem d_Heap_moveBack_21 : decode b_Heap_moveBack 21 = .ok (.getfield 108, 3) := by decide +kernel
theorem d_Heap_moveBack_24 : decode b_Heap_moveBack 24 = .ok (.putfield 58, 3) := by decide +kernel
theorem d_Heap_moveBack_27 : decode b_Heap_moveBack 27 = .ok (.aload_n 0, 1) := by decide +kernel
theorem d_Heap_moveBack_28 : decode b_Heap_moveBack 28 = .ok (.iconst 0, 1) := by decide +kernel
theorem d_Heap_moveBack_29 : decode b_Heap_moveBack 29 = .ok (.putfield 55, 3) := by decide +kernel
theorem d_Heap_moveBack_32 : decode b_Heap_moveBack 32 = .ok (.iload_n 1, 1) := by decide +kernel
theorem d_Heap_moveBack_33 : decode b_Heap_moveBack 33 = .ok (.ifCond .eq 15, 3) := by decide +kernel
theorem d_Heap_moveBack_36 : decode b_Heap_moveBack 36 = .ok (.aload_n 0, 1) := by decide +kernel
theorem d_Heap_moveBack_37 : decode b_Heap_moveBack 37 = .ok (.getfield 58, 3) := by decide +kernel
theorem d_Heap_moveBack_40 : decode b_Heap_moveBack 40 = .ok (.iload_n 1, 1) := by decide +kernel
theorem d_Heap_moveBack_41 : decode b_Heap_moveBack 41 = .ok (.isub, 1) := by decide +kernel
theorem d_Heap_moveBack_42 : decode b_Heap_moveBack 42 = .ok (.sipush 1024, 3) := by decide +kernel
theorem d_Heap_moveBack_45 : decode b_Heap_moveBack 45 = .ok (.if_icmp .le 16, 3) := by decide +kernel
theorem d_Heap_moveBack_48 : decode b_Heap_moveBack 48 = .ok (.aload_n 0, 1) := by decide +kernel
theorem d_Heap_moveBack_49 : decode b_Heap_moveBack 49 = .ok (.aload_n 0, 1) := by decide +kernel
theorem d_Heap_moveBack_50 : decode b_Heap_moveBack 50 = .ok (.getfield 58, 3) := by decide +kernel
theorem d_Heap_moveBack_53 : decode b_Heap_moveBack 53 = .ok (.putfield 65, 3) := by decide +kernel
theorem d_Heap_moveBack_56 : decode b_Heap_moveBack 56 = .ok (.aload_n 0, 1) := by decide +kernel
theorem d_Heap_moveBack_57 : decode b_Heap_moveBack 57 = .ok (.iconst 0, 1) := by decide +kernel
theorem d_Heap_moveBack_58 : decode b_Heap_moveBack 58 = .ok (.putfield 61, 3) := by decide +kernel
theorem d_Heap_moveBack_61 : decode b_Heap_moveBack 61 = .ok (.return_, 1) := by decide +kernel
theorem d_Heap_lay_0 : decode b_Heap_lay 0 = .ok (.aload_n 0, 1) := by decide +kernel
theorem d_Heap_lay_1 : decode b_Heap_lay 1 = .ok (.getfield 58, 3) := by decide +kernel
theorem d_Heap_lay_4 : decode b_Heap_lay 4 = .ok (.istore 4, 2) := by decide +kernel
theorem d_Heap_lay_6 : decode b_Heap_lay 6 = .ok (.aload_n 0, 1) := by decide +kernel
theorem d_Heap_lay_7 : decode b_Heap_lay 7 = .ok (.getfield 15, 3) := by decide +kernel
theorem d_Heap_lay_10 : decode b_Heap_lay 10 = .ok (.iload 4, 2) := by decide +kernel
theorem d_Heap_lay_12 : decode b_Heap_lay 12 = .ok (.lload_n 1, 1) := by decide +kernel
theorem d_Heap_lay_13 : decode b_Heap_lay 13 = .ok (.lastore, 1) := by decide +kernel
theorem d_Heap_lay_14 : decode b_Heap_lay 14 = .ok (.aload_n 0, 1) := by decide +kernel
theorem d_Heap_lay_15 : decode b_Heap_lay 15 = .ok (.dup, 1) := by decide +kernel
theorem d_Heap_lay_16 : decode b_Heap_lay 16 = .ok (.getfield 58, 3) := by decide +kernel
theorem d_Heap_lay_19 : decode b_Heap_lay 19 = .ok (.iload_n 3, 1) := by decide +kernel
theorem d_Heap_lay_20 : decode b_Heap_lay 20 = .ok (.iadd, 1) := by decide +kernel
theorem d_Heap_lay_21 : decode b_Heap_lay 21 = .ok (.putfield 58, 3) := by decide +kernel
theorem d_Heap_lay_24 : decode b_Heap_lay 24 = .ok (.aload_n 0, 1) := by decide +kernel
theorem d_Heap_lay_25 : decode b_Heap_lay 25 = .ok (.dup, 1) := by decide +kernel
theorem d_Heap_lay_26 : decode b_Heap_lay 26 = .ok (.getfield 55, 3) := by decide +kernel
theorem d_Heap_lay_29 : decode b_Heap_lay 29 = .ok (.iload_n 3, 1) := by decide +kernel
theorem d_Heap_lay_30 : decode b_Heap_lay 30 = .ok (.iadd, 1) := by decide +kernel
theorem d_Heap_lay_31 : decode b_Heap_lay 31 = .ok (.putfield 55, 3) := by decide +kernel
theorem d_Heap_lay_34 : decode b_Heap_lay 34 = .ok (.iload 4, 2) := by decide +kernel
theorem d_Heap_lay_36 : decode b_Heap_lay 36 = .ok (.ireturn, 1) := by decide +kernel
theorem d_Heap_layString_0 : decode b_Heap_layString 0 = .ok (.iload_n 1, 1) := by decide +kernel
theorem d_Heap_layString_1 : decode b_Heap_layString 1 = .ok (.invokestatic 83, 3) := by decide +kernel
theorem d_Heap_layString_4 : decode b_Heap_layString 4 = .ok (.istore_n 2, 1) := by decide +kernel
theorem d_Heap_layString_5 : decode b_Heap_layString 5 = .ok (.aload_n 0, 1) := by decide +kernel
theorem d_Heap_layString_6 : decode b_Heap_layString 6 = .ok (.bipush 6, 2) := by decide +kernel
theorem d_Heap_layString_8 : decode b_Heap_layString 8 = .ok (.iload_n 1, 1) := by decide +kernel
theorem d_Heap_layString_9 : decode b_Heap_layString 9 = .ok (.iconst 0, 1) := by decide +kernel
theorem d_Heap_layString_10 : decode b_Heap_layString 10 = .ok (.invokestatic 89, 3) := by decide +kernel
theorem d_Heap_layString_13 : decode b_Heap_layString 13 = .ok (.iload_n 2, 1) := by decide +kernel
theorem d_Heap_layString_14 : decode b_Heap_layString 14 = .ok (.invokevirtual 93, 3) := by decide +kernel
theorem d_Heap_layString_17 : decode b_Heap_layString 17 = .ok (.istore_n 3, 1) := by decide +kernel
theorem d_Heap_layString_18 : decode b_Heap_layString 18 = .ok (.aload_n 0, 1) := by decide +kernel
theorem d_Heap_layString_19 : decode b_Heap_layString 19 = .ok (.getfield 15, 3) := by decide +kernel
theorem d_Heap_layString_22 : decode b_Heap_layString 22 = .ok (.iload_n 3, 1) := by decide +kernel
theorem d_Heap_layString_23 : decode b_Heap_layString 23 = .ok (.iconst 1, 1) := by decide +kernel
theorem d_Heap_layString_24 : decode b_Heap_layString 24 = .ok (.iadd, 1) := by decide +kernel
theorem d_Heap_layString_25 : decode b_Heap_layString 25 = .ok (.iload_n 3, 1) := by decide +kernel
theorem d_Heap_layString_26 : decode b_Heap_layString 26 = .ok (.iload_n 2, 1) := by decide +kernel
theorem d_Heap_layString_27 : decode b_Heap_layString 27 = .ok (.iadd, 1) := by decide +kernel
theorem d_Heap_layString_28 : decode b_Heap_layString 28 = .ok (.lconst 0, 1) := by decide +kernel
theorem d_Heap_layString_29 : decode b_Heap_layString 29 = .ok (.invokestatic 97, 3) := by decide +kernel
theorem d_Heap_layString_32 : decode b_Heap_layString 32 = .ok (.iload_n 3, 1) := by decide +kernel
theorem d_Heap_layString_33 : decode b_Heap_layString 33 = .ok (.ireturn, 1) := by decide +kernel
theorem d_Heap_setByte_0 : decode b_Heap_setByte 0 = .ok (.aload_n 0, 1) := by decide +kernel
theorem d_Heap_setByte_1 : decode b_Heap_setByte 1 = .ok (.getfield 15, 3) := by decide +kernel
theorem d_Heap_setByte_4 : decode b_Heap_setByte 4 = .ok (.iload_n 1, 1) := by decide +kernel
theorem d_Heap_setByte_5 : decode b_Heap_setByte 5 = .ok (.iconst 1, 1) := by decide +kernel
theorem d_Heap_setByte_6 : decode b_Heap_setByte 6 = .ok (.iadd, 1) := by decide +kernel
theorem d_Heap_setByte_7 : decode b_Heap_setByte 7 = .ok (.iload_n 2, 1) := by decide +kernel
theorem d_Heap_setByte_8 : decode b_Heap_setByte 8 = .ok (.iconst 4, 1) := by decide +kernel
theorem d_Heap_setByte_9 : decode b_Heap_setByte 9 = .ok (.idiv, 1) := by decide +kernel
theorem d_Heap_setByte_10 : decode b_Heap_setByte 10 = .ok (.iadd, 1) := by decide +kernel
theorem d_Heap_setByte_11 : decode b_Heap_setByte 11 = .ok (.dup2, 1) := by decide +kernel
theorem d_Heap_setByte_12 : decode b_Heap_setByte 12 = .ok (.laload, 1) := by decide +kernel
theorem d_Heap_setByte_13 : decode b_Heap_setByte 13 = .ok (.iload_n 3, 1) := by decide +kernel
theorem d_Heap_setByte_14 : decode b_Heap_setByte 14 = .ok (.sipush 255, 3) := by decide +kernel
theorem d_Heap_setByte_17 : decode b_Heap_setByte 17 = .ok (.iand, 1) := by decide +kernel
theorem d_Heap_setByte_18 : decode b_Heap_setByte 18 = .ok (.i2l, 1) := by decide +kernel
theorem d_Heap_setByte_19 : decode b_Heap_setByte 19 = .ok (.bipush 24, 2) := by decide +kernel
theorem d_Heap_setByte_21 : decode b_Heap_setByte 21 = .ok (.bipush 8, 2) := by decide +kernel
theorem d_Heap_setByte_23 : decode b_Heap_setByte 23 = .ok (.iload_n 2, 1) := by decide +kernel
theorem d_Heap_setByte_24 : decode b_Heap_setByte 24 = .ok (.iconst 4, 1) := by decide +kernel
theorem d_Heap_setByte_25 : decode b_Heap_setByte 25 = .ok (.irem, 1) := by decide +kernel
theorem d_Heap_setByte_26 : decode b_Heap_setByte 26 = .ok (.imul, 1) := by decide +kernel
theorem d_Heap_setByte_27 : decode b_Heap_setByte 27 = .ok (.isub, 1) := by decide +kernel
theorem d_Heap_setByte_28 : decode b_Heap_setByte 28 = .ok (.lshl, 1) := by decide +kernel
theorem d_Heap_setByte_29 : decode b_Heap_setByte 29 = .ok (.lor, 1) := by decide +kernel
theorem d_Heap_setByte_30 : decode b_Heap_setByte 30 = .ok (.lastore, 1) := by decide +kernel
theorem d_Heap_setByte_31 : decode b_Heap_setByte 31 = .ok (.return_, 1) := by decide +kernel
theorem d_Heap_parts_0 : decode b_Heap_parts 0 = .ok (.lload_n 1, 1) := by decide +kernel
theorem d_Heap_parts_1 : decode b_Heap_parts 1 = .ok (.invokestatic 101, 3) := by decide +kernel
theorem d_Heap_parts_4 : decode b_Heap_parts 4 = .ok (.istore_n 3, 1) := by decide +kernel
theorem d_Heap_parts_5 : decode b_Heap_parts 5 = .ok (.iload_n 3, 1) := by decide +kernel
theorem d_Heap_parts_6 : decode b_Heap_parts 6 = .ok (.iconst 2, 1) := by decide +kernel
theorem d_Heap_parts_7 : decode b_Heap_parts 7 = .ok (.if_icmp .lt 9, 3) := by decide +kernel
theorem d_Heap_parts_10 : decode b_Heap_parts 10 = .ok (.iload_n 3, 1) := by decide +kernel
theorem d_Heap_parts_11 : decode b_Heap_parts 11 = .ok (.bipush 6, 2) := by decide +kernel
theorem d_Heap_parts_13 : decode b_Heap_parts 13 = .ok (.if_icmp .ne 5, 3) := by decide +kernel
theorem d_Heap_parts_16 : decode b_Heap_parts 16 = .ok (.iconst 0, 1) := by decide +kernel
theorem d_Heap_parts_17 : decode b_Heap_parts 17 = .ok (.ireturn, 1) := by decide +kernel
theorem d_Heap_parts_18 : decode b_Heap_parts 18 = .ok (.aload_n 0, 1) := by decide +kernel
theorem d_Heap_parts_19 : decode b_Heap_parts 19 = .ok (.aload_n 0, 1) := by decide +kernel
theorem d_Heap_parts_20 : decode b_Heap_parts 20 = .ok (.getfield 15, 3) := by decide +kernel
theorem d_Heap_parts_23 : decode b_Heap_parts 23 = .ok (.lload_n 1, 1) := by decide +kernel
theorem d_Heap_parts_24 : decode b_Heap_parts 24 = .ok (.invokestatic 105, 3) := by decide +kernel
theorem d_Heap_parts_27 : decode b_Heap_parts 27 = .ok (.laload, 1) := by decide +kernel
theorem d_Heap_parts_28 : decode b_Heap_parts 28 = .ok (.invokevirtual 129, 3) := by decide +kernel
theorem d_Heap_parts_31 : decode b_Heap_parts 31 = .ok (.iconst 1, 1) := by decide +kernel
theorem d_Heap_parts_32 : decode b_Heap_parts 32 = .ok (.isub, 1) := by decide +kernel
theorem d_Heap_parts_33 : decode b_Heap_parts 33 = .ok (.ireturn, 1) := by decide +kernel
theorem d_Heap_part_0 : decode b_Heap_part 0 = .ok (.aload_n 0, 1) := by decide +kernel
theorem d_Heap_part_1 : decode b_Heap_part 1 = .ok (.getfield 15, 3) := by decide +kernel
theorem d_Heap_part_4 : decode b_Heap_part 4 = .ok (.lload_n 1, 1) := by decide +kernel
theorem d_Heap_part_5 : decode b_Heap_part 5 = .ok (.invokestatic 105, 3) := by decide +kernel
theorem d_Heap_part_8 : decode b_Heap_part 8 = .ok (.iload_n 3, 1) := by decide +kernel
theorem d_Heap_part_9 : decode b_Heap_part 9 = .ok (.iadd, 1) := by decide +kernel
theorem d_Heap_part_10 : decode b_Heap_part 10 = .ok (.laload, 1) := by decide +kernel
theorem d_Heap_part_11 : decode b_Heap_part 11 = .ok (.lreturn, 1) := by decide +kernel
theorem d_Heap_setGlobal_0 : decode b_Heap_setGlobal 0 = .ok (.aload_n 0, 1) := by decide +kernel
theorem d_Heap_setGlobal_1 : decode b_Heap_setGlobal 1 = .ok (.getfield 11, 3) := by decide +kernel
theorem d_Heap_setGlobal_4 : decode b_Heap_setGlobal 4 = .ok (.iload_n 1, 1) := by decide +kernel
theorem d_Heap_setGlobal_5 : decode b_Heap_setGlobal 5 = .ok (.lload_n 2, 1) := by decide +kernel
theorem d_Heap_setGlobal_6 : decode b_Heap_setGlobal 6 = .ok (.lastore, 1) := by decide +kernel
theorem d_Heap_setGlobal_7 : decode b_Heap_setGlobal 7 = .ok (.aload_n 0, 1) := by decide +kernel
theorem d_Heap_setGlobal_8 : decode b_Heap_setGlobal 8 = .ok (.aload_n 0, 1) := by decide +kernel
theorem d_Heap_setGlobal_9 : decode b_Heap_setGlobal 9 = .ok (.getfield 43, 3) := by decide +kernel
theorem d_Heap_setGlobal_12 : decode b_Heap_setGlobal 12 = .ok (.iload_n 1, 1) := by decide +kernel
theorem d_Heap_setGlobal_13 : decode b_Heap_setGlobal 13 = .ok (.iconst 1, 1) := by decide +kernel
theorem d_Heap_setGlobal_14 : decode b_Heap_setGlobal 14 = .ok (.iadd, 1) := by decide +kernel
theorem d_Heap_setGlobal_15 : decode b_Heap_setGlobal 15 = .ok (.invokestatic 46, 3) := by decide +kernel
theorem d_Heap_setGlobal_18 : decode b_Heap_setGlobal 18 = .ok (.putfield 43, 3) := by decide +kernel
theorem d_Heap_setGlobal_21 : decode b_Heap_setGlobal 21 = .ok (.return_, 1) := by decide +kernel
theorem d_Heap_told_0 : decode b_Heap_told 0 = .ok (.lload_n 1, 1) := by decide +kernel
theorem d_Heap_told_1 : decode b_Heap_told 1 = .ok (.invokestatic 105, 3) := by decide +kernel
theorem d_Heap_told_4 : decode b_Heap_told 4 = .ok (.istore_n 3, 1) := by decide +kernel
theorem d_Heap_told_5 : decode b_Heap_told 5 = .ok (.lload_n 1, 1) := by decide +kernel
theorem d_Heap_told_6 : decode b_Heap_told 6 = .ok (.invokestatic 101, 3) := by decide +kernel
theorem d_Heap_told_9 : decode b_Heap_told 9 = .ok (.iconst 2, 1) := by decide +kernel
theorem d_Heap_told_10 : decode b_Heap_told 10 = .ok (.if_icmp .ge 7, 3) := by decide +kernel
theorem d_Heap_told_13 : decode b_Heap_told 13 = .ok (.iload_n 3, 1) := by decide +kernel
theorem d_Heap_told_14 : decode b_Heap_told 14 = .ok (.goto 12, 3) := by decide +kernel
theorem d_Heap_told_17 : decode b_Heap_told 17 = .ok (.aload_n 0, 1) := by decide +kernel
theorem d_Heap_told_18 : decode b_Heap_told 18 = .ok (.getfield 15, 3) := by decide +kernel
theorem d_Heap_told_21 : decode b_Heap_told 21 = .ok (.iload_n 3, 1) := by decide +kernel
theorem d_Heap_told_22 : decode b_Heap_told 22 = .ok (.laload, 1) := by decide +kernel
theorem d_Heap_told_23 : decode b_Heap_told 23 = .ok (.invokestatic 105, 3) := by decide +kernel
theorem d_Heap_told_26 : decode b_Heap_told 26 = .ok (.ireturn, 1) := by decide +kernel
theorem d_Heap_change_0 : decode b_Heap_change 0 = .ok (.aload_n 0, 1) := by decide +kernel
theorem d_Heap_change_1 : decode b_Heap_change 1 = .ok (.getfield 15, 3) := by decide +kernel
theorem d_Heap_change_4 : decode b_Heap_change 4 = .ok (.iload_n 1, 1) := by decide +kernel
theorem d_Heap_change_5 : decode b_Heap_change 5 = .ok (.lload_n 2, 1) := by decide +kernel
theorem d_Heap_change_6 : decode b_Heap_change 6 = .ok (.lastore, 1) := by decide +kernel
theorem d_Heap_change_7 : decode b_Heap_change 7 = .ok (.iload_n 1, 1) := by decide +kernel
theorem d_Heap_change_8 : decode b_Heap_change 8 = .ok (.aload_n 0, 1) := by decide +kernel
theorem d_Heap_change_9 : decode b_Heap_change 9 = .ok (.getfield 65, 3) := by decide +kernel
theorem d_Heap_change_12 : decode b_Heap_change 12 = .ok (.if_icmp .ge 27, 3) := by decide +kernel
theorem d_Heap_change_15 : decode b_Heap_change 15 = .ok (.lload_n 2, 1) := by decide +kernel
theorem d_Heap_change_16 : decode b_Heap_change 16 = .ok (.invokestatic 101, 3) := by decide +kernel
theorem d_Heap_change_19 : decode b_Heap_change 19 = .ok (.iconst 2, 1) := by decide +kernel
theorem d_Heap_change_20 : decode b_Heap_change 20 = .ok (.if_icmp .lt 19, 3) := by decide +kernel
theorem d_Heap_change_23 : decode b_Heap_change 23 = .ok (.lload_n 2, 1) := by decide +kernel
theorem d_Heap_change_24 : decode b_Heap_change 24 = .ok (.invokestatic 105, 3) := by decide +kernel
theorem d_Heap_change_27 : decode b_Heap_change 27 = .ok (.aload_n 0, 1) := by decide +kernel
theorem d_Heap_change_28 : decode b_Heap_change 28 = .ok (.getfield 65, 3) := by decide +kernel
theorem d_Heap_change_31 : decode b_Heap_change 31 = .ok (.if_icmp .lt 8, 3) := by decide +kernel
theorem d_Heap_change_34 : decode b_Heap_change 34 = .ok (.aload_n 0, 1) := by decide +kernel
theorem d_Heap_change_35 : decode b_Heap_change 35 = .ok (.iconst 1, 1) := by decide +kernel
theorem d_Heap_change_36 : decode b_Heap_change 36 = .ok (.putfield 61, 3) := by decide +kernel
theorem d_Heap_change_39 : decode b_Heap_change 39 = .ok (.return_, 1) := by decide +kernel
theorem d_Heap_byteAt_0 : decode b_Heap_byteAt 0 = .ok (.aload_n 0, 1) := by decide +kernel
theorem d_Heap_byteAt_1 : decode b_Heap_byteAt 1 = .ok (.getfield 15, 3) := by decide +kernel
theorem d_Heap_byteAt_4 : decode b_Heap_byteAt 4 = .ok (.iload_n 1, 1) := by decide +kernel
theorem d_Heap_byteAt_5 : decode b_Heap_byteAt 5 = .ok (.iconst 1, 1) := by decide +kernel
theorem d_Heap_byteAt_6 : decode b_Heap_byteAt 6 = .ok (.iadd, 1) := by decide +kernel
theorem d_Heap_byteAt_7 : decode b_Heap_byteAt 7 = .ok (.iload_n 2, 1) := by decide +kernel
theorem d_Heap_byteAt_8 : decode b_Heap_byteAt 8 = .ok (.iconst 4, 1) := by decide +kernel
theorem d_Heap_byteAt_9 : decode b_Heap_byteAt 9 = .ok (.idiv, 1) := by decide +kernel
theorem d_Heap_byteAt_10 : decode b_Heap_byteAt 10 = .ok (.iadd, 1) := by decide +kernel
theorem d_Heap_byteAt_11 : decode b_Heap_byteAt 11 = .ok (.laload, 1) := by decide +kernel
theorem d_Heap_byteAt_12 : decode b_Heap_byteAt 12 = .ok (.bipush 24, 2) := by decide +kernel
theorem d_Heap_byteAt_14 : decode b_Heap_byteAt 14 = .ok (.bipush 8, 2) := by decide +kernel
theorem d_Heap_byteAt_16 : decode b_Heap_byteAt 16 = .ok (.iload_n 2, 1) := by decide +kernel
theorem d_Heap_byteAt_17 : decode b_Heap_byteAt 17 = .ok (.iconst 4, 1) := by decide +kernel
theorem d_Heap_byteAt_18 : decode b_Heap_byteAt 18 = .ok (.irem, 1) := by decide +kernel
theorem d_Heap_byteAt_19 : decode b_Heap_byteAt 19 = .ok (.imul, 1) := by decide +kernel
theorem d_Heap_byteAt_20 : decode b_Heap_byteAt 20 = .ok (.isub, 1) := by decide +kernel
theorem d_Heap_byteAt_21 : decode b_Heap_byteAt 21 = .ok (.lushr, 1) := by decide +kernel
theorem d_Heap_byteAt_22 : decode b_Heap_byteAt 22 = .ok (.l2i, 1) := by decide +kernel
theorem d_Heap_byteAt_23 : decode b_Heap_byteAt 23 = .ok (.sipush 255, 3) := by decide +kernel
theorem d_Heap_byteAt_26 : decode b_Heap_byteAt 26 = .ok (.iand, 1) := by decide +kernel
theorem d_Heap_byteAt_27 : decode b_Heap_byteAt 27 = .ok (.ireturn, 1) := by decide +kernel
theorem d_Heap_find_0 : decode b_Heap_find 0 = .ok (.iload_n 1, 1) := by decide +kernel
theorem d_Heap_find_1 : decode b_Heap_find 1 = .ok (.iconst (-1), 1) := by decide +kernel
theorem d_Heap_find_2 : decode b_Heap_find 2 = .ok (.if_icmp .lt 10, 3) := by decide +kernel
theorem d_Heap_find_5 : decode b_Heap_find 5 = .ok (.iload_n 1, 1) := by decide +kernel
theorem d_Heap_find_6 : decode b_Heap_find 6 = .ok (.sipush 2048, 3) := by decide +kernel
theorem d_Heap_find_9 : decode b_Heap_find 9 = .ok (.if_icmp .lt 7, 3) := by decide +kernel
theorem d_Heap_find_12 : decode b_Heap_find 12 = .ok (.ldc2_w 154, 3) := by decide +kernel
theorem d_Heap_find_15 : decode b_Heap_find 15 = .ok (.lreturn, 1) := by decide +kernel
theorem d_Heap_find_16 : decode b_Heap_find 16 = .ok (.aload_n 0, 1) := by decide +kernel
theorem d_Heap_find_17 : decode b_Heap_find 17 = .ok (.getfield 11, 3) := by decide +kernel
theorem d_Heap_find_20 : decode b_Heap_find 20 = .ok (.iload_n 1, 1) := by decide +kernel
theorem d_Heap_find_21 : decode b_Heap_find 21 = .ok (.iconst (-1), 1) := by decide +kernel
theorem d_Heap_find_22 : decode b_Heap_find 22 = .ok (.if_icmp .ne 9, 3) := by decide +kernel
theorem d_Heap_find_25 : decode b_Heap_find 25 = .ok (.sipush 2048, 3) := by decide +kernel
theorem d_Heap_find_28 : decode b_Heap_find 28 = .ok (.goto 4, 3) := by decide +kernel
theorem d_Heap_find_31 : decode b_Heap_find 31 = .ok (.iload_n 1, 1) := by decide +kernel
theorem d_Heap_find_32 : decode b_Heap_find 32 = .ok (.laload, 1) := by decide +kernel
theorem d_Heap_find_33 : decode b_Heap_find 33 = .ok (.lstore 4, 2) := by decide +kernel
theorem d_Heap_find_35 : decode b_Heap_find 35 = .ok (.iconst 0, 1) := by decide +kernel
theorem d_Heap_find_36 : decode b_Heap_find 36 = .ok (.istore 6, 2) := by decide +kernel
theorem d_Heap_find_38 : decode b_Heap_find 38 = .ok (.iload 6, 2) := by decide +kernel
theorem d_Heap_find_40 : decode b_Heap_find 40 = .ok (.bipush 8, 2) := by decide +kernel
theorem d_Heap_find_42 : decode b_Heap_find 42 = .ok (.if_icmp .ge 61, 3) := by decide +kernel
theorem d_Heap_find_45 : decode b_Heap_find 45 = .ok (.lload_n 2, 1) := by decide +kernel
theorem d_Heap_find_46 : decode b_Heap_find 46 = .ok (.bipush 8, 2) := by decide +kernel
theorem d_Heap_find_48 : decode b_Heap_find 48 = .ok (.iload 6, 2) := by decide +kernel
theorem d_Heap_find_50 : decode b_Heap_find 50 = .ok (.imul, 1) := by decide +kernel
theorem d_Heap_find_51 : decode b_Heap_find 51 = .ok (.lushr, 1) := by decide +kernel
theorem d_Heap_find_52 : decode b_Heap_find 52 = .ok (.l2i, 1) := by decide +kernel
theorem d_Heap_find_53 : decode b_Heap_find 53 = .ok (.sipush 255, 3) := by decide +kernel
theorem d_Heap_find_56 : decode b_Heap_find 56 = .ok (.iand, 1) := by decide +kernel
theorem d_Heap_find_57 : decode b_Heap_find 57 = .ok (.istore 7, 2) := by decide +kernel
theorem d_Heap_find_59 : decode b_Heap_find 59 = .ok (.iload 7, 2) := by decide +kernel
theorem d_Heap_find_61 : decode b_Heap_find 61 = .ok (.ifCond .ne 6, 3) := by decide +kernel
theorem d_Heap_find_64 : decode b_Heap_find 64 = .ok (.lload 4, 2) := by decide +kernel
theorem d_Heap_find_66 : decode b_Heap_find 66 = .ok (.lreturn, 1) := by decide +kernel
theorem d_Heap_find_67 : decode b_Heap_find 67 = .ok (.iload 7, 2) := by decide +kernel
theorem d_Heap_find_69 : decode b_Heap_find 69 = .ok (.aload_n 0, 1) := by decide +kernel
theorem d_Heap_find_70 : decode b_Heap_find 70 = .ok (.lload 4, 2) := by decide +kernel
theorem d_Heap_find_72 : decode b_Heap_find 72 = .ok (.invokevirtual 156, 3) := by decide +kernel
theorem d_Heap_find_75 : decode b_Heap_find 75 = .ok (.if_icmp .le 7, 3) := by decide +kernel
theorem d_Heap_find_78 : decode b_Heap_find 78 = .ok (.ldc2_w 154, 3) := by decide +kernel
theorem d_Heap_find_81 : decode b_Heap_find 81 = .ok (.lreturn, 1) := by decide +kernel
theorem d_Heap_find_82 : decode b_Heap_find 82 = .ok (.aload_n 0, 1) := by decide +kernel
theorem d_Heap_find_83 : decode b_Heap_find 83 = .ok (.getfield 15, 3) := by decide +kernel
theorem d_Heap_find_86 : decode b_Heap_find 86 = .ok (.lload 4, 2) := by decide +kernel
theorem d_Heap_find_88 : decode b_Heap_find 88 = .ok (.invokestatic 105, 3) := by decide +kernel
theorem d_Heap_find_91 : decode b_Heap_find 91 = .ok (.iload 7, 2) := by decide +kernel
theorem d_Heap_find_93 : decode b_Heap_find 93 = .ok (.iadd, 1) := by decide +kernel
theorem d_Heap_find_94 : decode b_Heap_find 94 = .ok (.laload, 1) := by decide +kernel
theorem d_Heap_find_95 : decode b_Heap_find 95 = .ok (.lstore 4, 2) := by decide +kernel
theorem d_Heap_find_97 : decode b_Heap_find 97 = .ok (.iinc 6 1, 3) := by decide +kernel
theorem d_Heap_find_100 : decode b_Heap_find 100 = .ok (.goto (-62), 3) := by decide +kernel
theorem d_Heap_find_103 : decode b_Heap_find 103 = .ok (.lload 4, 2) := by decide +kernel
theorem d_Heap_find_105 : decode b_Heap_find 105 = .ok (.lreturn, 1) := by decide +kernel
theorem d_Heap_bringBack_0 : decode b_Heap_bringBack 0 = .ok (.aload_n 0, 1) := by decide +kernel
theorem d_Heap_bringBack_1 : decode b_Heap_bringBack 1 = .ok (.getfield 33, 3) := by decide +kernel
theorem d_Heap_bringBack_4 : decode b_Heap_bringBack 4 = .ok (.iconst 0, 1) := by decide +kernel
theorem d_Heap_bringBack_5 : decode b_Heap_bringBack 5 = .ok (.aload_n 0, 1) := by decide +kernel
theorem d_Heap_bringBack_6 : decode b_Heap_bringBack 6 = .ok (.getfield 11, 3) := by decide +kernel
theorem d_Heap_bringBack_9 : decode b_Heap_bringBack 9 = .ok (.iconst 0, 1) := by decide +kernel
theorem d_Heap_bringBack_10 : decode b_Heap_bringBack 10 = .ok (.sipush 2048, 3) := by decide +kernel
theorem d_Heap_bringBack_13 : decode b_Heap_bringBack 13 = .ok (.invokestatic 142, 3) := by decide +kernel
theorem d_Heap_bringBack_16 : decode b_Heap_bringBack 16 = .ok (.aload_n 0, 1) := by decide +kernel
theorem d_Heap_bringBack_17 : decode b_Heap_bringBack 17 = .ok (.aload_n 0, 1) := by decide +kernel
theorem d_Heap_bringBack_18 : decode b_Heap_bringBack 18 = .ok (.getfield 151, 3) := by decide +kernel
theorem d_Heap_bringBack_21 : decode b_Heap_bringBack 21 = .ok (.putfield 43, 3) := by decide +kernel
theorem d_Heap_bringBack_24 : decode b_Heap_bringBack 24 = .ok (.aload_n 0, 1) := by decide +kernel
theorem d_Heap_bringBack_25 : decode b_Heap_bringBack 25 = .ok (.getfield 11, 3) := by decide +kernel
theorem d_Heap_bringBack_28 : decode b_Heap_bringBack 28 = .ok (.sipush 2048, 3) := by decide +kernel
theorem d_Heap_bringBack_31 : decode b_Heap_bringBack 31 = .ok (.lconst 0, 1) := by decide +kernel
theorem d_Heap_bringBack_32 : decode b_Heap_bringBack 32 = .ok (.lastore, 1) := by decide +kernel
theorem d_Heap_bringBack_33 : decode b_Heap_bringBack 33 = .ok (.aload_n 0, 1) := by decide +kernel
theorem d_Heap_bringBack_34 : decode b_Heap_bringBack 34 = .ok (.getfield 36, 3) := by decide +kernel
theorem d_Heap_bringBack_37 : decode b_Heap_bringBack 37 = .ok (.iconst 0, 1) := by decide +kernel
theorem d_Heap_bringBack_38 : decode b_Heap_bringBack 38 = .ok (.aload_n 0, 1) := by decide +kernel
theorem d_Heap_bringBack_39 : decode b_Heap_bringBack 39 = .ok (.getfield 15, 3) := by decide +kernel
theorem d_Heap_bringBack_42 : decode b_Heap_bringBack 42 = .ok (.iconst 0, 1) := by decide +kernel
theorem d_Heap_bringBack_43 : decode b_Heap_bringBack 43 = .ok (.aload_n 0, 1) := by decide +kernel
theorem d_Heap_bringBack_44 : decode b_Heap_bringBack 44 = .ok (.getfield 148, 3) := by decide +kernel
theorem d_Heap_bringBack_47 : decode b_Heap_bringBack 47 = .ok (.invokestatic 142, 3) := by decide +kernel
theorem d_Heap_bringBack_50 : decode b_Heap_bringBack 50 = .ok (.aload_n 0, 1) := by decide +kernel
theorem d_Heap_bringBack_51 : decode b_Heap_bringBack 51 = .ok (.aload_n 0, 1) := by decide +kernel
theorem d_Heap_bringBack_52 : decode b_Heap_bringBack 52 = .ok (.getfield 148, 3) := by decide +kernel
theorem d_Heap_bringBack_55 : decode b_Heap_bringBack 55 = .ok (.putfield 58, 3) := by decide +kernel
theorem d_Heap_bringBack_58 : decode b_Heap_bringBack 58 = .ok (.aload_n 0, 1) := by decide +kernel
theorem d_Heap_bringBack_59 : decode b_Heap_bringBack 59 = .ok (.iconst 0, 1) := by decide +kernel
theorem d_Heap_bringBack_60 : decode b_Heap_bringBack 60 = .ok (.putfield 55, 3) := by decide +kernel
theorem d_Heap_bringBack_63 : decode b_Heap_bringBack 63 = .ok (.aload_n 0, 1) := by decide +kernel
theorem d_Heap_bringBack_64 : decode b_Heap_bringBack 64 = .ok (.aload_n 0, 1) := by decide +kernel
theorem d_Heap_bringBack_65 : decode b_Heap_bringBack 65 = .ok (.getfield 148, 3) := by decide +kernel
theorem d_Heap_bringBack_68 : decode b_Heap_bringBack 68 = .ok (.putfield 65, 3) := by decide +kernel
theorem d_Heap_bringBack_71 : decode b_Heap_bringBack 71 = .ok (.aload_n 0, 1) := by decide +kernel
theorem d_Heap_bringBack_72 : decode b_Heap_bringBack 72 = .ok (.iconst 0, 1) := by decide +kernel
theorem d_Heap_bringBack_73 : decode b_Heap_bringBack 73 = .ok (.putfield 61, 3) := by decide +kernel
theorem d_Heap_bringBack_76 : decode b_Heap_bringBack 76 = .ok (.aload_n 0, 1) := by decide +kernel
theorem d_Heap_bringBack_77 : decode b_Heap_bringBack 77 = .ok (.getfield 148, 3) := by decide +kernel
theorem d_Heap_bringBack_80 : decode b_Heap_bringBack 80 = .ok (.ireturn, 1) := by decide +kernel
theorem k111 : Cond.fieldLink R_Heap 18 "CellEngine$Heap" "spare" "[J" ∈ lw_g := kg (List.mem_append_right _ (List.mem_of_getElem? (i := 150) (by decide +kernel))) rfl
theorem k112 : Cond.fieldLink R_Heap 15 "CellEngine$Heap" "cells" "[J" ∈ lw_g := kg (List.mem_append_right _ (List.mem_of_getElem? (i := 145) (by decide +kernel))) rfl
theorem k113 : Cond.fieldLink R_Heap 108 "CellEngine$Heap" "spareUsed" "I" ∈ lw_g := kg (List.mem_append_right _ (List.mem_of_getElem? (i := 151) (by decide +kernel))) rfl
theorem k114 : Cond.fieldLink R_Heap 58 "CellEngine$Heap" "used" "I" ∈ lw_g := kg (List.mem_append_right _ (List.mem_of_getElem? (i := 149) (by decide +kernel))) rfl
theorem k115 : Cond.fieldLink R_Heap 55 "CellEngine$Heap" "fresh" "I" ∈ lw_g := kg (List.mem_append_right _ (List.mem_of_getElem? (i := 158) (by decide +kernel))) rfl
theorem k116 : Cond.fieldLink R_Heap 65 "CellEngine$Heap" "old" "I" ∈ lw_g := kg (List.mem_append_right _ (List.mem_of_getElem? (i := 152) (by decide +kernel))) rfl
theorem k117 : Cond.fieldLink R_Heap 61 "CellEngine$Heap" "oldLeadsToNew" "Z" ∈ lw_g := kg (List.mem_append_right _ (List.mem_of_getElem? (i := 153) (by decide +kernel))) rfl
theorem k118 : Cond.methodLink R_Heap 142 y_System_arraycopy ∈ lw_g := kg (List.mem_append_right _ (List.mem_of_getElem? (i := 527) (by decide +kernel))) rfl
theorem k119 : Cond.code y_Value_cellsOfString b_Value_cellsOfString 1 (some .int) ∈ lw_g := kg (List.mem_append_right _ (List.mem_of_getElem? (i := 505) (by decide +kernel))) rfl
theorem k120 : Cond.methodLink R_Heap 83 y_Value_cellsOfString ∈ lw_g := kg (List.mem_append_right _ (List.mem_of_getElem? (i := 534) (by decide +kernel))) rfl
theorem k121 : Cond.static y_Value_cellsOfString ∈ lw_g := kg (List.mem_append_right _ (List.mem_of_getElem? (i := 504) (by decide +kernel))) rfl
theorem k122 : Cond.initialized R_Value ∈ lw_g := kg (List.mem_append_right _ (List.mem_of_getElem? (i := 15) (by decide +kernel))) rfl
theorem k123 : Cond.code y_Value_head b_Value_head 3 (some .long) ∈ lw_g := kg (List.mem_append_right _ (List.mem_of_getElem? (i := 537) (by decide +kernel))) rfl
theorem k124 : Cond.methodLink R_Heap 89 y_Value_head ∈ lw_g := kg (List.mem_append_right _ (List.mem_of_getElem? (i := 535) (by decide +kernel))) rfl
theorem k125 : Cond.static y_Value_head ∈ lw_g := kg (List.mem_append_right _ (List.mem_of_getElem? (i := 536) (by decide +kernel))) rfl
theorem k126 : Cond.code y_Heap_lay b_Heap_lay 5 (some .int) ∈ lw_g := kg (List.mem_append_right _ (List.mem_of_getElem? (i := 542) (by decide +kernel))) rfl
theorem k127 : Cond.methodLink R_Heap 93 y_Heap_lay ∈ lw_g := kg (List.mem_append_right _ (List.mem_of_getElem? (i := 539) (by decide +kernel))) rfl
theorem k128 : Cond.instanceMethod y_Heap_lay ∈ lw_g := kg (List.mem_append_right _ (List.mem_of_getElem? (i := 540) (by decide +kernel))) rfl
theorem k129 : Cond.selects R_Heap y_Heap_lay y_Heap_lay ∈ lw_g := kg (List.mem_append_right _ (List.mem_of_getElem? (i := 541) (by decide +kernel))) rfl
theorem k130 : Cond.initialized R_Heap ∈ lw_g := kg (List.mem_append_right _ (List.mem_of_getElem? (i := 5) (by decide +kernel))) rfl
theorem k131 : Cond.code y_Arrays_fill b_Arrays_fill 6 none ∈ lw_g := kg (List.mem_append_right _ (List.mem_of_getElem? (i := 545) (by decide +kernel))) rfl
theorem k132 : Cond.methodLink R_Heap 97 y_Arrays_fill ∈ lw_g := kg (List.mem_append_right _ (List.mem_of_getElem? (i := 543) (by decide +kernel))) rfl
theorem k133 : Cond.static y_Arrays_fill ∈ lw_g := kg (List.mem_append_right _ (List.mem_of_getElem? (i := 544) (by decide +kernel))) rfl
theorem k134 : Cond.code y_Value_kind b_Value_kind 2 (some .int) ∈ lw_g := kg (List.mem_append_right _ (List.mem_of_getElem? (i := 581) (by decide +kernel))) rfl
theorem k135 : Cond.methodLink R_Heap 101 y_Value_kind ∈ lw_g := kg (List.mem_append_right _ (List.mem_of_getElem? (i := 586) (by decide +kernel))) rfl
theorem k136 : Cond.static y_Value_kind ∈ lw_g := kg (List.mem_append_right _ (List.mem_of_getElem? (i := 580) (by decide +kernel))) rfl
theorem k137 : Cond.code y_Value_number b_Value_number 2 (some .int) ∈ lw_g := kg (List.mem_append_right _ (List.mem_of_getElem? (i := 589) (by decide +kernel))) rfl
theorem k138 : Cond.methodLink R_Heap 105 y_Value_number ∈ lw_g := kg (List.mem_append_right _ (List.mem_of_getElem? (i := 587) (by decide +kernel))) rfl
theorem k139 : Cond.static y_Value_number ∈ lw_g := kg (List.mem_append_right _ (List.mem_of_getElem? (i := 588) (by decide +kernel))) rfl
theorem k140 : Cond.code y_Heap_sizeOf b_Heap_sizeOf 4 (some .int) ∈ lw_g := kg (List.mem_append_right _ (List.mem_of_getElem? (i := 522) (by decide +kernel))) rfl
theorem k141 : Cond.methodLink R_Heap 129 y_Heap_sizeOf ∈ lw_g := kg (List.mem_append_right _ (List.mem_of_getElem? (i := 519) (by decide +kernel))) rfl
theorem k142 : Cond.instanceMethod y_Heap_sizeOf ∈ lw_g := kg (List.mem_append_right _ (List.mem_of_getElem? (i := 520) (by decide +kernel))) rfl
theorem k143 : Cond.selects R_Heap y_Heap_sizeOf y_Heap_sizeOf ∈ lw_g := kg (List.mem_append_right _ (List.mem_of_getElem? (i := 521) (by decide +kernel))) rfl
theorem k144 : Cond.fieldLink R_Heap 11 "CellEngine$Heap" "globals" "[J" ∈ lw_g := kg (List.mem_append_right _ (List.mem_of_getElem? (i := 141) (by decide +kernel))) rfl
theorem k145 : Cond.fieldLink R_Heap 43 "CellEngine$Heap" "globalsUsed" "I" ∈ lw_g := kg (List.mem_append_right _ (List.mem_of_getElem? (i := 144) (by decide +kernel))) rfl
theorem k146 : Cond.methodLink R_Heap 46 y_Math_max ∈ lw_g := kg (List.mem_append_right _ (List.mem_of_getElem? (i := 607) (by decide +kernel))) rfl
theorem k147 : Cond.constantLong R_Heap 154 (-9223372036854775808) ∈ lw_g := kg (List.mem_append_right _ (List.mem_of_getElem? (i := 944) (by decide +kernel))) rfl
theorem k148 : Cond.code y_Heap_parts b_Heap_parts 4 (some .int) ∈ lw_g := kg (List.mem_append_right _ (List.mem_of_getElem? (i := 585) (by decide +kernel))) rfl
theorem k149 : Cond.methodLink R_Heap 156 y_Heap_parts ∈ lw_g := kg (List.mem_append_right _ (List.mem_of_getElem? (i := 945) (by decide +kernel))) rfl
theorem k150 : Cond.instanceMethod y_Heap_parts ∈ lw_g := kg (List.mem_append_right _ (List.mem_of_getElem? (i := 583) (by decide +kernel))) rfl
theorem k151 : Cond.selects R_Heap y_Heap_parts y_Heap_parts ∈ lw_g := kg (List.mem_append_right _ (List.mem_of_getElem? (i := 584) (by decide +kernel))) rfl
theorem k152 : Cond.fieldLink R_Heap 33 "CellEngine$Heap" "keptGlobals" "[J" ∈ lw_g := kg (List.mem_append_right _ (List.mem_of_getElem? (i := 168) (by decide +kernel))) rfl
theorem k153 : Cond.fieldLink R_Heap 151 "CellEngine$Heap" "keptGlobalsUsed" "I" ∈ lw_g := kg (List.mem_append_right _ (List.mem_of_getElem? (i := 169) (by decide +kernel))) rfl
theorem k154 : Cond.fieldLink R_Heap 36 "CellEngine$Heap" "keptCells" "[J" ∈ lw_g := kg (List.mem_append_right _ (List.mem_of_getElem? (i := 170) (by decide +kernel))) rfl
theorem k155 : Cond.fieldLink R_Heap 148 "CellEngine$Heap" "kept" "I" ∈ lw_g := kg (List.mem_append_right _ (List.mem_of_getElem? (i := 171) (by decide +kernel))) rfl
set_option maxHeartbeats 4000000 in
set_option maxRecDepth 100000 in
theorem c_Heap_sizeOf (l : Launch) (dC : Nat → ClassId) (dI : Nat → Nat → Nat) (N : Nat) (o_Heap : Nat) (o_Stacks : Nat) (r_H_globals : Nat) (r_H_cells : Nat) (r_H_spare : Nat) (r_H_keptGlobals : Nat) (r_H_keptCells : Nat) (H_globalsUsed : Int32) (H_used : Int32) (H_spareUsed : Int32) (H_old : Int32) (H_oldLeadsToNew : Int32) (H_limit : Int32) (H_every : Int32) (H_fresh : Int32) (H_made : Int32) (H_madeLimit : Int32) (H_reachedFromGlobals : Int32) (H_reachedInAll : Int32) (H_keptGlobalsUsed : Int32) (H_kept : Int32) (p0 : Int64) (z : Int32) (h : m_Heap_sizeOf N H_globalsUsed H_used H_spareUsed H_old H_oldLeadsToNew H_limit H_every H_fresh H_made H_madeLimit H_reachedFromGlobals H_reachedInAll H_keptGlobalsUsed H_kept p0 = some z) : Met l y_Heap_sizeOf (.code y_Heap_sizeOf b_Heap_sizeOf 4 (some .int) :: lw_g) ({ frames := 0, cells := 0, slots := 0, locals := 0 }) (va_Pc [.ref o_Heap, .long p0] (fun U => dz_N U ∧ va_P (dC, dI) classes [(o_Heap, .inr (3, [.ref o_Stacks, .ref r_H_globals, .int H_globalsUsed, .ref r_H_cells, .int H_used, .ref r_H_spare, .int H_spareUsed, .int H_old, .int H_oldLeadsToNew, .int H_limit, .int H_every, .int H_fresh, .int H_made, .int H_madeLimit, .int H_reachedFromGlobals, .int H_reachedInAll, .ref r_H_keptGlobals, .int H_keptGlobalsUsed, .ref r_H_keptCells, .int H_kept]))] U.heap ∧ va_K (dC, dI) classes [] U)) (vp_Si (fun r => r = z)) 0 0 (fun _ => False) := by
  refine Met.ofW (cc := b_Heap_sizeOf) (maxL := 4) (ret := (some .int)) (by decide +kernel) rfl ?_
  intro p e s m args below meth c s₁ B hml hv
  obtain ⟨rfl, hN, hP, hK⟩ := hv
  have hx := B.exec
  have hb := B.bytes
  have hr := B.returns
  have hg : ∀ w ∈ lw_g, w.before _ s = true := fun w hw => atoms_spec (ws := .code y_Heap_sizeOf b_Heap_sizeOf 4 (some .int) :: lw_g) B.pre w (List.mem_cons_of_mem _ hw)
  have hown : s.vm.findClass R_Heap = some m.cls := findClass_of_methodNamed B.named
  have hlocks := B.notSynchronized
  clear B
  have hP : va_P (dC, dI) classes [(o_Heap, .inr (3, [.ref o_Stacks, .ref r_H_globals, .int H_globalsUsed, .ref r_H_cells, .int H_used, .ref r_H_spare, .int H_spareUsed, .int H_old, .int H_oldLeadsToNew, .int H_limit, .int H_every, .int H_fresh, .int H_made, .int H_madeLimit, .int H_reachedFromGlobals, .int H_reachedInAll, .ref r_H_keptGlobals, .int H_keptGlobalsUsed, .ref r_H_keptCells, .int H_kept]))] s.heap := hP
  have hl := lv_entry ([.ref o_Heap, .long p0]) (n := 4) (Nat.le_of_ble_eq_true rfl)
  rw [lg_entry_eq]
  generalize (lg_sl ([.ref o_Heap, .long p0]) ++ List.replicate (4 - (lg_sl ([.ref o_Heap, .long p0])).length) Slot.unset).toArray = ls at hl ⊢
  have hl : lv_has ls 4 [(0, .ref o_Heap), (1, .long p0)] := hl
  unfold m_Heap_sizeOf at h
  refine lv_lload_n hx hb d_Heap_sizeOf_0 rfl (lv_at hl 1 rfl) ?_
  refine lv_l2i (v := p0.toInt32) hx hb d_Heap_sizeOf_1 rfl ?_
  refine lv_bipush (v := 7) hx hb d_Heap_sizeOf_2 (by decide) ?_
  refine lv_iand hx hb d_Heap_sizeOf_4 ?_
  refine lv_istore_n (lv' := [(3, .int (p0.toInt32 &&& 7)), (0, .ref o_Heap), (1, .long p0)]) hx hb d_Heap_sizeOf_5 rfl hl (by decide) rfl (fun ls hl => ?_)
  refine lv_iload_n hx hb d_Heap_sizeOf_6 rfl (lv_at hl 0 rfl) ?_
  refine lv_bipush (v := 6) hx hb d_Heap_sizeOf_7 (by decide) ?_
  refine lv_icmp_ne (tgt := 25) hx hb d_Heap_sizeOf_9 (by decide) (fun c1 => ?_) (fun c1 => ?_)
  · rw [if_neg c1] at h
    refine lv_iload_n hx hb d_Heap_sizeOf_25 rfl (lv_at hl 0 rfl) ?_
    refine lv_bipush (v := 7) hx hb d_Heap_sizeOf_26 (by decide) ?_
    refine lv_icmp_ne (tgt := 35) hx hb d_Heap_sizeOf_28 (by decide) (fun c2 => ?_) (fun c2 => ?_)
    · rw [if_neg c2] at h
      refine lv_iconst (v := 1) hx hb d_Heap_sizeOf_35 (by decide) ?_
      refine lv_lload_n hx hb d_Heap_sizeOf_36 rfl (lv_at hl 2 rfl) ?_
      refine lv_bipush (v := 35) hx hb d_Heap_sizeOf_37 (by decide) ?_
      refine lv_lushr (v := (p0.toUInt64 >>> ((35 : Int32).toInt64.toUInt64 &&& Int64.toUInt64 63)).toInt64) hx hb d_Heap_sizeOf_39 rfl ?_
      obtain ⟨x3, ex3, h⟩ := dz_lt h
      refine dz_topl ex3 ?_
      refine lv_l2i (v := x3.toInt32) hx hb d_Heap_sizeOf_40 rfl ?_
      refine lv_iadd hx hb d_Heap_sizeOf_41 ?_
      obtain rfl := Option.some.inj h
      exact W.iret (v := 1 + x3.toInt32) hx hb hr (fun t ht hW => ⟨_, rfl, rfl, ht⟩) (fun _ h => by cases h) d_Heap_sizeOf_42
    · rw [if_pos c2] at h
      refine lv_iconst (v := 2) hx hb d_Heap_sizeOf_31 (by decide) ?_
      refine lv_goto (tgt := 42) hx hb d_Heap_sizeOf_32 (by decide) ?_
      obtain rfl := Option.some.inj h
      exact W.iret (v := 2) hx hb hr (fun t ht hW => ⟨_, rfl, rfl, ht⟩) (fun _ h => by cases h) d_Heap_sizeOf_42
  · rw [if_pos c1] at h
    refine lv_iconst (v := 1) hx hb d_Heap_sizeOf_12 (by decide) ?_
    refine lv_lload_n hx hb d_Heap_sizeOf_13 rfl (lv_at hl 2 rfl) ?_
    refine lv_iconst (v := 3) hx hb d_Heap_sizeOf_14 (by decide) ?_
    refine lv_lshr (v := p0 >>> ((3 : Int32).toInt64 &&& 63)) hx hb d_Heap_sizeOf_15 rfl ?_
    refine lv_l2i (v := (p0 >>> ((3 : Int32).toInt64 &&& 63)).toInt32) hx hb d_Heap_sizeOf_16 rfl ?_
    refine lv_iconst (v := 3) hx hb d_Heap_sizeOf_17 (by decide) ?_
    refine lv_iadd hx hb d_Heap_sizeOf_18 ?_
    refine lv_iconst (v := 4) hx hb d_Heap_sizeOf_19 (by decide) ?_
    refine lv_idiv hx hb d_Heap_sizeOf_20 (by decide) ?_
    refine lv_iadd hx hb d_Heap_sizeOf_21 ?_
    refine lv_goto (tgt := 42) hx hb d_Heap_sizeOf_22 (by decide) ?_
    obtain rfl := Option.some.inj h
    exact W.iret (v := 1 + ((((p0 >>> ((3 : Int32).toInt64 &&& 63)).toInt32) + 3) / 4)) hx hb hr (fun t ht hW => ⟨_, rfl, rfl, ht⟩) (fun _ h => by cases h) d_Heap_sizeOf_42

set_option maxHeartbeats 4000000 in
set_option maxRecDepth 100000 in
theorem c_Heap_moveBack (l : Launch) (dC : Nat → ClassId) (dI : Nat → Nat → Nat) (N : Nat) (cL : ClassId) (o_Heap : Nat) (o_Stacks : Nat) (r_H_globals : Nat) (r_H_cells : Nat) (r_H_spare : Nat) (r_H_keptGlobals : Nat) (r_H_keptCells : Nat) (H_globalsUsed : Int32) (H_used : Int32) (H_spareUsed : Int32) (H_old : Int32) (H_oldLeadsToNew : Int32) (H_limit : Int32) (H_every : Int32) (H_fresh : Int32) (H_made : Int32) (H_madeLimit : Int32) (H_reachedFromGlobals : Int32) (H_reachedInAll : Int32) (H_keptGlobalsUsed : Int32) (H_kept : Int32) (n_H_cells : Nat) (f_H_cells : Nat → Int64) (n_H_spare : Nat) (f_H_spare : Nat → Int64) (p0 : Int32) (sz : Nat) (z : (Nat → Int64) × Int32 × Int32 × Int32 × Int32) (h : m_Heap_moveBack N H_globalsUsed H_used H_spareUsed H_old H_oldLeadsToNew H_limit H_every H_fresh H_made H_madeLimit H_reachedFromGlobals H_reachedInAll H_keptGlobalsUsed H_kept n_H_cells f_H_cells n_H_spare f_H_spare p0 = some z) : Met l y_Heap_moveBack (.code y_Heap_moveBack b_Heap_moveBack 2 none :: lw_g) ({ frames := 1, cells := 0, slots := 0, locals := 60 }) (va_Pc [.ref o_Heap, .int p0] (fun U => dz_N U ∧ U.heap.size = sz ∧ va_P (dC, dI) classes [(o_Heap, .inr (3, [.ref o_Stacks, .ref r_H_globals, .int H_globalsUsed, .ref r_H_cells, .int H_used, .ref r_H_spare, .int H_spareUsed, .int H_old, .int H_oldLeadsToNew, .int H_limit, .int H_every, .int H_fresh, .int H_made, .int H_madeLimit, .int H_reachedFromGlobals, .int H_reachedInAll, .ref r_H_keptGlobals, .int H_keptGlobalsUsed, .ref r_H_keptCells, .int H_kept])), (r_H_cells, .inl (cL, n_H_cells, .inr (.inl f_H_cells))), (r_H_spare, .inl (cL, n_H_spare, .inr (.inl f_H_spare)))] U.heap ∧ va_K (dC, dI) classes [(cL, .long)] U ∧ va_D (fun _ => True) [(o_Heap, .inr (3, [.ref o_Stacks, .ref r_H_globals, .int H_globalsUsed, .ref r_H_cells, .int H_used, .ref r_H_spare, .int H_spareUsed, .int H_old, .int H_oldLeadsToNew, .int H_limit, .int H_every, .int H_fresh, .int H_made, .int H_madeLimit, .int H_reachedFromGlobals, .int H_reachedInAll, .ref r_H_keptGlobals, .int H_keptGlobalsUsed, .ref r_H_keptCells, .int H_kept])), (r_H_cells, .inl (cL, n_H_cells, .inr (.inl f_H_cells))), (r_H_spare, .inl (cL, n_H_spare, .inr (.inl f_H_spare)))])) (va_Qv (fun (_ : Unit) => True) (fun (u : Unit) t => va_P (dC, dI) classes [(o_Heap, .inr (3, [.ref o_Stacks, .ref r_H_globals, .int H_globalsUsed, .ref r_H_cells, .int z.2.2.2.2, .ref r_H_spare, .int H_spareUsed, .int z.2.2.1, .int z.2.2.2.1, .int H_limit, .int H_every, .int z.2.1, .int H_made, .int H_madeLimit, .int H_reachedFromGlobals, .int H_reachedInAll, .ref r_H_keptGlobals, .int H_keptGlobalsUsed, .ref r_H_keptCells, .int H_kept])), (r_H_cells, .inl (cL, n_H_cells, .inr (.inl z.1))), (r_H_spare, .inl (cL, n_H_spare, .inr (.inl f_H_spare)))] t.heap ∧ va_K (dC, dI) classes [(cL, .long)] t ∧ va_D (va_A [(o_Heap, .inr (3, [.ref o_Stacks, .ref r_H_globals, .int H_globalsUsed, .ref r_H_cells, .int H_used, .ref r_H_spare, .int H_spareUsed, .int H_old, .int H_oldLeadsToNew, .int H_limit, .int H_every, .int H_fresh, .int H_made, .int H_madeLimit, .int H_reachedFromGlobals, .int H_reachedInAll, .ref r_H_keptGlobals, .int H_keptGlobalsUsed, .ref r_H_keptCells, .int H_kept])), (r_H_cells, .inl (cL, n_H_cells, .inr (.inl f_H_cells))), (r_H_spare, .inl (cL, n_H_spare, .inr (.inl f_H_spare)))] sz) [(o_Heap, .inr (3, [.ref o_Stacks, .ref r_H_globals, .int H_globalsUsed, .ref r_H_cells, .int z.2.2.2.2, .ref r_H_spare, .int H_spareUsed, .int z.2.2.1, .int z.2.2.2.1, .int H_limit, .int H_every, .int z.2.1, .int H_made, .int H_madeLimit, .int H_reachedFromGlobals, .int H_reachedInAll, .ref r_H_keptGlobals, .int H_keptGlobalsUsed, .ref r_H_keptCells, .int H_kept])), (r_H_cells, .inl (cL, n_H_cells, .inr (.inl z.1))), (r_H_spare, .inl (cL, n_H_spare, .inr (.inl f_H_spare)))]) (va_A [(o_Heap, .inr (3, [.ref o_Stacks, .ref r_H_globals, .int H_globalsUsed, .ref r_H_cells, .int H_used, .ref r_H_spare, .int H_spareUsed, .int H_old, .int H_oldLeadsToNew, .int H_limit, .int H_every, .int H_fresh, .int H_made, .int H_madeLimit, .int H_reachedFromGlobals, .int H_reachedInAll, .ref r_H_keptGlobals, .int H_keptGlobalsUsed, .ref r_H_keptCells, .int H_kept])), (r_H_cells, .inl (cL, n_H_cells, .inr (.inl f_H_cells))), (r_H_spare, .inl (cL, n_H_spare, .inr (.inl f_H_spare)))] sz)) 0 0 (va_A [(o_Heap, .inr (3, [.ref o_Stacks, .ref r_H_globals, .int H_globalsUsed, .ref r_H_cells, .int H_used, .ref r_H_spare, .int H_spareUsed, .int H_old, .int H_oldLeadsToNew, .int H_limit, .int H_every, .int H_fresh, .int H_made, .int H_madeLimit, .int H_reachedFromGlobals, .int H_reachedInAll, .ref r_H_keptGlobals, .int H_keptGlobalsUsed, .ref r_H_keptCells, .int H_kept])), (r_H_cells, .inl (cL, n_H_cells, .inr (.inl f_H_cells))), (r_H_spare, .inl (cL, n_H_spare, .inr (.inl f_H_spare)))] sz) := by
  refine Met.ofW (cc := b_Heap_moveBack) (maxL := 2) (ret := none) (by decide +kernel) rfl ?_
  intro p e s m args below meth c s₁ B hml hv
  obtain ⟨rfl, hN, hsz, hP, hK, hD0⟩ := hv
  have hx := B.exec
  have hb := B.bytes
  have hr := B.returns
  have hg : ∀ w ∈ lw_g, w.before _ s = true := fun w hw => atoms_spec (ws := .code y_Heap_moveBack b_Heap_moveBack 2 none :: lw_g) B.pre w (List.mem_cons_of_mem _ hw)
  have hown : s.vm.findClass R_Heap = some m.cls := findClass_of_methodNamed B.named
  have hlocks := B.notSynchronized
  clear B
  subst hsz
  have hD := hD0.self (sz := s.heap.size)
  generalize hAe : va_A [(o_Heap, .inr (3, [.ref o_Stacks, .ref r_H_globals, .int H_globalsUsed, .ref r_H_cells, .int H_used, .ref r_H_spare, .int H_spareUsed, .int H_old, .int H_oldLeadsToNew, .int H_limit, .int H_every, .int H_fresh, .int H_made, .int H_madeLimit, .int H_reachedFromGlobals, .int H_reachedInAll, .ref r_H_keptGlobals, .int H_keptGlobalsUsed, .ref r_H_keptCells, .int H_kept])), (r_H_cells, .inl (cL, n_H_cells, .inr (.inl f_H_cells))), (r_H_spare, .inl (cL, n_H_spare, .inr (.inl f_H_spare)))] s.heap.size = A at hD ⊢
  have hA : ∀ q : Nat, s.heap.size ≤ q → A q := fun q h => by rw [← hAe]; exact Or.inr h
  have hS : va_S A s.heap s.heap [] := va_S.rf
  have hP : va_P (dC, dI) classes [(o_Heap, .inr (3, [.ref o_Stacks, .ref r_H_globals, .int H_globalsUsed, .ref r_H_cells, .int H_used, .ref r_H_spare, .int H_spareUsed, .int H_old, .int H_oldLeadsToNew, .int H_limit, .int H_every, .int H_fresh, .int H_made, .int H_madeLimit, .int H_reachedFromGlobals, .int H_reachedInAll, .ref r_H_keptGlobals, .int H_keptGlobalsUsed, .ref r_H_keptCells, .int H_kept])), (r_H_cells, .inl (cL, n_H_cells, .inr (.inl f_H_cells))), (r_H_spare, .inl (cL, n_H_spare, .inr (.inl f_H_spare)))] s.heap := hP
  have hl := lv_entry ([.ref o_Heap, .int p0]) (n := 2) (Nat.le_of_ble_eq_true rfl)
  rw [lg_entry_eq]
  generalize (lg_sl ([.ref o_Heap, .int p0]) ++ List.replicate (2 - (lg_sl ([.ref o_Heap, .int p0])).length) Slot.unset).toArray = ls at hl ⊢
  have hl : lv_has ls 2 [(0, .ref o_Heap), (1, .int p0)] := hl
  unfold m_Heap_moveBack at h
  refine lv_aload_n hx hb d_Heap_moveBack_0 rfl (lv_at hl 0 rfl) ?_
  refine va_get (D := (dC, dI)) (ci := 3) (v := .ref r_H_spare) (C := R_Heap) (T := F_Heap) (N := 20) hx hb hg i_Heap hown hK hP 0 rfl rfl 5 (by decide) (hg _ k111) (fun _ h9 => h9) rfl d_Heap_moveBack_1 ?_
  refine lv_iload_n hx hb d_Heap_moveBack_4 rfl (lv_at hl 1 rfl) ?_
  refine lv_aload_n hx hb d_Heap_moveBack_5 rfl (lv_at hl 0 rfl) ?_
  refine va_get (D := (dC, dI)) (ci := 3) (v := .ref r_H_cells) (C := R_Heap) (T := F_Heap) (N := 20) hx hb hg i_Heap hown hK hP 0 rfl rfl 3 (by decide) (hg _ k112) (fun _ h9 => h9) rfl d_Heap_moveBack_6 ?_
  refine lv_iload_n hx hb d_Heap_moveBack_9 rfl (lv_at hl 1 rfl) ?_
  refine lv_aload_n hx hb d_Heap_moveBack_10 rfl (lv_at hl 0 rfl) ?_
  refine va_get (D := (dC, dI)) (ci := 3) (v := .int H_spareUsed) (C := R_Heap) (T := F_Heap) (N := 20) hx hb hg i_Heap hown hK hP 0 rfl rfl 6 (by decide) (hg _ k113) (fun _ h9 => h9) rfl d_Heap_moveBack_11 ?_
  refine lv_iload_n hx hb d_Heap_moveBack_14 rfl (lv_at hl 1 rfl) ?_
  refine lv_isub hx hb d_Heap_moveBack_15 ?_
  obtain ⟨i1, h⟩ := dz_oi h
  refine va_copyl (D := (dC, dI)) (ty := .long) hx hb (hml.trans hl.1.symm) hown (hg _ k118) (hg _ k14) (hg _ k15) (hg _ k16) hK hP hD hS 2 1 0 0 rfl rfl rfl rfl rfl (fun q => i1 (Or.inl q)) (fun q => i1 (Or.inr (Or.inl q))) (fun q => i1 (Or.inr (Or.inr (Or.inl q)))) (Nat.not_lt.mp (fun q => i1 (Or.inr (Or.inr (Or.inr (Or.inl q)))))) (Nat.not_lt.mp (fun q => i1 (Or.inr (Or.inr (Or.inr (Or.inr q)))))) (fun _ _ => rfl) (Nat.le_of_ble_eq_true rfl) (by first | exact Nat.le_of_ble_eq_true rfl | (show _ ≤ 60; decide +kernel)) d_Heap_moveBack_16 (fun H locs hP hD hS => ?_)
  have hP : va_P (dC, dI) classes [(o_Heap, .inr (3, [.ref o_Stacks, .ref r_H_globals, .int H_globalsUsed, .ref r_H_cells, .int H_used, .ref r_H_spare, .int H_spareUsed, .int H_old, .int H_oldLeadsToNew, .int H_limit, .int H_every, .int H_fresh, .int H_made, .int H_madeLimit, .int H_reachedFromGlobals, .int H_reachedInAll, .ref r_H_keptGlobals, .int H_keptGlobalsUsed, .ref r_H_keptCells, .int H_kept])), (r_H_cells, .inl (cL, n_H_cells, .inr (.inl (va_cpy f_H_spare f_H_cells p0.toNatClampNeg p0.toNatClampNeg (H_spareUsed - p0).toNatClampNeg)))), (r_H_spare, .inl (cL, n_H_spare, .inr (.inl f_H_spare)))] H := hP
  have hD : va_D A [(o_Heap, .inr (3, [.ref o_Stacks, .ref r_H_globals, .int H_globalsUsed, .ref r_H_cells, .int H_used, .ref r_H_spare, .int H_spareUsed, .int H_old, .int H_oldLeadsToNew, .int H_limit, .int H_every, .int H_fresh, .int H_made, .int H_madeLimit, .int H_reachedFromGlobals, .int H_reachedInAll, .ref r_H_keptGlobals, .int H_keptGlobalsUsed, .ref r_H_keptCells, .int H_kept])), (r_H_cells, .inl (cL, n_H_cells, .inr (.inl (va_cpy f_H_spare f_H_cells p0.toNatClampNeg p0.toNatClampNeg (H_spareUsed - p0).toNatClampNeg)))), (r_H_spare, .inl (cL, n_H_spare, .inr (.inl f_H_spare)))] := hD
  refine lv_aload_n hx hb d_Heap_moveBack_19 rfl (lv_at hl 0 rfl) ?_
  refine lv_aload_n hx hb d_Heap_moveBack_20 rfl (lv_at hl 0 rfl) ?_
  refine va_get (D := (dC, dI)) (ci := 3) (v := .int H_spareUsed) (C := R_Heap) (T := F_Heap) (N := 20) hx hb hg i_Heap hown hK hP 0 rfl rfl 6 (by decide) (hg _ k113) (fun _ h9 => h9) rfl d_Heap_moveBack_21 ?_
  refine va_put (D := (dC, dI)) (ci := 3) (v := .int H_spareUsed) (ty := .int) (C := R_Heap) (T := F_Heap) (N := 20) hx hb hg i_Heap t_Heap t_Heap_ok n_Heap hown hK hP hD hS 0 rfl rfl 4 (by decide) (hg _ k114) (fun _ h9 => h9) rfl (by decide +kernel) rfl rfl (Nat.le_of_ble_eq_true rfl) d_Heap_moveBack_24 (fun H locs hP hD hS => ?_)
  have hP : va_P (dC, dI) classes [(o_Heap, .inr (3, [.ref o_Stacks, .ref r_H_globals, .int H_globalsUsed, .ref r_H_cells, .int H_spareUsed, .ref r_H_spare, .int H_spareUsed, .int H_old, .int H_oldLeadsToNew, .int H_limit, .int H_every, .int H_fresh, .int H_made, .int H_madeLimit, .int H_reachedFromGlobals, .int H_reachedInAll, .ref r_H_keptGlobals, .int H_keptGlobalsUsed, .ref r_H_keptCells, .int H_kept])), (r_H_cells, .inl (cL, n_H_cells, .inr (.inl (va_cpy f_H_spare f_H_cells p0.toNatClampNeg p0.toNatClampNeg (H_spareUsed - p0).toNatClampNeg)))), (r_H_spare, .inl (cL, n_H_spare, .inr (.inl f_H_spare)))] H := hP
  have hD : va_D A [(o_Heap, .inr (3, [.ref o_Stacks, .ref r_H_globals, .int H_globalsUsed, .ref r_H_cells, .int H_spareUsed, .ref r_H_spare, .int H_spareUsed, .int H_old, .int H_oldLeadsToNew, .int H_limit, .int H_every, .int H_fresh, .int H_made, .int H_madeLimit, .int H_reachedFromGlobals, .int H_reachedInAll, .ref r_H_keptGlobals, .int H_keptGlobalsUsed, .ref r_H_keptCells, .int H_kept])), (r_H_cells, .inl (cL, n_H_cells, .inr (.inl (va_cpy f_H_spare f_H_cells p0.toNatClampNeg p0.toNatClampNeg (H_spareUsed - p0).toNatClampNeg)))), (r_H_spare, .inl (cL, n_H_spare, .inr (.inl f_H_spare)))] := hD
  refine lv_aload_n hx hb d_Heap_moveBack_27 rfl (lv_at hl 0 rfl) ?_
  refine lv_iconst (v := 0) hx hb d_Heap_moveBack_28 (by decide) ?_
  refine va_put (D := (dC, dI)) (ci := 3) (v := .int 0) (ty := .int) (C := R_Heap) (T := F_Heap) (N := 20) hx hb hg i_Heap t_Heap t_Heap_ok n_Heap hown hK hP hD hS 0 rfl rfl 11 (by decide) (hg _ k115) (fun _ h9 => h9) rfl (by decide +kernel) rfl rfl (Nat.le_of_ble_eq_true rfl) d_Heap_moveBack_29 (fun H locs hP hD hS => ?_)
  have hP : va_P (dC, dI) classes [(o_Heap, .inr (3, [.ref o_Stacks, .ref r_H_globals, .int H_globalsUsed, .ref r_H_cells, .int H_spareUsed, .ref r_H_spare, .int H_spareUsed, .int H_old, .int H_oldLeadsToNew, .int H_limit, .int H_every, .int 0, .int H_made, .int H_madeLimit, .int H_reachedFromGlobals, .int H_reachedInAll, .ref r_H_keptGlobals, .int H_keptGlobalsUsed, .ref r_H_keptCells, .int H_kept])), (r_H_cells, .inl (cL, n_H_cells, .inr (.inl (va_cpy f_H_spare f_H_cells p0.toNatClampNeg p0.toNatClampNeg (H_spareUsed - p0).toNatClampNeg)))), (r_H_spare, .inl (cL, n_H_spare, .inr (.inl f_H_spare)))] H := hP
  have hD : va_D A [(o_Heap, .inr (3, [.ref o_Stacks, .ref r_H_globals, .int H_globalsUsed, .ref r_H_cells, .int H_spareUsed, .ref r_H_spare, .int H_spareUsed, .int H_old, .int H_oldLeadsToNew, .int H_limit, .int H_every, .int 0, .int H_made, .int H_madeLimit, .int H_reachedFromGlobals, .int H_reachedInAll, .ref r_H_keptGlobals, .int H_keptGlobalsUsed, .ref r_H_keptCells, .int H_kept])), (r_H_cells, .inl (cL, n_H_cells, .inr (.inl (va_cpy f_H_spare f_H_cells p0.toNatClampNeg p0.toNatClampNeg (H_spareUsed - p0).toNatClampNeg)))), (r_H_spare, .inl (cL, n_H_spare, .inr (.inl f_H_spare)))] := hD
  refine lv_iload_n hx hb d_Heap_moveBack_32 rfl (lv_at hl 1 rfl) ?_
  refine lv_if_eq (tgt := 48) hx hb d_Heap_moveBack_33 (by decide) (fun c2 => ?_) (fun c2 => ?_)
  · rw [if_pos c2] at h
    refine lv_aload_n hx hb d_Heap_moveBack_48 rfl (lv_at hl 0 rfl) ?_
    refine lv_aload_n hx hb d_Heap_moveBack_49 rfl (lv_at hl 0 rfl) ?_
    refine va_get (D := (dC, dI)) (ci := 3) (v := .int H_spareUsed) (C := R_Heap) (T := F_Heap) (N := 20) hx hb hg i_Heap hown hK hP 0 rfl rfl 4 (by decide) (hg _ k114) (fun _ h9 => h9) rfl d_Heap_moveBack_50 ?_
    refine va_put (D := (dC, dI)) (ci := 3) (v := .int H_spareUsed) (ty := .int) (C := R_Heap) (T := F_Heap) (N := 20) hx hb hg i_Heap t_Heap t_Heap_ok n_Heap hown hK hP hD hS 0 rfl rfl 7 (by decide) (hg _ k116) (fun _ h9 => h9) rfl (by decide +kernel) rfl rfl (Nat.le_of_ble_eq_true rfl) d_Heap_moveBack_53 (fun H locs hP hD hS => ?_)
    have hP : va_P (dC, dI) classes [(o_Heap, .inr (3, [.ref o_Stacks, .ref r_H_globals, .int H_globalsUsed, .ref r_H_cells, .int H_spareUsed, .ref r_H_spare, .int H_spareUsed, .int H_spareUsed, .int H_oldLeadsToNew, .int H_limit, .int H_every, .int 0, .int H_made, .int H_madeLimit, .int H_reachedFromGlobals, .int H_reachedInAll, .ref r_H_keptGlobals, .int H_keptGlobalsUsed, .ref r_H_keptCells, .int H_kept])), (r_H_cells, .inl (cL, n_H_cells, .inr (.inl (va_cpy f_H_spare f_H_cells p0.toNatClampNeg p0.toNatClampNeg (H_spareUsed - p0).toNatClampNeg)))), (r_H_spare, .inl (cL, n_H_spare, .inr (.inl f_H_spare)))] H := hP
    have hD : va_D A [(o_Heap, .inr (3, [.ref o_Stacks, .ref r_H_globals, .int H_globalsUsed, .ref r_H_cells, .int H_spareUsed, .ref r_H_spare, .int H_spareUsed, .int H_spareUsed, .int H_oldLeadsToNew, .int H_limit, .int H_every, .int 0, .int H_made, .int H_madeLimit, .int H_reachedFromGlobals, .int H_reachedInAll, .ref r_H_keptGlobals, .int H_keptGlobalsUsed, .ref r_H_keptCells, .int H_kept])), (r_H_cells, .inl (cL, n_H_cells, .inr (.inl (va_cpy f_H_spare f_H_cells p0.toNatClampNeg p0.toNatClampNeg (H_spareUsed - p0).toNatClampNeg)))), (r_H_spare, .inl (cL, n_H_spare, .inr (.inl f_H_spare)))] := hD
    refine lv_aload_n hx hb d_Heap_moveBack_56 rfl (lv_at hl 0 rfl) ?_
    refine lv_iconst (v := 0) hx hb d_Heap_moveBack_57 (by decide) ?_
    refine va_put (D := (dC, dI)) (ci := 3) (v := .int 0) (ty := .boolean) (C := R_Heap) (T := F_Heap) (N := 20) hx hb hg i_Heap t_Heap t_Heap_ok n_Heap hown hK hP hD hS 0 rfl rfl 8 (by decide) (hg _ k117) (fun _ h9 => h9) rfl (by decide +kernel) (show narrow .boolean (.int 0) = .int 0 from rfl) (show fits .boolean (.int 0) = true from rfl) (Nat.le_of_ble_eq_true rfl) d_Heap_moveBack_58 (fun H locs hP hD hS => ?_)
    have hP : va_P (dC, dI) classes [(o_Heap, .inr (3, [.ref o_Stacks, .ref r_H_globals, .int H_globalsUsed, .ref r_H_cells, .int H_spareUsed, .ref r_H_spare, .int H_spareUsed, .int H_spareUsed, .int 0, .int H_limit, .int H_every, .int 0, .int H_made, .int H_madeLimit, .int H_reachedFromGlobals, .int H_reachedInAll, .ref r_H_keptGlobals, .int H_keptGlobalsUsed, .ref r_H_keptCells, .int H_kept])), (r_H_cells, .inl (cL, n_H_cells, .inr (.inl (va_cpy f_H_spare f_H_cells p0.toNatClampNeg p0.toNatClampNeg (H_spareUsed - p0).toNatClampNeg)))), (r_H_spare, .inl (cL, n_H_spare, .inr (.inl f_H_spare)))] H := hP
    have hD : va_D A [(o_Heap, .inr (3, [.ref o_Stacks, .ref r_H_globals, .int H_globalsUsed, .ref r_H_cells, .int H_spareUsed, .ref r_H_spare, .int H_spareUsed, .int H_spareUsed, .int 0, .int H_limit, .int H_every, .int 0, .int H_made, .int H_madeLimit, .int H_reachedFromGlobals, .int H_reachedInAll, .ref r_H_keptGlobals, .int H_keptGlobalsUsed, .ref r_H_keptCells, .int H_kept])), (r_H_cells, .inl (cL, n_H_cells, .inr (.inl (va_cpy f_H_spare f_H_cells p0.toNatClampNeg p0.toNatClampNeg (H_spareUsed - p0).toNatClampNeg)))), (r_H_spare, .inl (cL, n_H_spare, .inr (.inl f_H_spare)))] := hD
    obtain rfl := Option.some.inj h
    have hP9 := hP.sub (ws' := [(o_Heap, .inr (3, [.ref o_Stacks, .ref r_H_globals, .int H_globalsUsed, .ref r_H_cells, .int H_spareUsed, .ref r_H_spare, .int H_spareUsed, .int H_spareUsed, .int 0, .int H_limit, .int H_every, .int 0, .int H_made, .int H_madeLimit, .int H_reachedFromGlobals, .int H_reachedInAll, .ref r_H_keptGlobals, .int H_keptGlobalsUsed, .ref r_H_keptCells, .int H_kept])), (r_H_cells, .inl (cL, n_H_cells, .inr (.inl (va_cpy f_H_spare f_H_cells p0.toNatClampNeg p0.toNatClampNeg (H_spareUsed - p0).toNatClampNeg)))), (r_H_spare, .inl (cL, n_H_spare, .inr (.inl f_H_spare)))]) [0, 1, 2] rfl
    have hD9 := hD.sub (ws' := [(o_Heap, .inr (3, [.ref o_Stacks, .ref r_H_globals, .int H_globalsUsed, .ref r_H_cells, .int H_spareUsed, .ref r_H_spare, .int H_spareUsed, .int H_spareUsed, .int 0, .int H_limit, .int H_every, .int 0, .int H_made, .int H_madeLimit, .int H_reachedFromGlobals, .int H_reachedInAll, .ref r_H_keptGlobals, .int H_keptGlobalsUsed, .ref r_H_keptCells, .int H_kept])), (r_H_cells, .inl (cL, n_H_cells, .inr (.inl (va_cpy f_H_spare f_H_cells p0.toNatClampNeg p0.toNatClampNeg (H_spareUsed - p0).toNatClampNeg)))), (r_H_spare, .inl (cL, n_H_spare, .inr (.inl f_H_spare)))]) [0, 1, 2] (by decide) rfl
    have hK9 := hK.sub (tys' := [(cL, .long)]) [0] rfl
    exact W.vret hx hb hr (fun t ht hW => ⟨⟨(), rfl, trivial, by rw [ht]; exact hP9, va_K.moved hW.alike hK9, hD9⟩, hS.F ht⟩) hS.2.2 d_Heap_moveBack_61
  · rw [if_neg c2] at h
    refine lv_aload_n hx hb d_Heap_moveBack_36 rfl (lv_at hl 0 rfl) ?_
    refine va_get (D := (dC, dI)) (ci := 3) (v := .int H_spareUsed) (C := R_Heap) (T := F_Heap) (N := 20) hx hb hg i_Heap hown hK hP 0 rfl rfl 4 (by decide) (hg _ k114) (fun _ h9 => h9) rfl d_Heap_moveBack_37 ?_
    refine lv_iload_n hx hb d_Heap_moveBack_40 rfl (lv_at hl 1 rfl) ?_
    refine lv_isub hx hb d_Heap_moveBack_41 ?_
    refine lv_sipush (v := 1024) hx hb d_Heap_moveBack_42 (by decide) ?_
    refine lv_icmp_le (tgt := 61) hx hb d_Heap_moveBack_45 (by decide) (fun c3 => ?_) (fun c3 => ?_)
    · rw [if_pos c3] at h
      obtain rfl := Option.some.inj h
      have hP9 := hP.sub (ws' := [(o_Heap, .inr (3, [.ref o_Stacks, .ref r_H_globals, .int H_globalsUsed, .ref r_H_cells, .int H_spareUsed, .ref r_H_spare, .int H_spareUsed, .int H_old, .int H_oldLeadsToNew, .int H_limit, .int H_every, .int 0, .int H_made, .int H_madeLimit, .int H_reachedFromGlobals, .int H_reachedInAll, .ref r_H_keptGlobals, .int H_keptGlobalsUsed, .ref r_H_keptCells, .int H_kept])), (r_H_cells, .inl (cL, n_H_cells, .inr (.inl (va_cpy f_H_spare f_H_cells p0.toNatClampNeg p0.toNatClampNeg (H_spareUsed - p0).toNatClampNeg)))), (r_H_spare, .inl (cL, n_H_spare, .inr (.inl f_H_spare)))]) [0, 1, 2] rfl
      have hD9 := hD.sub (ws' := [(o_Heap, .inr (3, [.ref o_Stacks, .ref r_H_globals, .int H_globalsUsed, .ref r_H_cells, .int H_spareUsed, .ref r_H_spare, .int H_spareUsed, .int H_old, .int H_oldLeadsToNew, .int H_limit, .int H_every, .int 0, .int H_made, .int H_madeLimit, .int H_reachedFromGlobals, .int H_reachedInAll, .ref r_H_keptGlobals, .int H_keptGlobalsUsed, .ref r_H_keptCells, .int H_kept])), (r_H_cells, .inl (cL, n_H_cells, .inr (.inl (va_cpy f_H_spare f_H_cells p0.toNatClampNeg p0.toNatClampNeg (H_spareUsed - p0).toNatClampNeg)))), (r_H_spare, .inl (cL, n_H_spare, .inr (.inl f_H_spare)))]) [0, 1, 2] (by decide) rfl
      have hK9 := hK.sub (tys' := [(cL, .long)]) [0] rfl
      exact W.vret hx hb hr (fun t ht hW => ⟨⟨(), rfl, trivial, by rw [ht]; exact hP9, va_K.moved hW.alike hK9, hD9⟩, hS.F ht⟩) hS.2.2 d_Heap_moveBack_61
    · rw [if_neg c3] at h
      refine lv_aload_n hx hb d_Heap_moveBack_48 rfl (lv_at hl 0 rfl) ?_
      refine lv_aload_n hx hb d_Heap_moveBack_49 rfl (lv_at hl 0 rfl) ?_
      refine va_get (D := (dC, dI)) (ci := 3) (v := .int H_spareUsed) (C := R_Heap) (T := F_Heap) (N := 20) hx hb hg i_Heap hown hK hP 0 rfl rfl 4 (by decide) (hg _ k114) (fun _ h9 => h9) rfl d_Heap_moveBack_50 ?_
      refine va_put (D := (dC, dI)) (ci := 3) (v := .int H_spareUsed) (ty := .int) (C := R_Heap) (T := F_Heap) (N := 20) hx hb hg i_Heap t_Heap t_Heap_ok n_Heap hown hK hP hD hS 0 rfl rfl 7 (by decide) (hg _ k116) (fun _ h9 => h9) rfl (by decide +kernel) rfl rfl (Nat.le_of_ble_eq_true rfl) d_Heap_moveBack_53 (fun H locs hP hD hS => ?_)
      have hP : va_P (dC, dI) classes [(o_Heap, .inr (3, [.ref o_Stacks, .ref r_H_globals, .int H_globalsUsed, .ref r_H_cells, .int H_spareUsed, .ref r_H_spare, .int H_spareUsed, .int H_spareUsed, .int H_oldLeadsToNew, .int H_limit, .int H_every, .int 0, .int H_made, .int H_madeLimit, .int H_reachedFromGlobals, .int H_reachedInAll, .ref r_H_keptGlobals, .int H_keptGlobalsUsed, .ref r_H_keptCells, .int H_kept])), (r_H_cells, .inl (cL, n_H_cells, .inr (.inl (va_cpy f_H_spare f_H_cells p0.toNatClampNeg p0.toNatClampNeg (H_spareUsed - p0).toNatClampNeg)))), (r_H_spare, .inl (cL, n_H_spare, .inr (.inl f_H_spare)))] H := hP
      have hD : va_D A [(o_Heap, .inr (3, [.ref o_Stacks, .ref r_H_globals, .int H_globalsUsed, .ref r_H_cells, .int H_spareUsed, .ref r_H_spare, .int H_spareUsed, .int H_spareUsed, .int H_oldLeadsToNew, .int H_limit, .int H_every, .int 0, .int H_made, .int H_madeLimit, .int H_reachedFromGlobals, .int H_reachedInAll, .ref r_H_keptGlobals, .int H_keptGlobalsUsed, .ref r_H_keptCells, .int H_kept])), (r_H_cells, .inl (cL, n_H_cells, .inr (.inl (va_cpy f_H_spare f_H_cells p0.toNatClampNeg p0.toNatClampNeg (H_spareUsed - p0).toNatClampNeg)))), (r_H_spare, .inl (cL, n_H_spare, .inr (.inl f_H_spare)))] := hD
      refine lv_aload_n hx hb d_Heap_moveBack_56 rfl (lv_at hl 0 rfl) ?_
      refine lv_iconst (v := 0) hx hb d_Heap_moveBack_57 (by decide) ?_
      refine va_put (D := (dC, dI)) (ci := 3) (v := .int 0) (ty := .boolean) (C := R_Heap) (T := F_Heap) (N := 20) hx hb hg i_Heap t_Heap t_Heap_ok n_Heap hown hK hP hD hS 0 rfl rfl 8 (by decide) (hg _ k117) (fun _ h9 => h9) rfl (by decide +kernel) (show narrow .boolean (.int 0) = .int 0 from rfl) (show fits .boolean (.int 0) = true from rfl) (Nat.le_of_ble_eq_true rfl) d_Heap_moveBack_58 (fun H locs hP hD hS => ?_)
      have hP : va_P (dC, dI) classes [(o_Heap, .inr (3, [.ref o_Stacks, .ref r_H_globals, .int H_globalsUsed, .ref r_H_cells, .int H_spareUsed, .ref r_H_spare, .int H_spareUsed, .int H_spareUsed, .int 0, .int H_limit, .int H_every, .int 0, .int H_made, .int H_madeLimit, .int H_reachedFromGlobals, .int H_reachedInAll, .ref r_H_keptGlobals, .int H_keptGlobalsUsed, .ref r_H_keptCells, .int H_kept])), (r_H_cells, .inl (cL, n_H_cells, .inr (.inl (va_cpy f_H_spare f_H_cells p0.toNatClampNeg p0.toNatClampNeg (H_spareUsed - p0).toNatClampNeg)))), (r_H_spare, .inl (cL, n_H_spare, .inr (.inl f_H_spare)))] H := hP
      have hD : va_D A [(o_Heap, .inr (3, [.ref o_Stacks, .ref r_H_globals, .int H_globalsUsed, .ref r_H_cells, .int H_spareUsed, .ref r_H_spare, .int H_spareUsed, .int H_spareUsed, .int 0, .int H_limit, .int H_every, .int 0, .int H_made, .int H_madeLimit, .int H_reachedFromGlobals, .int H_reachedInAll, .ref r_H_keptGlobals, .int H_keptGlobalsUsed, .ref r_H_keptCells, .int H_kept])), (r_H_cells, .inl (cL, n_H_cells, .inr (.inl (va_cpy f_H_spare f_H_cells p0.toNatClampNeg p0.toNatClampNeg (H_spareUsed - p0).toNatClampNeg)))), (r_H_spare, .inl (cL, n_H_spare, .inr (.inl f_H_spare)))] := hD
      obtain rfl := Option.some.inj h
      have hP9 := hP.sub (ws' := [(o_Heap, .inr (3, [.ref o_Stacks, .ref r_H_globals, .int H_globalsUsed, .ref r_H_cells, .int H_spareUsed, .ref r_H_spare, .int H_spareUsed, .int H_spareUsed, .int 0, .int H_limit, .int H_every, .int 0, .int H_made, .int H_madeLimit, .int H_reachedFromGlobals, .int H_reachedInAll, .ref r_H_keptGlobals, .int H_keptGlobalsUsed, .ref r_H_keptCells, .int H_kept])), (r_H_cells, .inl (cL, n_H_cells, .inr (.inl (va_cpy f_H_spare f_H_cells p0.toNatClampNeg p0.toNatClampNeg (H_spareUsed - p0).toNatClampNeg)))), (r_H_spare, .inl (cL, n_H_spare, .inr (.inl f_H_spare)))]) [0, 1, 2] rfl
      have hD9 := hD.sub (ws' := [(o_Heap, .inr (3, [.ref o_Stacks, .ref r_H_globals, .int H_globalsUsed, .ref r_H_cells, .int H_spareUsed, .ref r_H_spare, .int H_spareUsed, .int H_spareUsed, .int 0, .int H_limit, .int H_every, .int 0, .int H_made, .int H_madeLimit, .int H_reachedFromGlobals, .int H_reachedInAll, .ref r_H_keptGlobals, .int H_keptGlobalsUsed, .ref r_H_keptCells, .int H_kept])), (r_H_cells, .inl (cL, n_H_cells, .inr (.inl (va_cpy f_H_spare f_H_cells p0.toNatClampNeg p0.toNatClampNeg (H_spareUsed - p0).toNatClampNeg)))), (r_H_spare, .inl (cL, n_H_spare, .inr (.inl f_H_spare)))]) [0, 1, 2] (by decide) rfl
      have hK9 := hK.sub (tys' := [(cL, .long)]) [0] rfl
      exact W.vret hx hb hr (fun t ht hW => ⟨⟨(), rfl, trivial, by rw [ht]; exact hP9, va_K.moved hW.alike hK9, hD9⟩, hS.F ht⟩) hS.2.2 d_Heap_moveBack_61

set_option maxHeartbeats 4000000 in
set_option maxRecDepth 100000 in
theorem c_Heap_lay (l : Launch) (dC : Nat → ClassId) (dI : Nat → Nat → Nat) (N : Nat) (cL : ClassId) (o_Heap : Nat) (o_Stacks : Nat) (r_H_globals : Nat) (r_H_cells : Nat) (r_H_spare : Nat) (r_H_keptGlobals : Nat) (r_H_keptCells : Nat) (H_globalsUsed : Int32) (H_used : Int32) (H_spareUsed : Int32) (H_old : Int32) (H_oldLeadsToNew : Int32) (H_limit : Int32) (H_every : Int32) (H_fresh : Int32) (H_made : Int32) (H_madeLimit : Int32) (H_reachedFromGlobals : Int32) (H_reachedInAll : Int32) (H_keptGlobalsUsed : Int32) (H_kept : Int32) (n_H_cells : Nat) (f_H_cells : Nat → Int64) (p0 : Int64) (p1 : Int32) (sz : Nat) (z : Int32 × (Nat → Int64) × Int32 × Int32) (h : m_Heap_lay N H_globalsUsed H_used H_spareUsed H_old H_oldLeadsToNew H_limit H_every H_fresh H_made H_madeLimit H_reachedFromGlobals H_reachedInAll H_keptGlobalsUsed H_kept n_H_cells f_H_cells p0 p1 = some z) : Met l y_Heap_lay (.code y_Heap_lay b_Heap_lay 5 (some .int) :: lw_g) ({ frames := 0, cells := 0, slots := 0, locals := 0 }) (va_Pc [.ref o_Heap, .long p0, .int p1] (fun U => dz_N U ∧ U.heap.size = sz ∧ va_P (dC, dI) classes [(o_Heap, .inr (3, [.ref o_Stacks, .ref r_H_globals, .int H_globalsUsed, .ref r_H_cells, .int H_used, .ref r_H_spare, .int H_spareUsed, .int H_old, .int H_oldLeadsToNew, .int H_limit, .int H_every, .int H_fresh, .int H_made, .int H_madeLimit, .int H_reachedFromGlobals, .int H_reachedInAll, .ref r_H_keptGlobals, .int H_keptGlobalsUsed, .ref r_H_keptCells, .int H_kept])), (r_H_cells, .inl (cL, n_H_cells, .inr (.inl f_H_cells)))] U.heap ∧ va_K (dC, dI) classes [(cL, .long)] U ∧ va_D (fun _ => True) [(o_Heap, .inr (3, [.ref o_Stacks, .ref r_H_globals, .int H_globalsUsed, .ref r_H_cells, .int H_used, .ref r_H_spare, .int H_spareUsed, .int H_old, .int H_oldLeadsToNew, .int H_limit, .int H_every, .int H_fresh, .int H_made, .int H_madeLimit, .int H_reachedFromGlobals, .int H_reachedInAll, .ref r_H_keptGlobals, .int H_keptGlobalsUsed, .ref r_H_keptCells, .int H_kept])), (r_H_cells, .inl (cL, n_H_cells, .inr (.inl f_H_cells)))])) (va_Qi (fun (r : Int32) (_ : Unit) => r = z.1) (fun (u : Unit) t => va_P (dC, dI) classes [(o_Heap, .inr (3, [.ref o_Stacks, .ref r_H_globals, .int H_globalsUsed, .ref r_H_cells, .int z.2.2.2, .ref r_H_spare, .int H_spareUsed, .int H_old, .int H_oldLeadsToNew, .int H_limit, .int H_every, .int z.2.2.1, .int H_made, .int H_madeLimit, .int H_reachedFromGlobals, .int H_reachedInAll, .ref r_H_keptGlobals, .int H_keptGlobalsUsed, .ref r_H_keptCells, .int H_kept])), (r_H_cells, .inl (cL, n_H_cells, .inr (.inl z.2.1)))] t.heap ∧ va_K (dC, dI) classes [(cL, .long)] t ∧ va_D (va_A [(o_Heap, .inr (3, [.ref o_Stacks, .ref r_H_globals, .int H_globalsUsed, .ref r_H_cells, .int H_used, .ref r_H_spare, .int H_spareUsed, .int H_old, .int H_oldLeadsToNew, .int H_limit, .int H_every, .int H_fresh, .int H_made, .int H_madeLimit, .int H_reachedFromGlobals, .int H_reachedInAll, .ref r_H_keptGlobals, .int H_keptGlobalsUsed, .ref r_H_keptCells, .int H_kept])), (r_H_cells, .inl (cL, n_H_cells, .inr (.inl f_H_cells)))] sz) [(o_Heap, .inr (3, [.ref o_Stacks, .ref r_H_globals, .int H_globalsUsed, .ref r_H_cells, .int z.2.2.2, .ref r_H_spare, .int H_spareUsed, .int H_old, .int H_oldLeadsToNew, .int H_limit, .int H_every, .int z.2.2.1, .int H_made, .int H_madeLimit, .int H_reachedFromGlobals, .int H_reachedInAll, .ref r_H_keptGlobals, .int H_keptGlobalsUsed, .ref r_H_keptCells, .int H_kept])), (r_H_cells, .inl (cL, n_H_cells, .inr (.inl z.2.1)))]) (va_A [(o_Heap, .inr (3, [.ref o_Stacks, .ref r_H_globals, .int H_globalsUsed, .ref r_H_cells, .int H_used, .ref r_H_spare, .int H_spareUsed, .int H_old, .int H_oldLeadsToNew, .int H_limit, .int H_every, .int H_fresh, .int H_made, .int H_madeLimit, .int H_reachedFromGlobals, .int H_reachedInAll, .ref r_H_keptGlobals, .int H_keptGlobalsUsed, .ref r_H_keptCells, .int H_kept])), (r_H_cells, .inl (cL, n_H_cells, .inr (.inl f_H_cells)))] sz)) 0 0 (va_A [(o_Heap, .inr (3, [.ref o_Stacks, .ref r_H_globals, .int H_globalsUsed, .ref r_H_cells, .int H_used, .ref r_H_spare, .int H_spareUsed, .int H_old, .int H_oldLeadsToNew, .int H_limit, .int H_every, .int H_fresh, .int H_made, .int H_madeLimit, .int H_reachedFromGlobals, .int H_reachedInAll, .ref r_H_keptGlobals, .int H_keptGlobalsUsed, .ref r_H_keptCells, .int H_kept])), (r_H_cells, .inl (cL, n_H_cells, .inr (.inl f_H_cells)))] sz) := by
  refine Met.ofW (cc := b_Heap_lay) (maxL := 5) (ret := (some .int)) (by decide +kernel) rfl ?_
  intro p e s m args below meth c s₁ B hml hv
  obtain ⟨rfl, hN, hsz, hP, hK, hD0⟩ := hv
  have hx := B.exec
  have hb := B.bytes
  have hr := B.returns
  have hg : ∀ w ∈ lw_g, w.before _ s = true := fun w hw => atoms_spec (ws := .code y_Heap_lay b_Heap_lay 5 (some .int) :: lw_g) B.pre w (List.mem_cons_of_mem _ hw)
  have hown : s.vm.findClass R_Heap = some m.cls := findClass_of_methodNamed B.named
  have hlocks := B.notSynchronized
  clear B
  subst hsz
  have hD := hD0.self (sz := s.heap.size)
  generalize hAe : va_A [(o_Heap, .inr (3, [.ref o_Stacks, .ref r_H_globals, .int H_globalsUsed, .ref r_H_cells, .int H_used, .ref r_H_spare, .int H_spareUsed, .int H_old, .int H_oldLeadsToNew, .int H_limit, .int H_every, .int H_fresh, .int H_made, .int H_madeLimit, .int H_reachedFromGlobals, .int H_reachedInAll, .ref r_H_keptGlobals, .int H_keptGlobalsUsed, .ref r_H_keptCells, .int H_kept])), (r_H_cells, .inl (cL, n_H_cells, .inr (.inl f_H_cells)))] s.heap.size = A at hD ⊢
  have hA : ∀ q : Nat, s.heap.size ≤ q → A q := fun q h => by rw [← hAe]; exact Or.inr h
  have hS : va_S A s.heap s.heap [] := va_S.rf
  have hP : va_P (dC, dI) classes [(o_Heap, .inr (3, [.ref o_Stacks, .ref r_H_globals, .int H_globalsUsed, .ref r_H_cells, .int H_used, .ref r_H_spare, .int H_spareUsed, .int H_old, .int H_oldLeadsToNew, .int H_limit, .int H_every, .int H_fresh, .int H_made, .int H_madeLimit, .int H_reachedFromGlobals, .int H_reachedInAll, .ref r_H_keptGlobals, .int H_keptGlobalsUsed, .ref r_H_keptCells, .int H_kept])), (r_H_cells, .inl (cL, n_H_cells, .inr (.inl f_H_cells)))] s.heap := hP
  have hl := lv_entry ([.ref o_Heap, .long p0, .int p1]) (n := 5) (Nat.le_of_ble_eq_true rfl)
  rw [lg_entry_eq]
  generalize (lg_sl ([.ref o_Heap, .long p0, .int p1]) ++ List.replicate (5 - (lg_sl ([.ref o_Heap, .long p0, .int p1])).length) Slot.unset).toArray = ls at hl ⊢
  have hl : lv_has ls 5 [(0, .ref o_Heap), (1, .long p0), (3, .int p1)] := hl
  unfold m_Heap_lay at h
  refine lv_aload_n hx hb d_Heap_lay_0 rfl (lv_at hl 0 rfl) ?_
  refine va_get (D := (dC, dI)) (ci := 3) (v := .int H_used) (C := R_Heap) (T := F_Heap) (N := 20) hx hb hg i_Heap hown hK hP 0 rfl rfl 4 (by decide) (hg _ k114) (fun _ h9 => h9) rfl d_Heap_lay_1 ?_
  refine lv_istore (lv' := [(4, .int H_used), (0, .ref o_Heap), (1, .long p0), (3, .int p1)]) hx hb d_Heap_lay_4 hl (by decide) rfl (fun ls hl => ?_)
  refine lv_aload_n hx hb d_Heap_lay_6 rfl (lv_at hl 1 rfl) ?_
  refine va_get (D := (dC, dI)) (ci := 3) (v := .ref r_H_cells) (C := R_Heap) (T := F_Heap) (N := 20) hx hb hg i_Heap hown hK hP 0 rfl rfl 3 (by decide) (hg _ k112) (fun _ h9 => h9) rfl d_Heap_lay_7 ?_
  refine lv_iload hx hb d_Heap_lay_10 (lv_at hl 0 rfl) ?_
  refine lv_lload_n hx hb d_Heap_lay_12 rfl (lv_at hl 2 rfl) ?_
  obtain ⟨i1, h⟩ := dz_oi h
  refine va_last (D := (dC, dI)) hx hb hK hP hD hS 1 0 rfl rfl i1 d_Heap_lay_13 (fun H locs hP hD hS => ?_)
  have hP : va_P (dC, dI) classes [(o_Heap, .inr (3, [.ref o_Stacks, .ref r_H_globals, .int H_globalsUsed, .ref r_H_cells, .int H_used, .ref r_H_spare, .int H_spareUsed, .int H_old, .int H_oldLeadsToNew, .int H_limit, .int H_every, .int H_fresh, .int H_made, .int H_madeLimit, .int H_reachedFromGlobals, .int H_reachedInAll, .ref r_H_keptGlobals, .int H_keptGlobalsUsed, .ref r_H_keptCells, .int H_kept])), (r_H_cells, .inl (cL, n_H_cells, .inr (.inl (vp_updL f_H_cells H_used.toNatClampNeg p0))))] H := hP
  have hD : va_D A [(o_Heap, .inr (3, [.ref o_Stacks, .ref r_H_globals, .int H_globalsUsed, .ref r_H_cells, .int H_used, .ref r_H_spare, .int H_spareUsed, .int H_old, .int H_oldLeadsToNew, .int H_limit, .int H_every, .int H_fresh, .int H_made, .int H_madeLimit, .int H_reachedFromGlobals, .int H_reachedInAll, .ref r_H_keptGlobals, .int H_keptGlobalsUsed, .ref r_H_keptCells, .int H_kept])), (r_H_cells, .inl (cL, n_H_cells, .inr (.inl (vp_updL f_H_cells H_used.toNatClampNeg p0))))] := hD
  refine lv_aload_n hx hb d_Heap_lay_14 rfl (lv_at hl 1 rfl) ?_
  refine lv_dup hx hb d_Heap_lay_15 rfl ?_
  refine va_get (D := (dC, dI)) (ci := 3) (v := .int H_used) (C := R_Heap) (T := F_Heap) (N := 20) hx hb hg i_Heap hown hK hP 0 rfl rfl 4 (by decide) (hg _ k114) (fun _ h9 => h9) rfl d_Heap_lay_16 ?_
  refine lv_iload_n hx hb d_Heap_lay_19 rfl (lv_at hl 3 rfl) ?_
  refine lv_iadd hx hb d_Heap_lay_20 ?_
  refine va_put (D := (dC, dI)) (ci := 3) (v := .int (H_used + p1)) (ty := .int) (C := R_Heap) (T := F_Heap) (N := 20) hx hb hg i_Heap t_Heap t_Heap_ok n_Heap hown hK hP hD hS 0 rfl rfl 4 (by decide) (hg _ k114) (fun _ h9 => h9) rfl (by decide +kernel) rfl rfl (Nat.le_of_ble_eq_true rfl) d_Heap_lay_21 (fun H locs hP hD hS => ?_)
  have hP : va_P (dC, dI) classes [(o_Heap, .inr (3, [.ref o_Stacks, .ref r_H_globals, .int H_globalsUsed, .ref r_H_cells, .int (H_used + p1), .ref r_H_spare, .int H_spareUsed, .int H_old, .int H_oldLeadsToNew, .int H_limit, .int H_every, .int H_fresh, .int H_made, .int H_madeLimit, .int H_reachedFromGlobals, .int H_reachedInAll, .ref r_H_keptGlobals, .int H_keptGlobalsUsed, .ref r_H_keptCells, .int H_kept])), (r_H_cells, .inl (cL, n_H_cells, .inr (.inl (vp_updL f_H_cells H_used.toNatClampNeg p0))))] H := hP
  have hD : va_D A [(o_Heap, .inr (3, [.ref o_Stacks, .ref r_H_globals, .int H_globalsUsed, .ref r_H_cells, .int (H_used + p1), .ref r_H_spare, .int H_spareUsed, .int H_old, .int H_oldLeadsToNew, .int H_limit, .int H_every, .int H_fresh, .int H_made, .int H_madeLimit, .int H_reachedFromGlobals, .int H_reachedInAll, .ref r_H_keptGlobals, .int H_keptGlobalsUsed, .ref r_H_keptCells, .int H_kept])), (r_H_cells, .inl (cL, n_H_cells, .inr (.inl (vp_updL f_H_cells H_used.toNatClampNeg p0))))] := hD
  refine lv_aload_n hx hb d_Heap_lay_24 rfl (lv_at hl 1 rfl) ?_
  refine lv_dup hx hb d_Heap_lay_25 rfl ?_
  refine va_get (D := (dC, dI)) (ci := 3) (v := .int H_fresh) (C := R_Heap) (T := F_Heap) (N := 20) hx hb hg i_Heap hown hK hP 0 rfl rfl 11 (by decide) (hg _ k115) (fun _ h9 => h9) rfl d_Heap_lay_26 ?_
  refine lv_iload_n hx hb d_Heap_lay_29 rfl (lv_at hl 3 rfl) ?_
  refine lv_iadd hx hb d_Heap_lay_30 ?_
  refine va_put (D := (dC, dI)) (ci := 3) (v := .int (H_fresh + p1)) (ty := .int) (C := R_Heap) (T := F_Heap) (N := 20) hx hb hg i_Heap t_Heap t_Heap_ok n_Heap hown hK hP hD hS 0 rfl rfl 11 (by decide) (hg _ k115) (fun _ h9 => h9) rfl (by decide +kernel) rfl rfl (Nat.le_of_ble_eq_true rfl) d_Heap_lay_31 (fun H locs hP hD hS => ?_)
  have hP : va_P (dC, dI) classes [(o_Heap, .inr (3, [.ref o_Stacks, .ref r_H_globals, .int H_globalsUsed, .ref r_H_cells, .int (H_used + p1), .ref r_H_spare, .int H_spareUsed, .int H_old, .int H_oldLeadsToNew, .int H_limit, .int H_every, .int (H_fresh + p1), .int H_made, .int H_madeLimit, .int H_reachedFromGlobals, .int H_reachedInAll, .ref r_H_keptGlobals, .int H_keptGlobalsUsed, .ref r_H_keptCells, .int H_kept])), (r_H_cells, .inl (cL, n_H_cells, .inr (.inl (vp_updL f_H_cells H_used.toNatClampNeg p0))))] H := hP
  have hD : va_D A [(o_Heap, .inr (3, [.ref o_Stacks, .ref r_H_globals, .int H_globalsUsed, .ref r_H_cells, .int (H_used + p1), .ref r_H_spare, .int H_spareUsed, .int H_old, .int H_oldLeadsToNew, .int H_limit, .int H_every, .int (H_fresh + p1), .int H_made, .int H_madeLimit, .int H_reachedFromGlobals, .int H_reachedInAll, .ref r_H_keptGlobals, .int H_keptGlobalsUsed, .ref r_H_keptCells, .int H_kept])), (r_H_cells, .inl (cL, n_H_cells, .inr (.inl (vp_updL f_H_cells H_used.toNatClampNeg p0))))] := hD
  refine lv_iload hx hb d_Heap_lay_34 (lv_at hl 0 rfl) ?_
  obtain rfl := Option.some.inj h
  have hP9 := hP.sub (ws' := [(o_Heap, .inr (3, [.ref o_Stacks, .ref r_H_globals, .int H_globalsUsed, .ref r_H_cells, .int (H_used + p1), .ref r_H_spare, .int H_spareUsed, .int H_old, .int H_oldLeadsToNew, .int H_limit, .int H_every, .int (H_fresh + p1), .int H_made, .int H_madeLimit, .int H_reachedFromGlobals, .int H_reachedInAll, .ref r_H_keptGlobals, .int H_keptGlobalsUsed, .ref r_H_keptCells, .int H_kept])), (r_H_cells, .inl (cL, n_H_cells, .inr (.inl (vp_updL f_H_cells H_used.toNatClampNeg p0))))]) [0, 1] rfl
  have hD9 := hD.sub (ws' := [(o_Heap, .inr (3, [.ref o_Stacks, .ref r_H_globals, .int H_globalsUsed, .ref r_H_cells, .int (H_used + p1), .ref r_H_spare, .int H_spareUsed, .int H_old, .int H_oldLeadsToNew, .int H_limit, .int H_every, .int (H_fresh + p1), .int H_made, .int H_madeLimit, .int H_reachedFromGlobals, .int H_reachedInAll, .ref r_H_keptGlobals, .int H_keptGlobalsUsed, .ref r_H_keptCells, .int H_kept])), (r_H_cells, .inl (cL, n_H_cells, .inr (.inl (vp_updL f_H_cells H_used.toNatClampNeg p0))))]) [0, 1] (by decide) rfl
  have hK9 := hK.sub (tys' := [(cL, .long)]) [0] rfl
  exact W.iret (v := H_used) hx hb hr (fun t ht hW => ⟨⟨H_used, (), rfl, rfl, by rw [ht]; exact hP9, va_K.moved hW.alike hK9, hD9⟩, hS.F ht⟩) hS.2.2 d_Heap_lay_36

set_option maxHeartbeats 4000000 in
set_option maxRecDepth 100000 in
theorem c_Heap_layString (l : Launch) (dC : Nat → ClassId) (dI : Nat → Nat → Nat) (N : Nat) (cL : ClassId) (o_Heap : Nat) (o_Stacks : Nat) (r_H_globals : Nat) (r_H_cells : Nat) (r_H_spare : Nat) (r_H_keptGlobals : Nat) (r_H_keptCells : Nat) (H_globalsUsed : Int32) (H_used : Int32) (H_spareUsed : Int32) (H_old : Int32) (H_oldLeadsToNew : Int32) (H_limit : Int32) (H_every : Int32) (H_fresh : Int32) (H_made : Int32) (H_madeLimit : Int32) (H_reachedFromGlobals : Int32) (H_reachedInAll : Int32) (H_keptGlobalsUsed : Int32) (H_kept : Int32) (n_H_cells : Nat) (f_H_cells : Nat → Int64) (p0 : Int32) (sz : Nat) (z : Int32 × (Nat → Int64) × Int32 × Int32) (h : m_Heap_layString N H_globalsUsed H_used H_spareUsed H_old H_oldLeadsToNew H_limit H_every H_fresh H_made H_madeLimit H_reachedFromGlobals H_reachedInAll H_keptGlobalsUsed H_kept n_H_cells f_H_cells p0 = some z) : Met l y_Heap_layString (.code y_Heap_layString b_Heap_layString 4 (some .int) :: lw_g) ({ frames := 2, cells := 0, slots := 0, locals := 47 }) (va_Pc [.ref o_Heap, .int p0] (fun U => dz_N U ∧ U.heap.size = sz ∧ va_P (dC, dI) classes [(o_Heap, .inr (3, [.ref o_Stacks, .ref r_H_globals, .int H_globalsUsed, .ref r_H_cells, .int H_used, .ref r_H_spare, .int H_spareUsed, .int H_old, .int H_oldLeadsToNew, .int H_limit, .int H_every, .int H_fresh, .int H_made, .int H_madeLimit, .int H_reachedFromGlobals, .int H_reachedInAll, .ref r_H_keptGlobals, .int H_keptGlobalsUsed, .ref r_H_keptCells, .int H_kept])), (r_H_cells, .inl (cL, n_H_cells, .inr (.inl f_H_cells)))] U.heap ∧ va_K (dC, dI) classes [(cL, .long)] U ∧ va_D (fun _ => True) [(o_Heap, .inr (3, [.ref o_Stacks, .ref r_H_globals, .int H_globalsUsed, .ref r_H_cells, .int H_used, .ref r_H_spare, .int H_spareUsed, .int H_old, .int H_oldLeadsToNew, .int H_limit, .int H_every, .int H_fresh, .int H_made, .int H_madeLimit, .int H_reachedFromGlobals, .int H_reachedInAll, .ref r_H_keptGlobals, .int H_keptGlobalsUsed, .ref r_H_keptCells, .int H_kept])), (r_H_cells, .inl (cL, n_H_cells, .inr (.inl f_H_cells)))])) (va_Qi (fun (r : Int32) (_ : Unit) => r = z.1) (fun (u : Unit) t => va_P (dC, dI) classes [(o_Heap, .inr (3, [.ref o_Stacks, .ref r_H_globals, .int H_globalsUsed, .ref r_H_cells, .int z.2.2.2, .ref r_H_spare, .int H_spareUsed, .int H_old, .int H_oldLeadsToNew, .int H_limit, .int H_every, .int z.2.2.1, .int H_made, .int H_madeLimit, .int H_reachedFromGlobals, .int H_reachedInAll, .ref r_H_keptGlobals, .int H_keptGlobalsUsed, .ref r_H_keptCells, .int H_kept])), (r_H_cells, .inl (cL, n_H_cells, .inr (.inl z.2.1)))] t.heap ∧ va_K (dC, dI) classes [(cL, .long)] t ∧ va_D (va_A [(o_Heap, .inr (3, [.ref o_Stacks, .ref r_H_globals, .int H_globalsUsed, .ref r_H_cells, .int H_used, .ref r_H_spare, .int H_spareUsed, .int H_old, .int H_oldLeadsToNew, .int H_limit, .int H_every, .int H_fresh, .int H_made, .int H_madeLimit, .int H_reachedFromGlobals, .int H_reachedInAll, .ref r_H_keptGlobals, .int H_keptGlobalsUsed, .ref r_H_keptCells, .int H_kept])), (r_H_cells, .inl (cL, n_H_cells, .inr (.inl f_H_cells)))] sz) [(o_Heap, .inr (3, [.ref o_Stacks, .ref r_H_globals, .int H_globalsUsed, .ref r_H_cells, .int z.2.2.2, .ref r_H_spare, .int H_spareUsed, .int H_old, .int H_oldLeadsToNew, .int H_limit, .int H_every, .int z.2.2.1, .int H_made, .int H_madeLimit, .int H_reachedFromGlobals, .int H_reachedInAll, .ref r_H_keptGlobals, .int H_keptGlobalsUsed, .ref r_H_keptCells, .int H_kept])), (r_H_cells, .inl (cL, n_H_cells, .inr (.inl z.2.1)))]) (va_A [(o_Heap, .inr (3, [.ref o_Stacks, .ref r_H_globals, .int H_globalsUsed, .ref r_H_cells, .int H_used, .ref r_H_spare, .int H_spareUsed, .int H_old, .int H_oldLeadsToNew, .int H_limit, .int H_every, .int H_fresh, .int H_made, .int H_madeLimit, .int H_reachedFromGlobals, .int H_reachedInAll, .ref r_H_keptGlobals, .int H_keptGlobalsUsed, .ref r_H_keptCells, .int H_kept])), (r_H_cells, .inl (cL, n_H_cells, .inr (.inl f_H_cells)))] sz)) 0 0 (va_A [(o_Heap, .inr (3, [.ref o_Stacks, .ref r_H_globals, .int H_globalsUsed, .ref r_H_cells, .int H_used, .ref r_H_spare, .int H_spareUsed, .int H_old, .int H_oldLeadsToNew, .int H_limit, .int H_every, .int H_fresh, .int H_made, .int H_madeLimit, .int H_reachedFromGlobals, .int H_reachedInAll, .ref r_H_keptGlobals, .int H_keptGlobalsUsed, .ref r_H_keptCells, .int H_kept])), (r_H_cells, .inl (cL, n_H_cells, .inr (.inl f_H_cells)))] sz) := by
  refine Met.ofW (cc := b_Heap_layString) (maxL := 4) (ret := (some .int)) (by decide +kernel) rfl ?_
  intro p e s m args below meth c s₁ B hml hv
  obtain ⟨rfl, hN, hsz, hP, hK, hD0⟩ := hv
  have hx := B.exec
  have hb := B.bytes
  have hr := B.returns
  have hg : ∀ w ∈ lw_g, w.before _ s = true := fun w hw => atoms_spec (ws := .code y_Heap_layString b_Heap_layString 4 (some .int) :: lw_g) B.pre w (List.mem_cons_of_mem _ hw)
  have hown : s.vm.findClass R_Heap = some m.cls := findClass_of_methodNamed B.named
  have hlocks := B.notSynchronized
  clear B
  subst hsz
  have hD := hD0.self (sz := s.heap.size)
  generalize hAe : va_A [(o_Heap, .inr (3, [.ref o_Stacks, .ref r_H_globals, .int H_globalsUsed, .ref r_H_cells, .int H_used, .ref r_H_spare, .int H_spareUsed, .int H_old, .int H_oldLeadsToNew, .int H_limit, .int H_every, .int H_fresh, .int H_made, .int H_madeLimit, .int H_reachedFromGlobals, .int H_reachedInAll, .ref r_H_keptGlobals, .int H_keptGlobalsUsed, .ref r_H_keptCells, .int H_kept])), (r_H_cells, .inl (cL, n_H_cells, .inr (.inl f_H_cells)))] s.heap.size = A at hD ⊢
  have hA : ∀ q : Nat, s.heap.size ≤ q → A q := fun q h => by rw [← hAe]; exact Or.inr h
  have hS : va_S A s.heap s.heap [] := va_S.rf
  have hP : va_P (dC, dI) classes [(o_Heap, .inr (3, [.ref o_Stacks, .ref r_H_globals, .int H_globalsUsed, .ref r_H_cells, .int H_used, .ref r_H_spare, .int H_spareUsed, .int H_old, .int H_oldLeadsToNew, .int H_limit, .int H_every, .int H_fresh, .int H_made, .int H_madeLimit, .int H_reachedFromGlobals, .int H_reachedInAll, .ref r_H_keptGlobals, .int H_keptGlobalsUsed, .ref r_H_keptCells, .int H_kept])), (r_H_cells, .inl (cL, n_H_cells, .inr (.inl f_H_cells)))] s.heap := hP
  have hl := lv_entry ([.ref o_Heap, .int p0]) (n := 4) (Nat.le_of_ble_eq_true rfl)
  rw [lg_entry_eq]
  generalize (lg_sl ([.ref o_Heap, .int p0]) ++ List.replicate (4 - (lg_sl ([.ref o_Heap, .int p0])).length) Slot.unset).toArray = ls at hl ⊢
  have hl : lv_has ls 4 [(0, .ref o_Heap), (1, .int p0)] := hl
  unfold m_Heap_layString at h
  refine lv_iload_n hx hb d_Heap_layString_0 rfl (lv_at hl 1 rfl) ?_
  obtain ⟨z1_1, hc1, h⟩ := dz_ob h
  try dsimp only at h
  have hPc := hP.sub (ws' := []) [] rfl
  have hKc := hK.sub (tys' := []) [] rfl
  refine vp_callSi (va_Run.run (va_runS (As := [.int p0]) (rest := []) ⟨hx, hb, hml, hown, hg⟩ (c_Value_cellsOfString l dC dI N p0 z1_1 hc1) (va_cwS 1 hg (gd_S k120 k121 k122 k119) rfl rfl rfl (by decide +kernel) ⟨Nat.le_of_ble_eq_true rfl, Nat.le_of_ble_eq_true rfl⟩) ⟨dz_blindR, fun U hU hW => ⟨rfl, dz_Nw hW hN, by rw [hU]; exact hPc, va_K.moved hW.alike hKc⟩⟩ rfl rfl hl.1 rfl (lv_room (Nat.le_of_ble_eq_true rfl)) d_Heap_layString_1 ⟨Nat.le_of_ble_eq_true rfl, Nat.le_of_ble_eq_true rfl⟩)) (fun r1 hw => ?_)
  have hw : z1_1 = r1 := hw.symm
  subst hw
  refine lv_istore_n (lv' := [(2, .int z1_1), (0, .ref o_Heap), (1, .int p0)]) hx hb d_Heap_layString_4 rfl hl (by decide) rfl (fun ls hl => ?_)
  refine lv_aload_n hx hb d_Heap_layString_5 rfl (lv_at hl 1 rfl) ?_
  refine lv_bipush (v := 6) hx hb d_Heap_layString_6 (by decide) ?_
  refine lv_iload_n hx hb d_Heap_layString_8 rfl (lv_at hl 2 rfl) ?_
  refine lv_iconst (v := 0) hx hb d_Heap_layString_9 (by decide) ?_
  obtain ⟨z2_1, hc2, h⟩ := dz_ob h
  try dsimp only at h
  have hPc := hP.sub (ws' := []) [] rfl
  have hKc := hK.sub (tys' := []) [] rfl
  refine vp_callSl (va_Run.run (va_runS (As := [.int 6, .int p0, .int 0]) (rest := [.ref o_Heap]) ⟨hx, hb, hml, hown, hg⟩ (c_Value_head l dC dI N (6 : Int32) p0 (0 : Int32) z2_1 hc2) (va_cwS 3 hg (gd_S k124 k125 k122 k123) rfl rfl rfl (by decide +kernel) ⟨Nat.le_of_ble_eq_true rfl, Nat.le_of_ble_eq_true rfl⟩) ⟨dz_blindR, fun U hU hW => ⟨rfl, dz_Nw hW hN, by rw [hU]; exact hPc, va_K.moved hW.alike hKc⟩⟩ rfl rfl hl.1 rfl (lv_room (Nat.le_of_ble_eq_true rfl)) d_Heap_layString_10 ⟨Nat.le_of_ble_eq_true rfl, Nat.le_of_ble_eq_true rfl⟩)) (fun r2 hw => ?_)
  have hw : z2_1 = r2 := hw.symm
  subst hw
  refine lv_iload_n hx hb d_Heap_layString_13 rfl (lv_at hl 0 rfl) ?_
  obtain ⟨⟨z3_1, z3_2, z3_3, z3_4⟩, hc3, h⟩ := dz_ob h
  try dsimp only at h
  have hPc := hP.sub (ws' := [(o_Heap, .inr (3, [.ref o_Stacks, .ref r_H_globals, .int H_globalsUsed, .ref r_H_cells, .int H_used, .ref r_H_spare, .int H_spareUsed, .int H_old, .int H_oldLeadsToNew, .int H_limit, .int H_every, .int H_fresh, .int H_made, .int H_madeLimit, .int H_reachedFromGlobals, .int H_reachedInAll, .ref r_H_keptGlobals, .int H_keptGlobalsUsed, .ref r_H_keptCells, .int H_kept])), (r_H_cells, .inl (cL, n_H_cells, .inr (.inl f_H_cells)))]) [0, 1] rfl
  have hKc := hK.sub (tys' := [(cL, .long)]) [0] rfl
  have hDc := hD.sub (ws' := [(o_Heap, .inr (3, [.ref o_Stacks, .ref r_H_globals, .int H_globalsUsed, .ref r_H_cells, .int H_used, .ref r_H_spare, .int H_spareUsed, .int H_old, .int H_oldLeadsToNew, .int H_limit, .int H_every, .int H_fresh, .int H_made, .int H_madeLimit, .int H_reachedFromGlobals, .int H_reachedInAll, .ref r_H_keptGlobals, .int H_keptGlobalsUsed, .ref r_H_keptCells, .int H_kept])), (r_H_cells, .inl (cL, n_H_cells, .inr (.inl f_H_cells)))]) [0, 1] (by decide) rfl
  have hFc := va_free (wc := [(o_Heap, .inr (3, [.ref o_Stacks, .ref r_H_globals, .int H_globalsUsed, .ref r_H_cells, .int H_used, .ref r_H_spare, .int H_spareUsed, .int H_old, .int H_oldLeadsToNew, .int H_limit, .int H_every, .int H_fresh, .int H_made, .int H_madeLimit, .int H_reachedFromGlobals, .int H_reachedInAll, .ref r_H_keptGlobals, .int H_keptGlobalsUsed, .ref r_H_keptCells, .int H_kept])), (r_H_cells, .inl (cL, n_H_cells, .inr (.inl f_H_cells)))]) hD hS hA [0, 1] rfl
  refine va_calli (va_runV (As := [.long z2_1, .int z1_1]) (rest := []) ⟨hx, hb, hml, hown, hg⟩ (c_Heap_lay l dC dI N cL o_Heap o_Stacks r_H_globals r_H_cells r_H_spare r_H_keptGlobals r_H_keptCells H_globalsUsed H_used H_spareUsed H_old H_oldLeadsToNew H_limit H_every H_fresh H_made H_madeLimit H_reachedFromGlobals H_reachedInAll H_keptGlobalsUsed H_kept n_H_cells f_H_cells z2_1 z1_1 s.heap.size (z3_1, z3_2, z3_3, z3_4) hc3) (cwV 2 hg (gd_V k127 k128 k129 k130 k126) rfl rfl rfl (by decide +kernel) ⟨Nat.le_of_ble_eq_true rfl, Nat.le_of_ble_eq_true rfl⟩) ⟨dz_blind, va_recv hKc hPc (ci := 3) (q0 := 0) rfl rfl, fun U hU hW => ⟨rfl, dz_Nw hW hN, by rw [hU], by rw [hU]; exact hPc, va_K.moved hW.alike hKc, hDc.weaken (fun _ _ _ _ => trivial)⟩⟩ rfl rfl hl.1 rfl (lv_room (Nat.le_of_ble_eq_true rfl)) d_Heap_layString_14 ⟨Nat.le_of_ble_eq_true rfl, Nat.le_of_ble_eq_true rfl⟩) hS (fun q _ h => hFc q h) hFc (fun r3 u3 t3 H1 locs ht hvm hw hB hz1 hk1 hS => ?_)
  obtain ⟨hP1, hK1, hD1⟩ := hB
  rw [ht] at hP1
  obtain ⟨hP, hD⟩ := va_join (wr := []) (w1 := [(o_Heap, .inr (3, [.ref o_Stacks, .ref r_H_globals, .int H_globalsUsed, .ref r_H_cells, .int z3_4, .ref r_H_spare, .int H_spareUsed, .int H_old, .int H_oldLeadsToNew, .int H_limit, .int H_every, .int z3_3, .int H_made, .int H_madeLimit, .int H_reachedFromGlobals, .int H_reachedInAll, .ref r_H_keptGlobals, .int H_keptGlobalsUsed, .ref r_H_keptCells, .int H_kept])), (r_H_cells, .inl (cL, n_H_cells, .inr (.inl z3_2)))]) hP hD [0, 1] [] rfl rfl (by decide) (by decide) hk1 hFc hP1 hD1
  have hw : z3_1 = r3 := hw.symm
  subst hw
  generalize H1 = H at hP hS ⊢
  have hP : va_P (dC, dI) classes [(o_Heap, .inr (3, [.ref o_Stacks, .ref r_H_globals, .int H_globalsUsed, .ref r_H_cells, .int z3_4, .ref r_H_spare, .int H_spareUsed, .int H_old, .int H_oldLeadsToNew, .int H_limit, .int H_every, .int z3_3, .int H_made, .int H_madeLimit, .int H_reachedFromGlobals, .int H_reachedInAll, .ref r_H_keptGlobals, .int H_keptGlobalsUsed, .ref r_H_keptCells, .int H_kept])), (r_H_cells, .inl (cL, n_H_cells, .inr (.inl z3_2)))] H := hP
  have hD : va_D A [(o_Heap, .inr (3, [.ref o_Stacks, .ref r_H_globals, .int H_globalsUsed, .ref r_H_cells, .int z3_4, .ref r_H_spare, .int H_spareUsed, .int H_old, .int H_oldLeadsToNew, .int H_limit, .int H_every, .int z3_3, .int H_made, .int H_madeLimit, .int H_reachedFromGlobals, .int H_reachedInAll, .ref r_H_keptGlobals, .int H_keptGlobalsUsed, .ref r_H_keptCells, .int H_kept])), (r_H_cells, .inl (cL, n_H_cells, .inr (.inl z3_2)))] := hD
  refine lv_istore_n (lv' := [(3, .int z3_1), (2, .int z1_1), (0, .ref o_Heap), (1, .int p0)]) hx hb d_Heap_layString_17 rfl hl (by decide) rfl (fun ls hl => ?_)
  refine lv_aload_n hx hb d_Heap_layString_18 rfl (lv_at hl 2 rfl) ?_
  refine va_get (D := (dC, dI)) (ci := 3) (v := .ref r_H_cells) (C := R_Heap) (T := F_Heap) (N := 20) hx hb hg i_Heap hown hK hP 0 rfl rfl 3 (by decide) (hg _ k112) (fun _ h9 => h9) rfl d_Heap_layString_19 ?_
  refine lv_iload_n hx hb d_Heap_layString_22 rfl (lv_at hl 0 rfl) ?_
  refine lv_iconst (v := 1) hx hb d_Heap_layString_23 (by decide) ?_
  refine lv_iadd hx hb d_Heap_layString_24 ?_
  refine lv_iload_n hx hb d_Heap_layString_25 rfl (lv_at hl 0 rfl) ?_
  refine lv_iload_n hx hb d_Heap_layString_26 rfl (lv_at hl 1 rfl) ?_
  refine lv_iadd hx hb d_Heap_layString_27 ?_
  refine lv_lconst (v := 0) hx hb d_Heap_layString_28 (by decide) ?_
  obtain ⟨z4_1, hc4, h⟩ := dz_ob h
  try dsimp only at h
  have hPc := hP.sub (ws' := [(r_H_cells, .inl (cL, n_H_cells, .inr (.inl z3_2)))]) [1] rfl
  have hKc := hK.sub (tys' := [(cL, .long)]) [0] rfl
  have hDc := hD.sub (ws' := [(r_H_cells, .inl (cL, n_H_cells, .inr (.inl z3_2)))]) [1] (by decide) rfl
  have hFc := va_free (wc := [(r_H_cells, .inl (cL, n_H_cells, .inr (.inl z3_2)))]) hD hS hA [1] rfl
  refine va_callv (va_runS (As := [.ref r_H_cells, .int (z3_1 + 1), .int (z3_1 + z1_1), .long 0]) (rest := []) ⟨hx, hb, hml, hown, hg⟩ (c_Arrays_fill l dC dI N cL r_H_cells n_H_cells z3_2 (z3_1 + 1) (z3_1 + z1_1) (0 : Int64) H.size z4_1 hc4) (va_cwS 4 hg (gd_S k132 k133 k22 k131) rfl rfl rfl (by decide +kernel) ⟨Nat.le_of_ble_eq_true rfl, Nat.le_of_ble_eq_true rfl⟩) ⟨dz_blind, fun U hU hW => ⟨rfl, dz_Nw hW hN, by rw [hU], by rw [hU]; exact hPc, va_K.moved hW.alike hKc, hDc.weaken (fun _ _ _ _ => trivial)⟩⟩ rfl rfl hl.1 rfl (lv_room (Nat.le_of_ble_eq_true rfl)) d_Heap_layString_29 ⟨Nat.le_of_ble_eq_true rfl, Nat.le_of_ble_eq_true rfl⟩) hS (fun q _ h => hFc q h) hFc (fun u4 t4 H1 locs ht hvm hw hB hz1 hk1 hS => ?_)
  obtain ⟨hP1, hK1, hD1⟩ := hB
  rw [ht] at hP1
  obtain ⟨hP, hD⟩ := va_join (wr := [(o_Heap, .inr (3, [.ref o_Stacks, .ref r_H_globals, .int H_globalsUsed, .ref r_H_cells, .int z3_4, .ref r_H_spare, .int H_spareUsed, .int H_old, .int H_oldLeadsToNew, .int H_limit, .int H_every, .int z3_3, .int H_made, .int H_madeLimit, .int H_reachedFromGlobals, .int H_reachedInAll, .ref r_H_keptGlobals, .int H_keptGlobalsUsed, .ref r_H_keptCells, .int H_kept]))]) (w1 := [(r_H_cells, .inl (cL, n_H_cells, .inr (.inl z4_1)))]) hP hD [1] [0] rfl rfl (by decide) (by decide) hk1 hFc hP1 hD1
  generalize H1 = H at hP hS ⊢
  have hP : va_P (dC, dI) classes [(o_Heap, .inr (3, [.ref o_Stacks, .ref r_H_globals, .int H_globalsUsed, .ref r_H_cells, .int z3_4, .ref r_H_spare, .int H_spareUsed, .int H_old, .int H_oldLeadsToNew, .int H_limit, .int H_every, .int z3_3, .int H_made, .int H_madeLimit, .int H_reachedFromGlobals, .int H_reachedInAll, .ref r_H_keptGlobals, .int H_keptGlobalsUsed, .ref r_H_keptCells, .int H_kept])), (r_H_cells, .inl (cL, n_H_cells, .inr (.inl z4_1)))] H := hP
  have hD : va_D A [(o_Heap, .inr (3, [.ref o_Stacks, .ref r_H_globals, .int H_globalsUsed, .ref r_H_cells, .int z3_4, .ref r_H_spare, .int H_spareUsed, .int H_old, .int H_oldLeadsToNew, .int H_limit, .int H_every, .int z3_3, .int H_made, .int H_madeLimit, .int H_reachedFromGlobals, .int H_reachedInAll, .ref r_H_keptGlobals, .int H_keptGlobalsUsed, .ref r_H_keptCells, .int H_kept])), (r_H_cells, .inl (cL, n_H_cells, .inr (.inl z4_1)))] := hD
  refine lv_iload_n hx hb d_Heap_layString_32 rfl (lv_at hl 0 rfl) ?_
  obtain rfl := Option.some.inj h
  have hP9 := hP.sub (ws' := [(o_Heap, .inr (3, [.ref o_Stacks, .ref r_H_globals, .int H_globalsUsed, .ref r_H_cells, .int z3_4, .ref r_H_spare, .int H_spareUsed, .int H_old, .int H_oldLeadsToNew, .int H_limit, .int H_every, .int z3_3, .int H_made, .int H_madeLimit, .int H_reachedFromGlobals, .int H_reachedInAll, .ref r_H_keptGlobals, .int H_keptGlobalsUsed, .ref r_H_keptCells, .int H_kept])), (r_H_cells, .inl (cL, n_H_cells, .inr (.inl z4_1)))]) [0, 1] rfl
  have hD9 := hD.sub (ws' := [(o_Heap, .inr (3, [.ref o_Stacks, .ref r_H_globals, .int H_globalsUsed, .ref r_H_cells, .int z3_4, .ref r_H_spare, .int H_spareUsed, .int H_old, .int H_oldLeadsToNew, .int H_limit, .int H_every, .int z3_3, .int H_made, .int H_madeLimit, .int H_reachedFromGlobals, .int H_reachedInAll, .ref r_H_keptGlobals, .int H_keptGlobalsUsed, .ref r_H_keptCells, .int H_kept])), (r_H_cells, .inl (cL, n_H_cells, .inr (.inl z4_1)))]) [0, 1] (by decide) rfl
  have hK9 := hK.sub (tys' := [(cL, .long)]) [0] rfl
  exact W.iret (v := z3_1) hx hb hr (fun t ht hW => ⟨⟨z3_1, (), rfl, rfl, by rw [ht]; exact hP9, va_K.moved hW.alike hK9, hD9⟩, hS.F ht⟩) hS.2.2 d_Heap_layString_33

set_option maxHeartbeats 4000000 in
set_option maxRecDepth 100000 in
theorem c_Heap_setByte (l : Launch) (dC : Nat → ClassId) (dI : Nat → Nat → Nat) (N : Nat) (cL : ClassId) (o_Heap : Nat) (o_Stacks : Nat) (r_H_globals : Nat) (r_H_cells : Nat) (r_H_spare : Nat) (r_H_keptGlobals : Nat) (r_H_keptCells : Nat) (H_globalsUsed : Int32) (H_used : Int32) (H_spareUsed : Int32) (H_old : Int32) (H_oldLeadsToNew : Int32) (H_limit : Int32) (H_every : Int32) (H_fresh : Int32) (H_made : Int32) (H_madeLimit : Int32) (H_reachedFromGlobals : Int32) (H_reachedInAll : Int32) (H_keptGlobalsUsed : Int32) (H_kept : Int32) (n_H_cells : Nat) (f_H_cells : Nat → Int64) (p0 : Int32) (p1 : Int32) (p2 : Int32) (sz : Nat) (z : (Nat → Int64)) (h : m_Heap_setByte N H_globalsUsed H_used H_spareUsed H_old H_oldLeadsToNew H_limit H_every H_fresh H_made H_madeLimit H_reachedFromGlobals H_reachedInAll H_keptGlobalsUsed H_kept n_H_cells f_H_cells p0 p1 p2 = some z) : Met l y_Heap_setByte (.code y_Heap_setByte b_Heap_setByte 4 none :: lw_g) ({ frames := 0, cells := 0, slots := 0, locals := 0 }) (va_Pc [.ref o_Heap, .int p0, .int p1, .int p2] (fun U => dz_N U ∧ U.heap.size = sz ∧ va_P (dC, dI) classes [(o_Heap, .inr (3, [.ref o_Stacks, .ref r_H_globals, .int H_globalsUsed, .ref r_H_cells, .int H_used, .ref r_H_spare, .int H_spareUsed, .int H_old, .int H_oldLeadsToNew, .int H_limit, .int H_every, .int H_fresh, .int H_made, .int H_madeLimit, .int H_reachedFromGlobals, .int H_reachedInAll, .ref r_H_keptGlobals, .int H_keptGlobalsUsed, .ref r_H_keptCells, .int H_kept])), (r_H_cells, .inl (cL, n_H_cells, .inr (.inl f_H_cells)))] U.heap ∧ va_K (dC, dI) classes [(cL, .long)] U ∧ va_D (fun _ => True) [(o_Heap, .inr (3, [.ref o_Stacks, .ref r_H_globals, .int H_globalsUsed, .ref r_H_cells, .int H_used, .ref r_H_spare, .int H_spareUsed, .int H_old, .int H_oldLeadsToNew, .int H_limit, .int H_every, .int H_fresh, .int H_made, .int H_madeLimit, .int H_reachedFromGlobals, .int H_reachedInAll, .ref r_H_keptGlobals, .int H_keptGlobalsUsed, .ref r_H_keptCells, .int H_kept])), (r_H_cells, .inl (cL, n_H_cells, .inr (.inl f_H_cells)))])) (va_Qv (fun (_ : Unit) => True) (fun (u : Unit) t => va_P (dC, dI) classes [(o_Heap, .inr (3, [.ref o_Stacks, .ref r_H_globals, .int H_globalsUsed, .ref r_H_cells, .int H_used, .ref r_H_spare, .int H_spareUsed, .int H_old, .int H_oldLeadsToNew, .int H_limit, .int H_every, .int H_fresh, .int H_made, .int H_madeLimit, .int H_reachedFromGlobals, .int H_reachedInAll, .ref r_H_keptGlobals, .int H_keptGlobalsUsed, .ref r_H_keptCells, .int H_kept])), (r_H_cells, .inl (cL, n_H_cells, .inr (.inl z)))] t.heap ∧ va_K (dC, dI) classes [(cL, .long)] t ∧ va_D (va_A [(o_Heap, .inr (3, [.ref o_Stacks, .ref r_H_globals, .int H_globalsUsed, .ref r_H_cells, .int H_used, .ref r_H_spare, .int H_spareUsed, .int H_old, .int H_oldLeadsToNew, .int H_limit, .int H_every, .int H_fresh, .int H_made, .int H_madeLimit, .int H_reachedFromGlobals, .int H_reachedInAll, .ref r_H_keptGlobals, .int H_keptGlobalsUsed, .ref r_H_keptCells, .int H_kept])), (r_H_cells, .inl (cL, n_H_cells, .inr (.inl f_H_cells)))] sz) [(o_Heap, .inr (3, [.ref o_Stacks, .ref r_H_globals, .int H_globalsUsed, .ref r_H_cells, .int H_used, .ref r_H_spare, .int H_spareUsed, .int H_old, .int H_oldLeadsToNew, .int H_limit, .int H_every, .int H_fresh, .int H_made, .int H_madeLimit, .int H_reachedFromGlobals, .int H_reachedInAll, .ref r_H_keptGlobals, .int H_keptGlobalsUsed, .ref r_H_keptCells, .int H_kept])), (r_H_cells, .inl (cL, n_H_cells, .inr (.inl z)))]) (va_A [(o_Heap, .inr (3, [.ref o_Stacks, .ref r_H_globals, .int H_globalsUsed, .ref r_H_cells, .int H_used, .ref r_H_spare, .int H_spareUsed, .int H_old, .int H_oldLeadsToNew, .int H_limit, .int H_every, .int H_fresh, .int H_made, .int H_madeLimit, .int H_reachedFromGlobals, .int H_reachedInAll, .ref r_H_keptGlobals, .int H_keptGlobalsUsed, .ref r_H_keptCells, .int H_kept])), (r_H_cells, .inl (cL, n_H_cells, .inr (.inl f_H_cells)))] sz)) 0 0 (va_A [(o_Heap, .inr (3, [.ref o_Stacks, .ref r_H_globals, .int H_globalsUsed, .ref r_H_cells, .int H_used, .ref r_H_spare, .int H_spareUsed, .int H_old, .int H_oldLeadsToNew, .int H_limit, .int H_every, .int H_fresh, .int H_made, .int H_madeLimit, .int H_reachedFromGlobals, .int H_reachedInAll, .ref r_H_keptGlobals, .int H_keptGlobalsUsed, .ref r_H_keptCells, .int H_kept])), (r_H_cells, .inl (cL, n_H_cells, .inr (.inl f_H_cells)))] sz) := by
  refine Met.ofW (cc := b_Heap_setByte) (maxL := 4) (ret := none) (by decide +kernel) rfl ?_
  intro p e s m args below meth c s₁ B hml hv
  obtain ⟨rfl, hN, hsz, hP, hK, hD0⟩ := hv
  have hx := B.exec
  have hb := B.bytes
  have hr := B.returns
  have hg : ∀ w ∈ lw_g, w.before _ s = true := fun w hw => atoms_spec (ws := .code y_Heap_setByte b_Heap_setByte 4 none :: lw_g) B.pre w (List.mem_cons_of_mem _ hw)
  have hown : s.vm.findClass R_Heap = some m.cls := findClass_of_methodNamed B.named
  have hlocks := B.notSynchronized
  clear B
  subst hsz
  have hD := hD0.self (sz := s.heap.size)
  generalize hAe : va_A [(o_Heap, .inr (3, [.ref o_Stacks, .ref r_H_globals, .int H_globalsUsed, .ref r_H_cells, .int H_used, .ref r_H_spare, .int H_spareUsed, .int H_old, .int H_oldLeadsToNew, .int H_limit, .int H_every, .int H_fresh, .int H_made, .int H_madeLimit, .int H_reachedFromGlobals, .int H_reachedInAll, .ref r_H_keptGlobals, .int H_keptGlobalsUsed, .ref r_H_keptCells, .int H_kept])), (r_H_cells, .inl (cL, n_H_cells, .inr (.inl f_H_cells)))] s.heap.size = A at hD ⊢
  have hA : ∀ q : Nat, s.heap.size ≤ q → A q := fun q h => by rw [← hAe]; exact Or.inr h
  have hS : va_S A s.heap s.heap [] := va_S.rf
  have hP : va_P (dC, dI) classes [(o_Heap, .inr (3, [.ref o_Stacks, .ref r_H_globals, .int H_globalsUsed, .ref r_H_cells, .int H_used, .ref r_H_spare, .int H_spareUsed, .int H_old, .int H_oldLeadsToNew, .int H_limit, .int H_every, .int H_fresh, .int H_made, .int H_madeLimit, .int H_reachedFromGlobals, .int H_reachedInAll, .ref r_H_keptGlobals, .int H_keptGlobalsUsed, .ref r_H_keptCells, .int H_kept])), (r_H_cells, .inl (cL, n_H_cells, .inr (.inl f_H_cells)))] s.heap := hP
  have hl := lv_entry ([.ref o_Heap, .int p0, .int p1, .int p2]) (n := 4) (Nat.le_of_ble_eq_true rfl)
  rw [lg_entry_eq]
  generalize (lg_sl ([.ref o_Heap, .int p0, .int p1, .int p2]) ++ List.replicate (4 - (lg_sl ([.ref o_Heap, .int p0, .int p1, .int p2])).length) Slot.unset).toArray = ls at hl ⊢
  have hl : lv_has ls 4 [(0, .ref o_Heap), (1, .int p0), (2, .int p1), (3, .int p2)] := hl
  unfold m_Heap_setByte at h
  refine lv_aload_n hx hb d_Heap_setByte_0 rfl (lv_at hl 0 rfl) ?_
  refine va_get (D := (dC, dI)) (ci := 3) (v := .ref r_H_cells) (C := R_Heap) (T := F_Heap) (N := 20) hx hb hg i_Heap hown hK hP 0 rfl rfl 3 (by decide) (hg _ k112) (fun _ h9 => h9) rfl d_Heap_setByte_1 ?_
  refine lv_iload_n hx hb d_Heap_setByte_4 rfl (lv_at hl 1 rfl) ?_
  refine lv_iconst (v := 1) hx hb d_Heap_setByte_5 (by decide) ?_
  refine lv_iadd hx hb d_Heap_setByte_6 ?_
  refine lv_iload_n hx hb d_Heap_setByte_7 rfl (lv_at hl 2 rfl) ?_
  refine lv_iconst (v := 4) hx hb d_Heap_setByte_8 (by decide) ?_
  refine lv_idiv hx hb d_Heap_setByte_9 (by decide) ?_
  refine lv_iadd hx hb d_Heap_setByte_10 ?_
  refine lv_dup2_11 hx hb d_Heap_setByte_11 rfl rfl ?_
  obtain ⟨i2, h⟩ := dz_oi h
  refine va_lald (D := (dC, dI)) hx hb hK hP 1 0 rfl rfl i2 d_Heap_setByte_12 ?_
  refine lv_iload_n hx hb d_Heap_setByte_13 rfl (lv_at hl 3 rfl) ?_
  refine lv_sipush (v := 255) hx hb d_Heap_setByte_14 (by decide) ?_
  refine lv_iand hx hb d_Heap_setByte_17 ?_
  refine lv_i2l (v := (p2 &&& 255).toInt64) hx hb d_Heap_setByte_18 rfl ?_
  refine lv_bipush (v := 24) hx hb d_Heap_setByte_19 (by decide) ?_
  refine lv_bipush (v := 8) hx hb d_Heap_setByte_21 (by decide) ?_
  refine lv_iload_n hx hb d_Heap_setByte_23 rfl (lv_at hl 2 rfl) ?_
  refine lv_iconst (v := 4) hx hb d_Heap_setByte_24 (by decide) ?_
  refine lv_irem hx hb d_Heap_setByte_25 (by decide) ?_
  refine lv_imul hx hb d_Heap_setByte_26 ?_
  refine lv_isub hx hb d_Heap_setByte_27 ?_
  refine lv_lshl (v := ((p2 &&& 255).toInt64) <<< ((24 - (8 * (p1 - p1 / 4 * 4))).toInt64 &&& 63)) hx hb d_Heap_setByte_28 rfl ?_
  obtain ⟨x4, ex4, h⟩ := dz_lt h
  refine dz_topl ex4 ?_
  refine lv_lor hx hb d_Heap_setByte_29 ?_
  obtain ⟨i5, h⟩ := dz_oi h
  refine va_last (D := (dC, dI)) hx hb hK hP hD hS 1 0 rfl rfl i5 d_Heap_setByte_30 (fun H locs hP hD hS => ?_)
  obtain ⟨g6, eg6, h⟩ := dz_lt h
  rw [← eg6] at hP hD
  have hP : va_P (dC, dI) classes [(o_Heap, .inr (3, [.ref o_Stacks, .ref r_H_globals, .int H_globalsUsed, .ref r_H_cells, .int H_used, .ref r_H_spare, .int H_spareUsed, .int H_old, .int H_oldLeadsToNew, .int H_limit, .int H_every, .int H_fresh, .int H_made, .int H_madeLimit, .int H_reachedFromGlobals, .int H_reachedInAll, .ref r_H_keptGlobals, .int H_keptGlobalsUsed, .ref r_H_keptCells, .int H_kept])), (r_H_cells, .inl (cL, n_H_cells, .inr (.inl g6)))] H := hP
  have hD : va_D A [(o_Heap, .inr (3, [.ref o_Stacks, .ref r_H_globals, .int H_globalsUsed, .ref r_H_cells, .int H_used, .ref r_H_spare, .int H_spareUsed, .int H_old, .int H_oldLeadsToNew, .int H_limit, .int H_every, .int H_fresh, .int H_made, .int H_madeLimit, .int H_reachedFromGlobals, .int H_reachedInAll, .ref r_H_keptGlobals, .int H_keptGlobalsUsed, .ref r_H_keptCells, .int H_kept])), (r_H_cells, .inl (cL, n_H_cells, .inr (.inl g6)))] := hD
  obtain rfl := Option.some.inj h
  have hP9 := hP.sub (ws' := [(o_Heap, .inr (3, [.ref o_Stacks, .ref r_H_globals, .int H_globalsUsed, .ref r_H_cells, .int H_used, .ref r_H_spare, .int H_spareUsed, .int H_old, .int H_oldLeadsToNew, .int H_limit, .int H_every, .int H_fresh, .int H_made, .int H_madeLimit, .int H_reachedFromGlobals, .int H_reachedInAll, .ref r_H_keptGlobals, .int H_keptGlobalsUsed, .ref r_H_keptCells, .int H_kept])), (r_H_cells, .inl (cL, n_H_cells, .inr (.inl g6)))]) [0, 1] rfl
  have hD9 := hD.sub (ws' := [(o_Heap, .inr (3, [.ref o_Stacks, .ref r_H_globals, .int H_globalsUsed, .ref r_H_cells, .int H_used, .ref r_H_spare, .int H_spareUsed, .int H_old, .int H_oldLeadsToNew, .int H_limit, .int H_every, .int H_fresh, .int H_made, .int H_madeLimit, .int H_reachedFromGlobals, .int H_reachedInAll, .ref r_H_keptGlobals, .int H_keptGlobalsUsed, .ref r_H_keptCells, .int H_kept])), (r_H_cells, .inl (cL, n_H_cells, .inr (.inl g6)))]) [0, 1] (by decide) rfl
  have hK9 := hK.sub (tys' := [(cL, .long)]) [0] rfl
  exact W.vret hx hb hr (fun t ht hW => ⟨⟨(), rfl, trivial, by rw [ht]; exact hP9, va_K.moved hW.alike hK9, hD9⟩, hS.F ht⟩) hS.2.2 d_Heap_setByte_31

set_option maxHeartbeats 4000000 in
set_option maxRecDepth 100000 in
theorem c_Heap_parts (l : Launch) (dC : Nat → ClassId) (dI : Nat → Nat → Nat) (N : Nat) (cL : ClassId) (o_Heap : Nat) (o_Stacks : Nat) (r_H_globals : Nat) (r_H_cells : Nat) (r_H_spare : Nat) (r_H_keptGlobals : Nat) (r_H_keptCells : Nat) (H_globalsUsed : Int32) (H_used : Int32) (H_spareUsed : Int32) (H_old : Int32) (H_oldLeadsToNew : Int32) (H_limit : Int32) (H_every : Int32) (H_fresh : Int32) (H_made : Int32) (H_madeLimit : Int32) (H_reachedFromGlobals : Int32) (H_reachedInAll : Int32) (H_keptGlobalsUsed : Int32) (H_kept : Int32) (n_H_cells : Nat) (f_H_cells : Nat → Int64) (p0 : Int64) (z : Int32) (h : m_Heap_parts N H_globalsUsed H_used H_spareUsed H_old H_oldLeadsToNew H_limit H_every H_fresh H_made H_madeLimit H_reachedFromGlobals H_reachedInAll H_keptGlobalsUsed H_kept n_H_cells f_H_cells p0 = some z) : Met l y_Heap_parts (.code y_Heap_parts b_Heap_parts 4 (some .int) :: lw_g) ({ frames := 1, cells := 0, slots := 0, locals := 23 }) (va_Pc [.ref o_Heap, .long p0] (fun U => dz_N U ∧ va_P (dC, dI) classes [(o_Heap, .inr (3, [.ref o_Stacks, .ref r_H_globals, .int H_globalsUsed, .ref r_H_cells, .int H_used, .ref r_H_spare, .int H_spareUsed, .int H_old, .int H_oldLeadsToNew, .int H_limit, .int H_every, .int H_fresh, .int H_made, .int H_madeLimit, .int H_reachedFromGlobals, .int H_reachedInAll, .ref r_H_keptGlobals, .int H_keptGlobalsUsed, .ref r_H_keptCells, .int H_kept])), (r_H_cells, .inl (cL, n_H_cells, .inr (.inl f_H_cells)))] U.heap ∧ va_K (dC, dI) classes [(cL, .long)] U)) (vp_Si (fun r => r = z)) 0 0 (fun _ => False) := by
  refine Met.ofW (cc := b_Heap_parts) (maxL := 4) (ret := (some .int)) (by decide +kernel) rfl ?_
  intro p e s m args below meth c s₁ B hml hv
  obtain ⟨rfl, hN, hP, hK⟩ := hv
  have hx := B.exec
  have hb := B.bytes
  have hr := B.returns
  have hg : ∀ w ∈ lw_g, w.before _ s = true := fun w hw => atoms_spec (ws := .code y_Heap_parts b_Heap_parts 4 (some .int) :: lw_g) B.pre w (List.mem_cons_of_mem _ hw)
  have hown : s.vm.findClass R_Heap = some m.cls := findClass_of_methodNamed B.named
  have hlocks := B.notSynchronized
  clear B
  have hP : va_P (dC, dI) classes [(o_Heap, .inr (3, [.ref o_Stacks, .ref r_H_globals, .int H_globalsUsed, .ref r_H_cells, .int H_used, .ref r_H_spare, .int H_spareUsed, .int H_old, .int H_oldLeadsToNew, .int H_limit, .int H_every, .int H_fresh, .int H_made, .int H_madeLimit, .int H_reachedFromGlobals, .int H_reachedInAll, .ref r_H_keptGlobals, .int H_keptGlobalsUsed, .ref r_H_keptCells, .int H_kept])), (r_H_cells, .inl (cL, n_H_cells, .inr (.inl f_H_cells)))] s.heap := hP
  have hl := lv_entry ([.ref o_Heap, .long p0]) (n := 4) (Nat.le_of_ble_eq_true rfl)
  rw [lg_entry_eq]
  generalize (lg_sl ([.ref o_Heap, .long p0]) ++ List.replicate (4 - (lg_sl ([.ref o_Heap, .long p0])).length) Slot.unset).toArray = ls at hl ⊢
  have hl : lv_has ls 4 [(0, .ref o_Heap), (1, .long p0)] := hl
  unfold m_Heap_parts at h
  refine lv_lload_n hx hb d_Heap_parts_0 rfl (lv_at hl 1 rfl) ?_
  obtain ⟨z1_1, hc1, h⟩ := dz_ob h
  try dsimp only at h
  have hPc := hP.sub (ws' := []) [] rfl
  have hKc := hK.sub (tys' := []) [] rfl
  refine vp_callSi (va_Run.run (va_runS (As := [.long p0]) (rest := []) ⟨hx, hb, hml, hown, hg⟩ (c_Value_kind l dC dI N p0 z1_1 hc1) (va_cwS 1 hg (gd_S k135 k136 k122 k134) rfl rfl rfl (by decide +kernel) ⟨Nat.le_of_ble_eq_true rfl, Nat.le_of_ble_eq_true rfl⟩) ⟨dz_blindR, fun U hU hW => ⟨rfl, dz_Nw hW hN, by rw [hU]; exact hPc, va_K.moved hW.alike hKc⟩⟩ rfl rfl hl.1 rfl (lv_room (Nat.le_of_ble_eq_true rfl)) d_Heap_parts_1 ⟨Nat.le_of_ble_eq_true rfl, Nat.le_of_ble_eq_true rfl⟩)) (fun r1 hw => ?_)
  have hw : z1_1 = r1 := hw.symm
  subst hw
  refine lv_istore_n (lv' := [(3, .int z1_1), (0, .ref o_Heap), (1, .long p0)]) hx hb d_Heap_parts_4 rfl hl (by decide) rfl (fun ls hl => ?_)
  refine lv_iload_n hx hb d_Heap_parts_5 rfl (lv_at hl 0 rfl) ?_
  refine lv_iconst (v := 2) hx hb d_Heap_parts_6 (by decide) ?_
  refine lv_icmp_lt (tgt := 16) hx hb d_Heap_parts_7 (by decide) (fun c2 => ?_) (fun c2 => ?_)
  · rw [if_pos c2] at h
    refine lv_iconst (v := 0) hx hb d_Heap_parts_16 (by decide) ?_
    obtain rfl := Option.some.inj h
    exact W.iret (v := 0) hx hb hr (fun t ht hW => ⟨_, rfl, rfl, ht⟩) (fun _ h => by cases h) d_Heap_parts_17
  · rw [if_neg c2] at h
    refine lv_iload_n hx hb d_Heap_parts_10 rfl (lv_at hl 0 rfl) ?_
    refine lv_bipush (v := 6) hx hb d_Heap_parts_11 (by decide) ?_
    refine lv_icmp_ne (tgt := 18) hx hb d_Heap_parts_13 (by decide) (fun c3 => ?_) (fun c3 => ?_)
    · rw [if_neg c3] at h
      refine lv_aload_n hx hb d_Heap_parts_18 rfl (lv_at hl 1 rfl) ?_
      refine lv_aload_n hx hb d_Heap_parts_19 rfl (lv_at hl 1 rfl) ?_
      refine va_get (D := (dC, dI)) (ci := 3) (v := .ref r_H_cells) (C := R_Heap) (T := F_Heap) (N := 20) hx hb hg i_Heap hown hK hP 0 rfl rfl 3 (by decide) (hg _ k112) (fun _ h9 => h9) rfl d_Heap_parts_20 ?_
      refine lv_lload_n hx hb d_Heap_parts_23 rfl (lv_at hl 2 rfl) ?_
      obtain ⟨z4_1, hc4, h⟩ := dz_ob h
      try dsimp only at h
      have hPc := hP.sub (ws' := []) [] rfl
      have hKc := hK.sub (tys' := []) [] rfl
      refine vp_callSi (va_Run.run (va_runS (As := [.long p0]) (rest := [.ref r_H_cells, .ref o_Heap]) ⟨hx, hb, hml, hown, hg⟩ (c_Value_number l dC dI N p0 z4_1 hc4) (va_cwS 1 hg (gd_S k138 k139 k122 k137) rfl rfl rfl (by decide +kernel) ⟨Nat.le_of_ble_eq_true rfl, Nat.le_of_ble_eq_true rfl⟩) ⟨dz_blindR, fun U hU hW => ⟨rfl, dz_Nw hW hN, by rw [hU]; exact hPc, va_K.moved hW.alike hKc⟩⟩ rfl rfl hl.1 rfl (lv_room (Nat.le_of_ble_eq_true rfl)) d_Heap_parts_24 ⟨Nat.le_of_ble_eq_true rfl, Nat.le_of_ble_eq_true rfl⟩)) (fun r4 hw => ?_)
      have hw : z4_1 = r4 := hw.symm
      subst hw
      obtain ⟨i5, h⟩ := dz_oi h
      refine va_lald (D := (dC, dI)) hx hb hK hP 1 0 rfl rfl i5 d_Heap_parts_27 ?_
      obtain ⟨z6_1, hc6, h⟩ := dz_ob h
      try dsimp only at h
      have hPc := hP.sub (ws' := [(o_Heap, .inr (3, [.ref o_Stacks, .ref r_H_globals, .int H_globalsUsed, .ref r_H_cells, .int H_used, .ref r_H_spare, .int H_spareUsed, .int H_old, .int H_oldLeadsToNew, .int H_limit, .int H_every, .int H_fresh, .int H_made, .int H_madeLimit, .int H_reachedFromGlobals, .int H_reachedInAll, .ref r_H_keptGlobals, .int H_keptGlobalsUsed, .ref r_H_keptCells, .int H_kept]))]) [0] rfl
      have hKc := hK.sub (tys' := []) [] rfl
      refine vp_callSi (va_Run.run (va_runV (As := [.long (f_H_cells z4_1.toNatClampNeg)]) (rest := []) ⟨hx, hb, hml, hown, hg⟩ (c_Heap_sizeOf l dC dI N o_Heap o_Stacks r_H_globals r_H_cells r_H_spare r_H_keptGlobals r_H_keptCells H_globalsUsed H_used H_spareUsed H_old H_oldLeadsToNew H_limit H_every H_fresh H_made H_madeLimit H_reachedFromGlobals H_reachedInAll H_keptGlobalsUsed H_kept (f_H_cells z4_1.toNatClampNeg) z6_1 hc6) (cwV 1 hg (gd_V k141 k142 k143 k130 k140) rfl rfl rfl (by decide +kernel) ⟨Nat.le_of_ble_eq_true rfl, Nat.le_of_ble_eq_true rfl⟩) ⟨dz_blindR, va_recv hKc hPc (ci := 3) (q0 := 0) rfl rfl, fun U hU hW => ⟨rfl, dz_Nw hW hN, by rw [hU]; exact hPc, va_K.moved hW.alike hKc⟩⟩ rfl rfl hl.1 rfl (lv_room (Nat.le_of_ble_eq_true rfl)) d_Heap_parts_28 ⟨Nat.le_of_ble_eq_true rfl, Nat.le_of_ble_eq_true rfl⟩)) (fun r6 hw => ?_)
      have hw : z6_1 = r6 := hw.symm
      subst hw
      refine lv_iconst (v := 1) hx hb d_Heap_parts_31 (by decide) ?_
      refine lv_isub hx hb d_Heap_parts_32 ?_
      obtain rfl := Option.some.inj h
      exact W.iret (v := z6_1 - 1) hx hb hr (fun t ht hW => ⟨_, rfl, rfl, ht⟩) (fun _ h => by cases h) d_Heap_parts_33
    · rw [if_pos c3] at h
      refine lv_iconst (v := 0) hx hb d_Heap_parts_16 (by decide) ?_
      obtain rfl := Option.some.inj h
      exact W.iret (v := 0) hx hb hr (fun t ht hW => ⟨_, rfl, rfl, ht⟩) (fun _ h => by cases h) d_Heap_parts_17

set_option maxHeartbeats 4000000 in
set_option maxRecDepth 100000 in
theorem c_Heap_part (l : Launch) (dC : Nat → ClassId) (dI : Nat → Nat → Nat) (N : Nat) (cL : ClassId) (o_Heap : Nat) (o_Stacks : Nat) (r_H_globals : Nat) (r_H_cells : Nat) (r_H_spare : Nat) (r_H_keptGlobals : Nat) (r_H_keptCells : Nat) (H_globalsUsed : Int32) (H_used : Int32) (H_spareUsed : Int32) (H_old : Int32) (H_oldLeadsToNew : Int32) (H_limit : Int32) (H_every : Int32) (H_fresh : Int32) (H_made : Int32) (H_madeLimit : Int32) (H_reachedFromGlobals : Int32) (H_reachedInAll : Int32) (H_keptGlobalsUsed : Int32) (H_kept : Int32) (n_H_cells : Nat) (f_H_cells : Nat → Int64) (p0 : Int64) (p1 : Int32) (z : Int64) (h : m_Heap_part N H_globalsUsed H_used H_spareUsed H_old H_oldLeadsToNew H_limit H_every H_fresh H_made H_madeLimit H_reachedFromGlobals H_reachedInAll H_keptGlobalsUsed H_kept n_H_cells f_H_cells p0 p1 = some z) : Met l y_Heap_part (.code y_Heap_part b_Heap_part 4 (some .long) :: lw_g) ({ frames := 1, cells := 0, slots := 0, locals := 21 }) (va_Pc [.ref o_Heap, .long p0, .int p1] (fun U => dz_N U ∧ va_P (dC, dI) classes [(o_Heap, .inr (3, [.ref o_Stacks, .ref r_H_globals, .int H_globalsUsed, .ref r_H_cells, .int H_used, .ref r_H_spare, .int H_spareUsed, .int H_old, .int H_oldLeadsToNew, .int H_limit, .int H_every, .int H_fresh, .int H_made, .int H_madeLimit, .int H_reachedFromGlobals, .int H_reachedInAll, .ref r_H_keptGlobals, .int H_keptGlobalsUsed, .ref r_H_keptCells, .int H_kept])), (r_H_cells, .inl (cL, n_H_cells, .inr (.inl f_H_cells)))] U.heap ∧ va_K (dC, dI) classes [(cL, .long)] U)) (vp_Sl (fun r => r = z)) 0 0 (fun _ => False) := by
  refine Met.ofW (cc := b_Heap_part) (maxL := 4) (ret := (some .long)) (by decide +kernel) rfl ?_
  intro p e s m args below meth c s₁ B hml hv
  obtain ⟨rfl, hN, hP, hK⟩ := hv
  have hx := B.exec
  have hb := B.bytes
  have hr := B.returns
  have hg : ∀ w ∈ lw_g, w.before _ s = true := fun w hw => atoms_spec (ws := .code y_Heap_part b_Heap_part 4 (some .long) :: lw_g) B.pre w (List.mem_cons_of_mem _ hw)
  have hown : s.vm.findClass R_Heap = some m.cls := findClass_of_methodNamed B.named
  have hlocks := B.notSynchronized
  clear B
  have hP : va_P (dC, dI) classes [(o_Heap, .inr (3, [.ref o_Stacks, .ref r_H_globals, .int H_globalsUsed, .ref r_H_cells, .int H_used, .ref r_H_spare, .int H_spareUsed, .int H_old, .int H_oldLeadsToNew, .int H_limit, .int H_every, .int H_fresh, .int H_made, .int H_madeLimit, .int H_reachedFromGlobals, .int H_reachedInAll, .ref r_H_keptGlobals, .int H_keptGlobalsUsed, .ref r_H_keptCells, .int H_kept])), (r_H_cells, .inl (cL, n_H_cells, .inr (.inl f_H_cells)))] s.heap := hP
  have hl := lv_entry ([.ref o_Heap, .long p0, .int p1]) (n := 4) (Nat.le_of_ble_eq_true rfl)
  rw [lg_entry_eq]
  generalize (lg_sl ([.ref o_Heap, .long p0, .int p1]) ++ List.replicate (4 - (lg_sl ([.ref o_Heap, .long p0, .int p1])).length) Slot.unset).toArray = ls at hl ⊢
  have hl : lv_has ls 4 [(0, .ref o_Heap), (1, .long p0), (3, .int p1)] := hl
  unfold m_Heap_part at h
  refine lv_aload_n hx hb d_Heap_part_0 rfl (lv_at hl 0 rfl) ?_
  refine va_get (D := (dC, dI)) (ci := 3) (v := .ref r_H_cells) (C := R_Heap) (T := F_Heap) (N := 20) hx hb hg i_Heap hown hK hP 0 rfl rfl 3 (by decide) (hg _ k112) (fun _ h9 => h9) rfl d_Heap_part_1 ?_
  refine lv_lload_n hx hb d_Heap_part_4 rfl (lv_at hl 1 rfl) ?_
  obtain ⟨z1_1, hc1, h⟩ := dz_ob h
  try dsimp only at h
  have hPc := hP.sub (ws' := []) [] rfl
  have hKc := hK.sub (tys' := []) [] rfl
  refine vp_callSi (va_Run.run (va_runS (As := [.long p0]) (rest := [.ref r_H_cells]) ⟨hx, hb, hml, hown, hg⟩ (c_Value_number l dC dI N p0 z1_1 hc1) (va_cwS 1 hg (gd_S k138 k139 k122 k137) rfl rfl rfl (by decide +kernel) ⟨Nat.le_of_ble_eq_true rfl, Nat.le_of_ble_eq_true rfl⟩) ⟨dz_blindR, fun U hU hW => ⟨rfl, dz_Nw hW hN, by rw [hU]; exact hPc, va_K.moved hW.alike hKc⟩⟩ rfl rfl hl.1 rfl (lv_room (Nat.le_of_ble_eq_true rfl)) d_Heap_part_5 ⟨Nat.le_of_ble_eq_true rfl, Nat.le_of_ble_eq_true rfl⟩)) (fun r1 hw => ?_)
  have hw : z1_1 = r1 := hw.symm
  subst hw
  refine lv_iload_n hx hb d_Heap_part_8 rfl (lv_at hl 2 rfl) ?_
  refine lv_iadd hx hb d_Heap_part_9 ?_
  obtain ⟨i2, h⟩ := dz_oi h
  refine va_lald (D := (dC, dI)) hx hb hK hP 1 0 rfl rfl i2 d_Heap_part_10 ?_
  obtain rfl := Option.some.inj h
  exact W.lret (v := f_H_cells (z1_1 + p1).toNatClampNeg) hx hb hr (fun t ht hW => ⟨_, rfl, rfl, ht⟩) (fun _ h => by cases h) d_Heap_part_11

set_option maxHeartbeats 4000000 in
set_option maxRecDepth 100000 in
theorem c_Heap_setGlobal (l : Launch) (dC : Nat → ClassId) (dI : Nat → Nat → Nat) (N : Nat) (cL : ClassId) (o_Heap : Nat) (o_Stacks : Nat) (r_H_globals : Nat) (r_H_cells : Nat) (r_H_spare : Nat) (r_H_keptGlobals : Nat) (r_H_keptCells : Nat) (H_globalsUsed : Int32) (H_used : Int32) (H_spareUsed : Int32) (H_old : Int32) (H_oldLeadsToNew : Int32) (H_limit : Int32) (H_every : Int32) (H_fresh : Int32) (H_made : Int32) (H_madeLimit : Int32) (H_reachedFromGlobals : Int32) (H_reachedInAll : Int32) (H_keptGlobalsUsed : Int32) (H_kept : Int32) (n_H_globals : Nat) (f_H_globals : Nat → Int64) (p0 : Int32) (p1 : Int64) (sz : Nat) (z : (Nat → Int64) × Int32) (h : m_Heap_setGlobal N H_globalsUsed H_used H_spareUsed H_old H_oldLeadsToNew H_limit H_every H_fresh H_made H_madeLimit H_reachedFromGlobals H_reachedInAll H_keptGlobalsUsed H_kept n_H_globals f_H_globals p0 p1 = some z) : Met l y_Heap_setGlobal (.code y_Heap_setGlobal b_Heap_setGlobal 4 none :: lw_g) ({ frames := 1, cells := 0, slots := 0, locals := 21 }) (va_Pc [.ref o_Heap, .int p0, .long p1] (fun U => dz_N U ∧ U.heap.size = sz ∧ va_P (dC, dI) classes [(o_Heap, .inr (3, [.ref o_Stacks, .ref r_H_globals, .int H_globalsUsed, .ref r_H_cells, .int H_used, .ref r_H_spare, .int H_spareUsed, .int H_old, .int H_oldLeadsToNew, .int H_limit, .int H_every, .int H_fresh, .int H_made, .int H_madeLimit, .int H_reachedFromGlobals, .int H_reachedInAll, .ref r_H_keptGlobals, .int H_keptGlobalsUsed, .ref r_H_keptCells, .int H_kept])), (r_H_globals, .inl (cL, n_H_globals, .inr (.inl f_H_globals)))] U.heap ∧ va_K (dC, dI) classes [(cL, .long)] U ∧ va_D (fun _ => True) [(o_Heap, .inr (3, [.ref o_Stacks, .ref r_H_globals, .int H_globalsUsed, .ref r_H_cells, .int H_used, .ref r_H_spare, .int H_spareUsed, .int H_old, .int H_oldLeadsToNew, .int H_limit, .int H_every, .int H_fresh, .int H_made, .int H_madeLimit, .int H_reachedFromGlobals, .int H_reachedInAll, .ref r_H_keptGlobals, .int H_keptGlobalsUsed, .ref r_H_keptCells, .int H_kept])), (r_H_globals, .inl (cL, n_H_globals, .inr (.inl f_H_globals)))])) (va_Qv (fun (_ : Unit) => True) (fun (u : Unit) t => va_P (dC, dI) classes [(o_Heap, .inr (3, [.ref o_Stacks, .ref r_H_globals, .int z.2, .ref r_H_cells, .int H_used, .ref r_H_spare, .int H_spareUsed, .int H_old, .int H_oldLeadsToNew, .int H_limit, .int H_every, .int H_fresh, .int H_made, .int H_madeLimit, .int H_reachedFromGlobals, .int H_reachedInAll, .ref r_H_keptGlobals, .int H_keptGlobalsUsed, .ref r_H_keptCells, .int H_kept])), (r_H_globals, .inl (cL, n_H_globals, .inr (.inl z.1)))] t.heap ∧ va_K (dC, dI) classes [(cL, .long)] t ∧ va_D (va_A [(o_Heap, .inr (3, [.ref o_Stacks, .ref r_H_globals, .int H_globalsUsed, .ref r_H_cells, .int H_used, .ref r_H_spare, .int H_spareUsed, .int H_old, .int H_oldLeadsToNew, .int H_limit, .int H_every, .int H_fresh, .int H_made, .int H_madeLimit, .int H_reachedFromGlobals, .int H_reachedInAll, .ref r_H_keptGlobals, .int H_keptGlobalsUsed, .ref r_H_keptCells, .int H_kept])), (r_H_globals, .inl (cL, n_H_globals, .inr (.inl f_H_globals)))] sz) [(o_Heap, .inr (3, [.ref o_Stacks, .ref r_H_globals, .int z.2, .ref r_H_cells, .int H_used, .ref r_H_spare, .int H_spareUsed, .int H_old, .int H_oldLeadsToNew, .int H_limit, .int H_every, .int H_fresh, .int H_made, .int H_madeLimit, .int H_reachedFromGlobals, .int H_reachedInAll, .ref r_H_keptGlobals, .int H_keptGlobalsUsed, .ref r_H_keptCells, .int H_kept])), (r_H_globals, .inl (cL, n_H_globals, .inr (.inl z.1)))]) (va_A [(o_Heap, .inr (3, [.ref o_Stacks, .ref r_H_globals, .int H_globalsUsed, .ref r_H_cells, .int H_used, .ref r_H_spare, .int H_spareUsed, .int H_old, .int H_oldLeadsToNew, .int H_limit, .int H_every, .int H_fresh, .int H_made, .int H_madeLimit, .int H_reachedFromGlobals, .int H_reachedInAll, .ref r_H_keptGlobals, .int H_keptGlobalsUsed, .ref r_H_keptCells, .int H_kept])), (r_H_globals, .inl (cL, n_H_globals, .inr (.inl f_H_globals)))] sz)) 0 0 (va_A [(o_Heap, .inr (3, [.ref o_Stacks, .ref r_H_globals, .int H_globalsUsed, .ref r_H_cells, .int H_used, .ref r_H_spare, .int H_spareUsed, .int H_old, .int H_oldLeadsToNew, .int H_limit, .int H_every, .int H_fresh, .int H_made, .int H_madeLimit, .int H_reachedFromGlobals, .int H_reachedInAll, .ref r_H_keptGlobals, .int H_keptGlobalsUsed, .ref r_H_keptCells, .int H_kept])), (r_H_globals, .inl (cL, n_H_globals, .inr (.inl f_H_globals)))] sz) := by
  refine Met.ofW (cc := b_Heap_setGlobal) (maxL := 4) (ret := none) (by decide +kernel) rfl ?_
  intro p e s m args below meth c s₁ B hml hv
  obtain ⟨rfl, hN, hsz, hP, hK, hD0⟩ := hv
  have hx := B.exec
  have hb := B.bytes
  have hr := B.returns
  have hg : ∀ w ∈ lw_g, w.before _ s = true := fun w hw => atoms_spec (ws := .code y_Heap_setGlobal b_Heap_setGlobal 4 none :: lw_g) B.pre w (List.mem_cons_of_mem _ hw)
  have hown : s.vm.findClass R_Heap = some m.cls := findClass_of_methodNamed B.named
  have hlocks := B.notSynchronized
  clear B
  subst hsz
  have hD := hD0.self (sz := s.heap.size)
  generalize hAe : va_A [(o_Heap, .inr (3, [.ref o_Stacks, .ref r_H_globals, .int H_globalsUsed, .ref r_H_cells, .int H_used, .ref r_H_spare, .int H_spareUsed, .int H_old, .int H_oldLeadsToNew, .int H_limit, .int H_every, .int H_fresh, .int H_made, .int H_madeLimit, .int H_reachedFromGlobals, .int H_reachedInAll, .ref r_H_keptGlobals, .int H_keptGlobalsUsed, .ref r_H_keptCells, .int H_kept])), (r_H_globals, .inl (cL, n_H_globals, .inr (.inl f_H_globals)))] s.heap.size = A at hD ⊢
  have hA : ∀ q : Nat, s.heap.size ≤ q → A q := fun q h => by rw [← hAe]; exact Or.inr h
  have hS : va_S A s.heap s.heap [] := va_S.rf
  have hP : va_P (dC, dI) classes [(o_Heap, .inr (3, [.ref o_Stacks, .ref r_H_globals, .int H_globalsUsed, .ref r_H_cells, .int H_used, .ref r_H_spare, .int H_spareUsed, .int H_old, .int H_oldLeadsToNew, .int H_limit, .int H_every, .int H_fresh, .int H_made, .int H_madeLimit, .int H_reachedFromGlobals, .int H_reachedInAll, .ref r_H_keptGlobals, .int H_keptGlobalsUsed, .ref r_H_keptCells, .int H_kept])), (r_H_globals, .inl (cL, n_H_globals, .inr (.inl f_H_globals)))] s.heap := hP
  have hl := lv_entry ([.ref o_Heap, .int p0, .long p1]) (n := 4) (Nat.le_of_ble_eq_true rfl)
  rw [lg_entry_eq]
  generalize (lg_sl ([.ref o_Heap, .int p0, .long p1]) ++ List.replicate (4 - (lg_sl ([.ref o_Heap, .int p0, .long p1])).length) Slot.unset).toArray = ls at hl ⊢
  have hl : lv_has ls 4 [(0, .ref o_Heap), (1, .int p0), (2, .long p1)] := hl
  unfold m_Heap_setGlobal at h
  refine lv_aload_n hx hb d_Heap_setGlobal_0 rfl (lv_at hl 0 rfl) ?_
  refine va_get (D := (dC, dI)) (ci := 3) (v := .ref r_H_globals) (C := R_Heap) (T := F_Heap) (N := 20) hx hb hg i_Heap hown hK hP 0 rfl rfl 1 (by decide) (hg _ k144) (fun _ h9 => h9) rfl d_Heap_setGlobal_1 ?_
  refine lv_iload_n hx hb d_Heap_setGlobal_4 rfl (lv_at hl 1 rfl) ?_
  refine lv_lload_n hx hb d_Heap_setGlobal_5 rfl (lv_at hl 2 rfl) ?_
  obtain ⟨i1, h⟩ := dz_oi h
  refine va_last (D := (dC, dI)) hx hb hK hP hD hS 1 0 rfl rfl i1 d_Heap_setGlobal_6 (fun H locs hP hD hS => ?_)
  have hP : va_P (dC, dI) classes [(o_Heap, .inr (3, [.ref o_Stacks, .ref r_H_globals, .int H_globalsUsed, .ref r_H_cells, .int H_used, .ref r_H_spare, .int H_spareUsed, .int H_old, .int H_oldLeadsToNew, .int H_limit, .int H_every, .int H_fresh, .int H_made, .int H_madeLimit, .int H_reachedFromGlobals, .int H_reachedInAll, .ref r_H_keptGlobals, .int H_keptGlobalsUsed, .ref r_H_keptCells, .int H_kept])), (r_H_globals, .inl (cL, n_H_globals, .inr (.inl (vp_updL f_H_globals p0.toNatClampNeg p1))))] H := hP
  have hD : va_D A [(o_Heap, .inr (3, [.ref o_Stacks, .ref r_H_globals, .int H_globalsUsed, .ref r_H_cells, .int H_used, .ref r_H_spare, .int H_spareUsed, .int H_old, .int H_oldLeadsToNew, .int H_limit, .int H_every, .int H_fresh, .int H_made, .int H_madeLimit, .int H_reachedFromGlobals, .int H_reachedInAll, .ref r_H_keptGlobals, .int H_keptGlobalsUsed, .ref r_H_keptCells, .int H_kept])), (r_H_globals, .inl (cL, n_H_globals, .inr (.inl (vp_updL f_H_globals p0.toNatClampNeg p1))))] := hD
  refine lv_aload_n hx hb d_Heap_setGlobal_7 rfl (lv_at hl 0 rfl) ?_
  refine lv_aload_n hx hb d_Heap_setGlobal_8 rfl (lv_at hl 0 rfl) ?_
  refine va_get (D := (dC, dI)) (ci := 3) (v := .int H_globalsUsed) (C := R_Heap) (T := F_Heap) (N := 20) hx hb hg i_Heap hown hK hP 0 rfl rfl 2 (by decide) (hg _ k145) (fun _ h9 => h9) rfl d_Heap_setGlobal_9 ?_
  refine lv_iload_n hx hb d_Heap_setGlobal_12 rfl (lv_at hl 1 rfl) ?_
  refine lv_iconst (v := 1) hx hb d_Heap_setGlobal_13 (by decide) ?_
  refine lv_iadd hx hb d_Heap_setGlobal_14 ?_
  obtain ⟨z2_1, hc2, h⟩ := dz_ob h
  try dsimp only at h
  have hPc := hP.sub (ws' := []) [] rfl
  have hKc := hK.sub (tys' := []) [] rfl
  refine vp_callSi (va_Run.run (va_runS (As := [.int H_globalsUsed, .int (p0 + 1)]) (rest := [.ref o_Heap]) ⟨hx, hb, hml, hown, hg⟩ (c_Math_max l dC dI N H_globalsUsed (p0 + 1) z2_1 hc2) (va_cwS 2 hg (gd_S k146 k6 k7 k4) rfl rfl rfl (by decide +kernel) ⟨Nat.le_of_ble_eq_true rfl, Nat.le_of_ble_eq_true rfl⟩) ⟨dz_blindR, fun U hU hW => ⟨rfl, dz_Nw hW hN, by rw [hU]; exact hPc, va_K.moved hW.alike hKc⟩⟩ rfl rfl hl.1 rfl (lv_room (Nat.le_of_ble_eq_true rfl)) d_Heap_setGlobal_15 ⟨Nat.le_of_ble_eq_true rfl, Nat.le_of_ble_eq_true rfl⟩)) (fun r2 hw => ?_)
  have hw : z2_1 = r2 := hw.symm
  subst hw
  refine va_put (D := (dC, dI)) (ci := 3) (v := .int z2_1) (ty := .int) (C := R_Heap) (T := F_Heap) (N := 20) hx hb hg i_Heap t_Heap t_Heap_ok n_Heap hown hK hP hD hS 0 rfl rfl 2 (by decide) (hg _ k145) (fun _ h9 => h9) rfl (by decide +kernel) rfl rfl (Nat.le_of_ble_eq_true rfl) d_Heap_setGlobal_18 (fun H locs hP hD hS => ?_)
  have hP : va_P (dC, dI) classes [(o_Heap, .inr (3, [.ref o_Stacks, .ref r_H_globals, .int z2_1, .ref r_H_cells, .int H_used, .ref r_H_spare, .int H_spareUsed, .int H_old, .int H_oldLeadsToNew, .int H_limit, .int H_every, .int H_fresh, .int H_made, .int H_madeLimit, .int H_reachedFromGlobals, .int H_reachedInAll, .ref r_H_keptGlobals, .int H_keptGlobalsUsed, .ref r_H_keptCells, .int H_kept])), (r_H_globals, .inl (cL, n_H_globals, .inr (.inl (vp_updL f_H_globals p0.toNatClampNeg p1))))] H := hP
  have hD : va_D A [(o_Heap, .inr (3, [.ref o_Stacks, .ref r_H_globals, .int z2_1, .ref r_H_cells, .int H_used, .ref r_H_spare, .int H_spareUsed, .int H_old, .int H_oldLeadsToNew, .int H_limit, .int H_every, .int H_fresh, .int H_made, .int H_madeLimit, .int H_reachedFromGlobals, .int H_reachedInAll, .ref r_H_keptGlobals, .int H_keptGlobalsUsed, .ref r_H_keptCells, .int H_kept])), (r_H_globals, .inl (cL, n_H_globals, .inr (.inl (vp_updL f_H_globals p0.toNatClampNeg p1))))] := hD
  obtain rfl := Option.some.inj h
  have hP9 := hP.sub (ws' := [(o_Heap, .inr (3, [.ref o_Stacks, .ref r_H_globals, .int z2_1, .ref r_H_cells, .int H_used, .ref r_H_spare, .int H_spareUsed, .int H_old, .int H_oldLeadsToNew, .int H_limit, .int H_every, .int H_fresh, .int H_made, .int H_madeLimit, .int H_reachedFromGlobals, .int H_reachedInAll, .ref r_H_keptGlobals, .int H_keptGlobalsUsed, .ref r_H_keptCells, .int H_kept])), (r_H_globals, .inl (cL, n_H_globals, .inr (.inl (vp_updL f_H_globals p0.toNatClampNeg p1))))]) [0, 1] rfl
  have hD9 := hD.sub (ws' := [(o_Heap, .inr (3, [.ref o_Stacks, .ref r_H_globals, .int z2_1, .ref r_H_cells, .int H_used, .ref r_H_spare, .int H_spareUsed, .int H_old, .int H_oldLeadsToNew, .int H_limit, .int H_every, .int H_fresh, .int H_made, .int H_madeLimit, .int H_reachedFromGlobals, .int H_reachedInAll, .ref r_H_keptGlobals, .int H_keptGlobalsUsed, .ref r_H_keptCells, .int H_kept])), (r_H_globals, .inl (cL, n_H_globals, .inr (.inl (vp_updL f_H_globals p0.toNatClampNeg p1))))]) [0, 1] (by decide) rfl
  have hK9 := hK.sub (tys' := [(cL, .long)]) [0] rfl
  exact W.vret hx hb hr (fun t ht hW => ⟨⟨(), rfl, trivial, by rw [ht]; exact hP9, va_K.moved hW.alike hK9, hD9⟩, hS.F ht⟩) hS.2.2 d_Heap_setGlobal_21

set_option maxHeartbeats 4000000 in
set_option maxRecDepth 100000 in
theorem c_Heap_told (l : Launch) (dC : Nat → ClassId) (dI : Nat → Nat → Nat) (N : Nat) (cL : ClassId) (o_Heap : Nat) (o_Stacks : Nat) (r_H_globals : Nat) (r_H_cells : Nat) (r_H_spare : Nat) (r_H_keptGlobals : Nat) (r_H_keptCells : Nat) (H_globalsUsed : Int32) (H_used : Int32) (H_spareUsed : Int32) (H_old : Int32) (H_oldLeadsToNew : Int32) (H_limit : Int32) (H_every : Int32) (H_fresh : Int32) (H_made : Int32) (H_madeLimit : Int32) (H_reachedFromGlobals : Int32) (H_reachedInAll : Int32) (H_keptGlobalsUsed : Int32) (H_kept : Int32) (n_H_cells : Nat) (f_H_cells : Nat → Int64) (p0 : Int64) (z : Int32) (h : m_Heap_told N H_globalsUsed H_used H_spareUsed H_old H_oldLeadsToNew H_limit H_every H_fresh H_made H_madeLimit H_reachedFromGlobals H_reachedInAll H_keptGlobalsUsed H_kept n_H_cells f_H_cells p0 = some z) : Met l y_Heap_told (.code y_Heap_told b_Heap_told 4 (some .int) :: lw_g) ({ frames := 1, cells := 0, slots := 0, locals := 21 }) (va_Pc [.ref o_Heap, .long p0] (fun U => dz_N U ∧ va_P (dC, dI) classes [(o_Heap, .inr (3, [.ref o_Stacks, .ref r_H_globals, .int H_globalsUsed, .ref r_H_cells, .int H_used, .ref r_H_spare, .int H_spareUsed, .int H_old, .int H_oldLeadsToNew, .int H_limit, .int H_every, .int H_fresh, .int H_made, .int H_madeLimit, .int H_reachedFromGlobals, .int H_reachedInAll, .ref r_H_keptGlobals, .int H_keptGlobalsUsed, .ref r_H_keptCells, .int H_kept])), (r_H_cells, .inl (cL, n_H_cells, .inr (.inl f_H_cells)))] U.heap ∧ va_K (dC, dI) classes [(cL, .long)] U)) (vp_Si (fun r => r = z)) 0 0 (fun _ => False) := by
  refine Met.ofW (cc := b_Heap_told) (maxL := 4) (ret := (some .int)) (by decide +kernel) rfl ?_
  intro p e s m args below meth c s₁ B hml hv
  obtain ⟨rfl, hN, hP, hK⟩ := hv
  have hx := B.exec
  have hb := B.bytes
  have hr := B.returns
  have hg : ∀ w ∈ lw_g, w.before _ s = true := fun w hw => atoms_spec (ws := .code y_Heap_told b_Heap_told 4 (some .int) :: lw_g) B.pre w (List.mem_cons_of_mem _ hw)
  have hown : s.vm.findClass R_Heap = some m.cls := findClass_of_methodNamed B.named
  have hlocks := B.notSynchronized
  clear B
  have hP : va_P (dC, dI) classes [(o_Heap, .inr (3, [.ref o_Stacks, .ref r_H_globals, .int H_globalsUsed, .ref r_H_cells, .int H_used, .ref r_H_spare, .int H_spareUsed, .int H_old, .int H_oldLeadsToNew, .int H_limit, .int H_every, .int H_fresh, .int H_made, .int H_madeLimit, .int H_reachedFromGlobals, .int H_reachedInAll, .ref r_H_keptGlobals, .int H_keptGlobalsUsed, .ref r_H_keptCells, .int H_kept])), (r_H_cells, .inl (cL, n_H_cells, .inr (.inl f_H_cells)))] s.heap := hP
  have hl := lv_entry ([.ref o_Heap, .long p0]) (n := 4) (Nat.le_of_ble_eq_true rfl)
  rw [lg_entry_eq]
  generalize (lg_sl ([.ref o_Heap, .long p0]) ++ List.replicate (4 - (lg_sl ([.ref o_Heap, .long p0])).length) Slot.unset).toArray = ls at hl ⊢
  have hl : lv_has ls 4 [(0, .ref o_Heap), (1, .long p0)] := hl
  unfold m_Heap_told at h
  refine lv_lload_n hx hb d_Heap_told_0 rfl (lv_at hl 1 rfl) ?_
  obtain ⟨z1_1, hc1, h⟩ := dz_ob h
  try dsimp only at h
  have hPc := hP.sub (ws' := []) [] rfl
  have hKc := hK.sub (tys' := []) [] rfl
  refine vp_callSi (va_Run.run (va_runS (As := [.long p0]) (rest := []) ⟨hx, hb, hml, hown, hg⟩ (c_Value_number l dC dI N p0 z1_1 hc1) (va_cwS 1 hg (gd_S k138 k139 k122 k137) rfl rfl rfl (by decide +kernel) ⟨Nat.le_of_ble_eq_true rfl, Nat.le_of_ble_eq_true rfl⟩) ⟨dz_blindR, fun U hU hW => ⟨rfl, dz_Nw hW hN, by rw [hU]; exact hPc, va_K.moved hW.alike hKc⟩⟩ rfl rfl hl.1 rfl (lv_room (Nat.le_of_ble_eq_true rfl)) d_Heap_told_1 ⟨Nat.le_of_ble_eq_true rfl, Nat.le_of_ble_eq_true rfl⟩)) (fun r1 hw => ?_)
  have hw : z1_1 = r1 := hw.symm
  subst hw
  refine lv_istore_n (lv' := [(3, .int z1_1), (0, .ref o_Heap), (1, .long p0)]) hx hb d_Heap_told_4 rfl hl (by decide) rfl (fun ls hl => ?_)
  refine lv_lload_n hx hb d_Heap_told_5 rfl (lv_at hl 2 rfl) ?_
  obtain ⟨z2_1, hc2, h⟩ := dz_ob h
  try dsimp only at h
  have hPc := hP.sub (ws' := []) [] rfl
  have hKc := hK.sub (tys' := []) [] rfl
  refine vp_callSi (va_Run.run (va_runS (As := [.long p0]) (rest := []) ⟨hx, hb, hml, hown, hg⟩ (c_Value_kind l dC dI N p0 z2_1 hc2) (va_cwS 1 hg (gd_S k135 k136 k122 k134) rfl rfl rfl (by decide +kernel) ⟨Nat.le_of_ble_eq_true rfl, Nat.le_of_ble_eq_true rfl⟩) ⟨dz_blindR, fun U hU hW => ⟨rfl, dz_Nw hW hN, by rw [hU]; exact hPc, va_K.moved hW.alike hKc⟩⟩ rfl rfl hl.1 rfl (lv_room (Nat.le_of_ble_eq_true rfl)) d_Heap_told_6 ⟨Nat.le_of_ble_eq_true rfl, Nat.le_of_ble_eq_true rfl⟩)) (fun r2 hw => ?_)
  have hw : z2_1 = r2 := hw.symm
  subst hw
  refine lv_iconst (v := 2) hx hb d_Heap_told_9 (by decide) ?_
  refine lv_icmp_ge (tgt := 17) hx hb d_Heap_told_10 (by decide) (fun c3 => ?_) (fun c3 => ?_)
  · rw [if_pos c3] at h
    refine lv_aload_n hx hb d_Heap_told_17 rfl (lv_at hl 1 rfl) ?_
    refine va_get (D := (dC, dI)) (ci := 3) (v := .ref r_H_cells) (C := R_Heap) (T := F_Heap) (N := 20) hx hb hg i_Heap hown hK hP 0 rfl rfl 3 (by decide) (hg _ k112) (fun _ h9 => h9) rfl d_Heap_told_18 ?_
    refine lv_iload_n hx hb d_Heap_told_21 rfl (lv_at hl 0 rfl) ?_
    obtain ⟨i4, h⟩ := dz_oi h
    refine va_lald (D := (dC, dI)) hx hb hK hP 1 0 rfl rfl i4 d_Heap_told_22 ?_
    obtain ⟨z5_1, hc5, h⟩ := dz_ob h
    try dsimp only at h
    have hPc := hP.sub (ws' := []) [] rfl
    have hKc := hK.sub (tys' := []) [] rfl
    refine vp_callSi (va_Run.run (va_runS (As := [.long (f_H_cells z1_1.toNatClampNeg)]) (rest := []) ⟨hx, hb, hml, hown, hg⟩ (c_Value_number l dC dI N (f_H_cells z1_1.toNatClampNeg) z5_1 hc5) (va_cwS 1 hg (gd_S k138 k139 k122 k137) rfl rfl rfl (by decide +kernel) ⟨Nat.le_of_ble_eq_true rfl, Nat.le_of_ble_eq_true rfl⟩) ⟨dz_blindR, fun U hU hW => ⟨rfl, dz_Nw hW hN, by rw [hU]; exact hPc, va_K.moved hW.alike hKc⟩⟩ rfl rfl hl.1 rfl (lv_room (Nat.le_of_ble_eq_true rfl)) d_Heap_told_23 ⟨Nat.le_of_ble_eq_true rfl, Nat.le_of_ble_eq_true rfl⟩)) (fun r5 hw => ?_)
    have hw : z5_1 = r5 := hw.symm
    subst hw
    obtain rfl := Option.some.inj h
    exact W.iret (v := z5_1) hx hb hr (fun t ht hW => ⟨_, rfl, rfl, ht⟩) (fun _ h => by cases h) d_Heap_told_26
  · rw [if_neg c3] at h
    refine lv_iload_n hx hb d_Heap_told_13 rfl (lv_at hl 0 rfl) ?_
    refine lv_goto (tgt := 26) hx hb d_Heap_told_14 (by decide) ?_
    obtain rfl := Option.some.inj h
    exact W.iret (v := z1_1) hx hb hr (fun t ht hW => ⟨_, rfl, rfl, ht⟩) (fun _ h => by cases h) d_Heap_told_26

set_option maxHeartbeats 4000000 in
set_option maxRecDepth 100000 in
theorem c_Heap_change (l : Launch) (dC : Nat → ClassId) (dI : Nat → Nat → Nat) (N : Nat) (cL : ClassId) (o_Heap : Nat) (o_Stacks : Nat) (r_H_globals : Nat) (r_H_cells : Nat) (r_H_spare : Nat) (r_H_keptGlobals : Nat) (r_H_keptCells : Nat) (H_globalsUsed : Int32) (H_used : Int32) (H_spareUsed : Int32) (H_old : Int32) (H_oldLeadsToNew : Int32) (H_limit : Int32) (H_every : Int32) (H_fresh : Int32) (H_made : Int32) (H_madeLimit : Int32) (H_reachedFromGlobals : Int32) (H_reachedInAll : Int32) (H_keptGlobalsUsed : Int32) (H_kept : Int32) (n_H_cells : Nat) (f_H_cells : Nat → Int64) (p0 : Int32) (p1 : Int64) (sz : Nat) (z : (Nat → Int64) × Int32) (h : m_Heap_change N H_globalsUsed H_used H_spareUsed H_old H_oldLeadsToNew H_limit H_every H_fresh H_made H_madeLimit H_reachedFromGlobals H_reachedInAll H_keptGlobalsUsed H_kept n_H_cells f_H_cells p0 p1 = some z) : Met l y_Heap_change (.code y_Heap_change b_Heap_change 4 none :: lw_g) ({ frames := 1, cells := 0, slots := 0, locals := 21 }) (va_Pc [.ref o_Heap, .int p0, .long p1] (fun U => dz_N U ∧ U.heap.size = sz ∧ va_P (dC, dI) classes [(o_Heap, .inr (3, [.ref o_Stacks, .ref r_H_globals, .int H_globalsUsed, .ref r_H_cells, .int H_used, .ref r_H_spare, .int H_spareUsed, .int H_old, .int H_oldLeadsToNew, .int H_limit, .int H_every, .int H_fresh, .int H_made, .int H_madeLimit, .int H_reachedFromGlobals, .int H_reachedInAll, .ref r_H_keptGlobals, .int H_keptGlobalsUsed, .ref r_H_keptCells, .int H_kept])), (r_H_cells, .inl (cL, n_H_cells, .inr (.inl f_H_cells)))] U.heap ∧ va_K (dC, dI) classes [(cL, .long)] U ∧ va_D (fun _ => True) [(o_Heap, .inr (3, [.ref o_Stacks, .ref r_H_globals, .int H_globalsUsed, .ref r_H_cells, .int H_used, .ref r_H_spare, .int H_spareUsed, .int H_old, .int H_oldLeadsToNew, .int H_limit, .int H_every, .int H_fresh, .int H_made, .int H_madeLimit, .int H_reachedFromGlobals, .int H_reachedInAll, .ref r_H_keptGlobals, .int H_keptGlobalsUsed, .ref r_H_keptCells, .int H_kept])), (r_H_cells, .inl (cL, n_H_cells, .inr (.inl f_H_cells)))])) (va_Qv (fun (_ : Unit) => True) (fun (u : Unit) t => va_P (dC, dI) classes [(o_Heap, .inr (3, [.ref o_Stacks, .ref r_H_globals, .int H_globalsUsed, .ref r_H_cells, .int H_used, .ref r_H_spare, .int H_spareUsed, .int H_old, .int z.2, .int H_limit, .int H_every, .int H_fresh, .int H_made, .int H_madeLimit, .int H_reachedFromGlobals, .int H_reachedInAll, .ref r_H_keptGlobals, .int H_keptGlobalsUsed, .ref r_H_keptCells, .int H_kept])), (r_H_cells, .inl (cL, n_H_cells, .inr (.inl z.1)))] t.heap ∧ va_K (dC, dI) classes [(cL, .long)] t ∧ va_D (va_A [(o_Heap, .inr (3, [.ref o_Stacks, .ref r_H_globals, .int H_globalsUsed, .ref r_H_cells, .int H_used, .ref r_H_spare, .int H_spareUsed, .int H_old, .int H_oldLeadsToNew, .int H_limit, .int H_every, .int H_fresh, .int H_made, .int H_madeLimit, .int H_reachedFromGlobals, .int H_reachedInAll, .ref r_H_keptGlobals, .int H_keptGlobalsUsed, .ref r_H_keptCells, .int H_kept])), (r_H_cells, .inl (cL, n_H_cells, .inr (.inl f_H_cells)))] sz) [(o_Heap, .inr (3, [.ref o_Stacks, .ref r_H_globals, .int H_globalsUsed, .ref r_H_cells, .int H_used, .ref r_H_spare, .int H_spareUsed, .int H_old, .int z.2, .int H_limit, .int H_every, .int H_fresh, .int H_made, .int H_madeLimit, .int H_reachedFromGlobals, .int H_reachedInAll, .ref r_H_keptGlobals, .int H_keptGlobalsUsed, .ref r_H_keptCells, .int H_kept])), (r_H_cells, .inl (cL, n_H_cells, .inr (.inl z.1)))]) (va_A [(o_Heap, .inr (3, [.ref o_Stacks, .ref r_H_globals, .int H_globalsUsed, .ref r_H_cells, .int H_used, .ref r_H_spare, .int H_spareUsed, .int H_old, .int H_oldLeadsToNew, .int H_limit, .int H_every, .int H_fresh, .int H_made, .int H_madeLimit, .int H_reachedFromGlobals, .int H_reachedInAll, .ref r_H_keptGlobals, .int H_keptGlobalsUsed, .ref r_H_keptCells, .int H_kept])), (r_H_cells, .inl (cL, n_H_cells, .inr (.inl f_H_cells)))] sz)) 0 0 (va_A [(o_Heap, .inr (3, [.ref o_Stacks, .ref r_H_globals, .int H_globalsUsed, .ref r_H_cells, .int H_used, .ref r_H_spare, .int H_spareUsed, .int H_old, .int H_oldLeadsToNew, .int H_limit, .int H_every, .int H_fresh, .int H_made, .int H_madeLimit, .int H_reachedFromGlobals, .int H_reachedInAll, .ref r_H_keptGlobals, .int H_keptGlobalsUsed, .ref r_H_keptCells, .int H_kept])), (r_H_cells, .inl (cL, n_H_cells, .inr (.inl f_H_cells)))] sz) := by
  refine Met.ofW (cc := b_Heap_change) (maxL := 4) (ret := none) (by decide +kernel) rfl ?_
  intro p e s m args below meth c s₁ B hml hv
  obtain ⟨rfl, hN, hsz, hP, hK, hD0⟩ := hv
  have hx := B.exec
  have hb := B.bytes
  have hr := B.returns
  have hg : ∀ w ∈ lw_g, w.before _ s = true := fun w hw => atoms_spec (ws := .code y_Heap_change b_Heap_change 4 none :: lw_g) B.pre w (List.mem_cons_of_mem _ hw)
  have hown : s.vm.findClass R_Heap = some m.cls := findClass_of_methodNamed B.named
  have hlocks := B.notSynchronized
  clear B
  subst hsz
  have hD := hD0.self (sz := s.heap.size)
  generalize hAe : va_A [(o_Heap, .inr (3, [.ref o_Stacks, .ref r_H_globals, .int H_globalsUsed, .ref r_H_cells, .int H_used, .ref r_H_spare, .int H_spareUsed, .int H_old, .int H_oldLeadsToNew, .int H_limit, .int H_every, .int H_fresh, .int H_made, .int H_madeLimit, .int H_reachedFromGlobals, .int H_reachedInAll, .ref r_H_keptGlobals, .int H_keptGlobalsUsed, .ref r_H_keptCells, .int H_kept])), (r_H_cells, .inl (cL, n_H_cells, .inr (.inl f_H_cells)))] s.heap.size = A at hD ⊢
  have hA : ∀ q : Nat, s.heap.size ≤ q → A q := fun q h => by rw [← hAe]; exact Or.inr h
  have hS : va_S A s.heap s.heap [] := va_S.rf
  have hP : va_P (dC, dI) classes [(o_Heap, .inr (3, [.ref o_Stacks, .ref r_H_globals, .int H_globalsUsed, .ref r_H_cells, .int H_used, .ref r_H_spare, .int H_spareUsed, .int H_old, .int H_oldLeadsToNew, .int H_limit, .int H_every, .int H_fresh, .int H_made, .int H_madeLimit, .int H_reachedFromGlobals, .int H_reachedInAll, .ref r_H_keptGlobals, .int H_keptGlobalsUsed, .ref r_H_keptCells, .int H_kept])), (r_H_cells, .inl (cL, n_H_cells, .inr (.inl f_H_cells)))] s.heap := hP
  have hl := lv_entry ([.ref o_Heap, .int p0, .long p1]) (n := 4) (Nat.le_of_ble_eq_true rfl)
  rw [lg_entry_eq]
  generalize (lg_sl ([.ref o_Heap, .int p0, .long p1]) ++ List.replicate (4 - (lg_sl ([.ref o_Heap, .int p0, .long p1])).length) Slot.unset).toArray = ls at hl ⊢
  have hl : lv_has ls 4 [(0, .ref o_Heap), (1, .int p0), (2, .long p1)] := hl
  unfold m_Heap_change at h
  refine lv_aload_n hx hb d_Heap_change_0 rfl (lv_at hl 0 rfl) ?_
  refine va_get (D := (dC, dI)) (ci := 3) (v := .ref r_H_cells) (C := R_Heap) (T := F_Heap) (N := 20) hx hb hg i_Heap hown hK hP 0 rfl rfl 3 (by decide) (hg _ k112) (fun _ h9 => h9) rfl d_Heap_change_1 ?_
  refine lv_iload_n hx hb d_Heap_change_4 rfl (lv_at hl 1 rfl) ?_
  refine lv_lload_n hx hb d_Heap_change_5 rfl (lv_at hl 2 rfl) ?_
  obtain ⟨i1, h⟩ := dz_oi h
  refine va_last (D := (dC, dI)) hx hb hK hP hD hS 1 0 rfl rfl i1 d_Heap_change_6 (fun H locs hP hD hS => ?_)
  have hP : va_P (dC, dI) classes [(o_Heap, .inr (3, [.ref o_Stacks, .ref r_H_globals, .int H_globalsUsed, .ref r_H_cells, .int H_used, .ref r_H_spare, .int H_spareUsed, .int H_old, .int H_oldLeadsToNew, .int H_limit, .int H_every, .int H_fresh, .int H_made, .int H_madeLimit, .int H_reachedFromGlobals, .int H_reachedInAll, .ref r_H_keptGlobals, .int H_keptGlobalsUsed, .ref r_H_keptCells, .int H_kept])), (r_H_cells, .inl (cL, n_H_cells, .inr (.inl (vp_updL f_H_cells p0.toNatClampNeg p1))))] H := hP
  have hD : va_D A [(o_Heap, .inr (3, [.ref o_Stacks, .ref r_H_globals, .int H_globalsUsed, .ref r_H_cells, .int H_used, .ref r_H_spare, .int H_spareUsed, .int H_old, .int H_oldLeadsToNew, .int H_limit, .int H_every, .int H_fresh, .int H_made, .int H_madeLimit, .int H_reachedFromGlobals, .int H_reachedInAll, .ref r_H_keptGlobals, .int H_keptGlobalsUsed, .ref r_H_keptCells, .int H_kept])), (r_H_cells, .inl (cL, n_H_cells, .inr (.inl (vp_updL f_H_cells p0.toNatClampNeg p1))))] := hD
  refine lv_iload_n hx hb d_Heap_change_7 rfl (lv_at hl 1 rfl) ?_
  refine lv_aload_n hx hb d_Heap_change_8 rfl (lv_at hl 0 rfl) ?_
  refine va_get (D := (dC, dI)) (ci := 3) (v := .int H_old) (C := R_Heap) (T := F_Heap) (N := 20) hx hb hg i_Heap hown hK hP 0 rfl rfl 7 (by decide) (hg _ k116) (fun _ h9 => h9) rfl d_Heap_change_9 ?_
  refine lv_icmp_ge (tgt := 39) hx hb d_Heap_change_12 (by decide) (fun c2 => ?_) (fun c2 => ?_)
  · rw [if_pos c2] at h
    obtain rfl := Option.some.inj h
    have hP9 := hP.sub (ws' := [(o_Heap, .inr (3, [.ref o_Stacks, .ref r_H_globals, .int H_globalsUsed, .ref r_H_cells, .int H_used, .ref r_H_spare, .int H_spareUsed, .int H_old, .int H_oldLeadsToNew, .int H_limit, .int H_every, .int H_fresh, .int H_made, .int H_madeLimit, .int H_reachedFromGlobals, .int H_reachedInAll, .ref r_H_keptGlobals, .int H_keptGlobalsUsed, .ref r_H_keptCells, .int H_kept])), (r_H_cells, .inl (cL, n_H_cells, .inr (.inl (vp_updL f_H_cells p0.toNatClampNeg p1))))]) [0, 1] rfl
    have hD9 := hD.sub (ws' := [(o_Heap, .inr (3, [.ref o_Stacks, .ref r_H_globals, .int H_globalsUsed, .ref r_H_cells, .int H_used, .ref r_H_spare, .int H_spareUsed, .int H_old, .int H_oldLeadsToNew, .int H_limit, .int H_every, .int H_fresh, .int H_made, .int H_madeLimit, .int H_reachedFromGlobals, .int H_reachedInAll, .ref r_H_keptGlobals, .int H_keptGlobalsUsed, .ref r_H_keptCells, .int H_kept])), (r_H_cells, .inl (cL, n_H_cells, .inr (.inl (vp_updL f_H_cells p0.toNatClampNeg p1))))]) [0, 1] (by decide) rfl
    have hK9 := hK.sub (tys' := [(cL, .long)]) [0] rfl
    exact W.vret hx hb hr (fun t ht hW => ⟨⟨(), rfl, trivial, by rw [ht]; exact hP9, va_K.moved hW.alike hK9, hD9⟩, hS.F ht⟩) hS.2.2 d_Heap_change_39
  · rw [if_neg c2] at h
    refine lv_lload_n hx hb d_Heap_change_15 rfl (lv_at hl 2 rfl) ?_
    obtain ⟨z3_1, hc3, h⟩ := dz_ob h
    try dsimp only at h
    have hPc := hP.sub (ws' := []) [] rfl
    have hKc := hK.sub (tys' := []) [] rfl
    refine vp_callSi (va_Run.run (va_runS (As := [.long p1]) (rest := []) ⟨hx, hb, hml, hown, hg⟩ (c_Value_kind l dC dI N p1 z3_1 hc3) (va_cwS 1 hg (gd_S k135 k136 k122 k134) rfl rfl rfl (by decide +kernel) ⟨Nat.le_of_ble_eq_true rfl, Nat.le_of_ble_eq_true rfl⟩) ⟨dz_blindR, fun U hU hW => ⟨rfl, dz_Nw hW hN, by rw [hU]; exact hPc, va_K.moved hW.alike hKc⟩⟩ rfl rfl hl.1 rfl (lv_room (Nat.le_of_ble_eq_true rfl)) d_Heap_change_16 ⟨Nat.le_of_ble_eq_true rfl, Nat.le_of_ble_eq_true rfl⟩)) (fun r3 hw => ?_)
    have hw : z3_1 = r3 := hw.symm
    subst hw
    refine lv_iconst (v := 2) hx hb d_Heap_change_19 (by decide) ?_
    refine lv_icmp_lt (tgt := 39) hx hb d_Heap_change_20 (by decide) (fun c4 => ?_) (fun c4 => ?_)
    · rw [if_pos c4] at h
      obtain rfl := Option.some.inj h
      have hP9 := hP.sub (ws' := [(o_Heap, .inr (3, [.ref o_Stacks, .ref r_H_globals, .int H_globalsUsed, .ref r_H_cells, .int H_used, .ref r_H_spare, .int H_spareUsed, .int H_old, .int H_oldLeadsToNew, .int H_limit, .int H_every, .int H_fresh, .int H_made, .int H_madeLimit, .int H_reachedFromGlobals, .int H_reachedInAll, .ref r_H_keptGlobals, .int H_keptGlobalsUsed, .ref r_H_keptCells, .int H_kept])), (r_H_cells, .inl (cL, n_H_cells, .inr (.inl (vp_updL f_H_cells p0.toNatClampNeg p1))))]) [0, 1] rfl
      have hD9 := hD.sub (ws' := [(o_Heap, .inr (3, [.ref o_Stacks, .ref r_H_globals, .int H_globalsUsed, .ref r_H_cells, .int H_used, .ref r_H_spare, .int H_spareUsed, .int H_old, .int H_oldLeadsToNew, .int H_limit, .int H_every, .int H_fresh, .int H_made, .int H_madeLimit, .int H_reachedFromGlobals, .int H_reachedInAll, .ref r_H_keptGlobals, .int H_keptGlobalsUsed, .ref r_H_keptCells, .int H_kept])), (r_H_cells, .inl (cL, n_H_cells, .inr (.inl (vp_updL f_H_cells p0.toNatClampNeg p1))))]) [0, 1] (by decide) rfl
      have hK9 := hK.sub (tys' := [(cL, .long)]) [0] rfl
      exact W.vret hx hb hr (fun t ht hW => ⟨⟨(), rfl, trivial, by rw [ht]; exact hP9, va_K.moved hW.alike hK9, hD9⟩, hS.F ht⟩) hS.2.2 d_Heap_change_39
    · rw [if_neg c4] at h
      refine lv_lload_n hx hb d_Heap_change_23 rfl (lv_at hl 2 rfl) ?_
      obtain ⟨z5_1, hc5, h⟩ := dz_ob h
      try dsimp only at h
      have hPc := hP.sub (ws' := []) [] rfl
      have hKc := hK.sub (tys' := []) [] rfl
      refine vp_callSi (va_Run.run (va_runS (As := [.long p1]) (rest := []) ⟨hx, hb, hml, hown, hg⟩ (c_Value_number l dC dI N p1 z5_1 hc5) (va_cwS 1 hg (gd_S k138 k139 k122 k137) rfl rfl rfl (by decide +kernel) ⟨Nat.le_of_ble_eq_true rfl, Nat.le_of_ble_eq_true rfl⟩) ⟨dz_blindR, fun U hU hW => ⟨rfl, dz_Nw hW hN, by rw [hU]; exact hPc, va_K.moved hW.alike hKc⟩⟩ rfl rfl hl.1 rfl (lv_room (Nat.le_of_ble_eq_true rfl)) d_Heap_change_24 ⟨Nat.le_of_ble_eq_true rfl, Nat.le_of_ble_eq_true rfl⟩)) (fun r5 hw => ?_)
      have hw : z5_1 = r5 := hw.symm
      subst hw
      refine lv_aload_n hx hb d_Heap_change_27 rfl (lv_at hl 0 rfl) ?_
      refine va_get (D := (dC, dI)) (ci := 3) (v := .int H_old) (C := R_Heap) (T := F_Heap) (N := 20) hx hb hg i_Heap hown hK hP 0 rfl rfl 7 (by decide) (hg _ k116) (fun _ h9 => h9) rfl d_Heap_change_28 ?_
      refine lv_icmp_lt (tgt := 39) hx hb d_Heap_change_31 (by decide) (fun c6 => ?_) (fun c6 => ?_)
      · rw [if_pos c6] at h
        obtain rfl := Option.some.inj h
        have hP9 := hP.sub (ws' := [(o_Heap, .inr (3, [.ref o_Stacks, .ref r_H_globals, .int H_globalsUsed, .ref r_H_cells, .int H_used, .ref r_H_spare, .int H_spareUsed, .int H_old, .int H_oldLeadsToNew, .int H_limit, .int H_every, .int H_fresh, .int H_made, .int H_madeLimit, .int H_reachedFromGlobals, .int H_reachedInAll, .ref r_H_keptGlobals, .int H_keptGlobalsUsed, .ref r_H_keptCells, .int H_kept])), (r_H_cells, .inl (cL, n_H_cells, .inr (.inl (vp_updL f_H_cells p0.toNatClampNeg p1))))]) [0, 1] rfl
        have hD9 := hD.sub (ws' := [(o_Heap, .inr (3, [.ref o_Stacks, .ref r_H_globals, .int H_globalsUsed, .ref r_H_cells, .int H_used, .ref r_H_spare, .int H_spareUsed, .int H_old, .int H_oldLeadsToNew, .int H_limit, .int H_every, .int H_fresh, .int H_made, .int H_madeLimit, .int H_reachedFromGlobals, .int H_reachedInAll, .ref r_H_keptGlobals, .int H_keptGlobalsUsed, .ref r_H_keptCells, .int H_kept])), (r_H_cells, .inl (cL, n_H_cells, .inr (.inl (vp_updL f_H_cells p0.toNatClampNeg p1))))]) [0, 1] (by decide) rfl
        have hK9 := hK.sub (tys' := [(cL, .long)]) [0] rfl
        exact W.vret hx hb hr (fun t ht hW => ⟨⟨(), rfl, trivial, by rw [ht]; exact hP9, va_K.moved hW.alike hK9, hD9⟩, hS.F ht⟩) hS.2.2 d_Heap_change_39
      · rw [if_neg c6] at h
        refine lv_aload_n hx hb d_Heap_change_34 rfl (lv_at hl 0 rfl) ?_
        refine lv_iconst (v := 1) hx hb d_Heap_change_35 (by decide) ?_
        refine va_put (D := (dC, dI)) (ci := 3) (v := .int 1) (ty := .boolean) (C := R_Heap) (T := F_Heap) (N := 20) hx hb hg i_Heap t_Heap t_Heap_ok n_Heap hown hK hP hD hS 0 rfl rfl 8 (by decide) (hg _ k117) (fun _ h9 => h9) rfl (by decide +kernel) (show narrow .boolean (.int 1) = .int 1 from rfl) (show fits .boolean (.int 1) = true from rfl) (Nat.le_of_ble_eq_true rfl) d_Heap_change_36 (fun H locs hP hD hS => ?_)
        have hP : va_P (dC, dI) classes [(o_Heap, .inr (3, [.ref o_Stacks, .ref r_H_globals, .int H_globalsUsed, .ref r_H_cells, .int H_used, .ref r_H_spare, .int H_spareUsed, .int H_old, .int 1, .int H_limit, .int H_every, .int H_fresh, .int H_made, .int H_madeLimit, .int H_reachedFromGlobals, .int H_reachedInAll, .ref r_H_keptGlobals, .int H_keptGlobalsUsed, .ref r_H_keptCells, .int H_kept])), (r_H_cells, .inl (cL, n_H_cells, .inr (.inl (vp_updL f_H_cells p0.toNatClampNeg p1))))] H := hP
        have hD : va_D A [(o_Heap, .inr (3, [.ref o_Stacks, .ref r_H_globals, .int H_globalsUsed, .ref r_H_cells, .int H_used, .ref r_H_spare, .int H_spareUsed, .int H_old, .int 1, .int H_limit, .int H_every, .int H_fresh, .int H_made, .int H_madeLimit, .int H_reachedFromGlobals, .int H_reachedInAll, .ref r_H_keptGlobals, .int H_keptGlobalsUsed, .ref r_H_keptCells, .int H_kept])), (r_H_cells, .inl (cL, n_H_cells, .inr (.inl (vp_updL f_H_cells p0.toNatClampNeg p1))))] := hD
        obtain rfl := Option.some.inj h
        have hP9 := hP.sub (ws' := [(o_Heap, .inr (3, [.ref o_Stacks, .ref r_H_globals, .int H_globalsUsed, .ref r_H_cells, .int H_used, .ref r_H_spare, .int H_spareUsed, .int H_old, .int 1, .int H_limit, .int H_every, .int H_fresh, .int H_made, .int H_madeLimit, .int H_reachedFromGlobals, .int H_reachedInAll, .ref r_H_keptGlobals, .int H_keptGlobalsUsed, .ref r_H_keptCells, .int H_kept])), (r_H_cells, .inl (cL, n_H_cells, .inr (.inl (vp_updL f_H_cells p0.toNatClampNeg p1))))]) [0, 1] rfl
        have hD9 := hD.sub (ws' := [(o_Heap, .inr (3, [.ref o_Stacks, .ref r_H_globals, .int H_globalsUsed, .ref r_H_cells, .int H_used, .ref r_H_spare, .int H_spareUsed, .int H_old, .int 1, .int H_limit, .int H_every, .int H_fresh, .int H_made, .int H_madeLimit, .int H_reachedFromGlobals, .int H_reachedInAll, .ref r_H_keptGlobals, .int H_keptGlobalsUsed, .ref r_H_keptCells, .int H_kept])), (r_H_cells, .inl (cL, n_H_cells, .inr (.inl (vp_updL f_H_cells p0.toNatClampNeg p1))))]) [0, 1] (by decide) rfl
        have hK9 := hK.sub (tys' := [(cL, .long)]) [0] rfl
        exact W.vret hx hb hr (fun t ht hW => ⟨⟨(), rfl, trivial, by rw [ht]; exact hP9, va_K.moved hW.alike hK9, hD9⟩, hS.F ht⟩) hS.2.2 d_Heap_change_39

set_option maxHeartbeats 4000000 in
set_option maxRecDepth 100000 in
theorem c_Heap_byteAt (l : Launch) (dC : Nat → ClassId) (dI : Nat → Nat → Nat) (N : Nat) (cL : ClassId) (o_Heap : Nat) (o_Stacks : Nat) (r_H_globals : Nat) (r_H_cells : Nat) (r_H_spare : Nat) (r_H_keptGlobals : Nat) (r_H_keptCells : Nat) (H_globalsUsed : Int32) (H_used : Int32) (H_spareUsed : Int32) (H_old : Int32) (H_oldLeadsToNew : Int32) (H_limit : Int32) (H_every : Int32) (H_fresh : Int32) (H_made : Int32) (H_madeLimit : Int32) (H_reachedFromGlobals : Int32) (H_reachedInAll : Int32) (H_keptGlobalsUsed : Int32) (H_kept : Int32) (n_H_cells : Nat) (f_H_cells : Nat → Int64) (p0 : Int32) (p1 : Int32) (z : Int32) (h : m_Heap_byteAt N H_globalsUsed H_used H_spareUsed H_old H_oldLeadsToNew H_limit H_every H_fresh H_made H_madeLimit H_reachedFromGlobals H_reachedInAll H_keptGlobalsUsed H_kept n_H_cells f_H_cells p0 p1 = some z) : Met l y_Heap_byteAt (.code y_Heap_byteAt b_Heap_byteAt 3 (some .int) :: lw_g) ({ frames := 0, cells := 0, slots := 0, locals := 0 }) (va_Pc [.ref o_Heap, .int p0, .int p1] (fun U => dz_N U ∧ va_P (dC, dI) classes [(o_Heap, .inr (3, [.ref o_Stacks, .ref r_H_globals, .int H_globalsUsed, .ref r_H_cells, .int H_used, .ref r_H_spare, .int H_spareUsed, .int H_old, .int H_oldLeadsToNew, .int H_limit, .int H_every, .int H_fresh, .int H_made, .int H_madeLimit, .int H_reachedFromGlobals, .int H_reachedInAll, .ref r_H_keptGlobals, .int H_keptGlobalsUsed, .ref r_H_keptCells, .int H_kept])), (r_H_cells, .inl (cL, n_H_cells, .inr (.inl f_H_cells)))] U.heap ∧ va_K (dC, dI) classes [(cL, .long)] U)) (vp_Si (fun r => r = z)) 0 0 (fun _ => False) := by
  refine Met.ofW (cc := b_Heap_byteAt) (maxL := 3) (ret := (some .int)) (by decide +kernel) rfl ?_
  intro p e s m args below meth c s₁ B hml hv
  obtain ⟨rfl, hN, hP, hK⟩ := hv
  have hx := B.exec
  have hb := B.bytes
  have hr := B.returns
  have hg : ∀ w ∈ lw_g, w.before _ s = true := fun w hw => atoms_spec (ws := .code y_Heap_byteAt b_Heap_byteAt 3 (some .int) :: lw_g) B.pre w (List.mem_cons_of_mem _ hw)
  have hown : s.vm.findClass R_Heap = some m.cls := findClass_of_methodNamed B.named
  have hlocks := B.notSynchronized
  clear B
  have hP : va_P (dC, dI) classes [(o_Heap, .inr (3, [.ref o_Stacks, .ref r_H_globals, .int H_globalsUsed, .ref r_H_cells, .int H_used, .ref r_H_spare, .int H_spareUsed, .int H_old, .int H_oldLeadsToNew, .int H_limit, .int H_every, .int H_fresh, .int H_made, .int H_madeLimit, .int H_reachedFromGlobals, .int H_reachedInAll, .ref r_H_keptGlobals, .int H_keptGlobalsUsed, .ref r_H_keptCells, .int H_kept])), (r_H_cells, .inl (cL, n_H_cells, .inr (.inl f_H_cells)))] s.heap := hP
  have hl := lv_entry ([.ref o_Heap, .int p0, .int p1]) (n := 3) (Nat.le_of_ble_eq_true rfl)
  rw [lg_entry_eq]
  generalize (lg_sl ([.ref o_Heap, .int p0, .int p1]) ++ List.replicate (3 - (lg_sl ([.ref o_Heap, .int p0, .int p1])).length) Slot.unset).toArray = ls at hl ⊢
  have hl : lv_has ls 3 [(0, .ref o_Heap), (1, .int p0), (2, .int p1)] := hl
  unfold m_Heap_byteAt at h
  refine lv_aload_n hx hb d_Heap_byteAt_0 rfl (lv_at hl 0 rfl) ?_
  refine va_get (D := (dC, dI)) (ci := 3) (v := .ref r_H_cells) (C := R_Heap) (T := F_Heap) (N := 20) hx hb hg i_Heap hown hK hP 0 rfl rfl 3 (by decide) (hg _ k112) (fun _ h9 => h9) rfl d_Heap_byteAt_1 ?_
  refine lv_iload_n hx hb d_Heap_byteAt_4 rfl (lv_at hl 1 rfl) ?_
  refine lv_iconst (v := 1) hx hb d_Heap_byteAt_5 (by decide) ?_
  refine lv_iadd hx hb d_Heap_byteAt_6 ?_
  refine lv_iload_n hx hb d_Heap_byteAt_7 rfl (lv_at hl 2 rfl) ?_
  refine lv_iconst (v := 4) hx hb d_Heap_byteAt_8 (by decide) ?_
  refine lv_idiv hx hb d_Heap_byteAt_9 (by decide) ?_
  refine lv_iadd hx hb d_Heap_byteAt_10 ?_
  obtain ⟨i2, h⟩ := dz_oi h
  refine va_lald (D := (dC, dI)) hx hb hK hP 1 0 rfl rfl i2 d_Heap_byteAt_11 ?_
  refine lv_bipush (v := 24) hx hb d_Heap_byteAt_12 (by decide) ?_
  refine lv_bipush (v := 8) hx hb d_Heap_byteAt_14 (by decide) ?_
  refine lv_iload_n hx hb d_Heap_byteAt_16 rfl (lv_at hl 2 rfl) ?_
  refine lv_iconst (v := 4) hx hb d_Heap_byteAt_17 (by decide) ?_
  refine lv_irem hx hb d_Heap_byteAt_18 (by decide) ?_
  refine lv_imul hx hb d_Heap_byteAt_19 ?_
  refine lv_isub hx hb d_Heap_byteAt_20 ?_
  refine lv_lushr (v := ((f_H_cells ((p0 + 1) + (p1 / 4)).toNatClampNeg).toUInt64 >>> ((24 - (8 * (p1 - p1 / 4 * 4))).toInt64.toUInt64 &&& Int64.toUInt64 63)).toInt64) hx hb d_Heap_byteAt_21 rfl ?_
  obtain ⟨x4, ex4, h⟩ := dz_lt h
  refine dz_topl ex4 ?_
  refine lv_l2i (v := x4.toInt32) hx hb d_Heap_byteAt_22 rfl ?_
  refine lv_sipush (v := 255) hx hb d_Heap_byteAt_23 (by decide) ?_
  refine lv_iand hx hb d_Heap_byteAt_26 ?_
  obtain rfl := Option.some.inj h
  exact W.iret (v := x4.toInt32 &&& 255) hx hb hr (fun t ht hW => ⟨_, rfl, rfl, ht⟩) (fun _ h => by cases h) d_Heap_byteAt_27

set_option maxHeartbeats 4000000 in
set_option maxRecDepth 100000 in
theorem l_Heap_find_1 {p : Program} {l : Launch} {e : Env} {s : State} {m : MethodId} {args : Array Value} {below : List Frame} {meth : Method} {c : Code} {Q : State → Prop} (dC : Nat → ClassId) (dI : Nat → Nat → Nat) (N : Nat) (cL : ClassId) (o_Heap : Nat) (o_Stacks : Nat) (r_H_globals : Nat) (r_H_cells : Nat) (r_H_spare : Nat) (r_H_keptGlobals : Nat) (r_H_keptCells : Nat) (H_globalsUsed : Int32) (H_used : Int32) (H_spareUsed : Int32) (H_old : Int32) (H_oldLeadsToNew : Int32) (H_limit : Int32) (H_every : Int32) (H_fresh : Int32) (H_made : Int32) (H_madeLimit : Int32) (H_reachedFromGlobals : Int32) (H_reachedInAll : Int32) (H_keptGlobalsUsed : Int32) (H_kept : Int32) (n_H_globals : Nat) (f_H_globals : Nat → Int64) (n_H_cells : Nat) (f_H_cells : Nat → Int64) (p0 : Int32) (p1 : Int64) {ζ : Type} {z : ζ} (hx : p.tables.exec = Jvm.exec) (hb : c.code = b_Heap_find) (hml : c.maxLocals = 8) (hown : s.vm.findClass R_Heap = some m.cls) (hg : ∀ w ∈ lw_g, w.before args s = true) (hN : dz_N s) (hK : va_K (dC, dI) classes [(cL, .long)] s) (hP : va_P (dC, dI) classes [(o_Heap, .inr (3, [.ref o_Stacks, .ref r_H_globals, .int H_globalsUsed, .ref r_H_cells, .int H_used, .ref r_H_spare, .int H_spareUsed, .int H_old, .int H_oldLeadsToNew, .int H_limit, .int H_every, .int H_fresh, .int H_made, .int H_madeLimit, .int H_reachedFromGlobals, .int H_reachedInAll, .ref r_H_keptGlobals, .int H_keptGlobalsUsed, .ref r_H_keptCells, .int H_kept])), (r_H_globals, .inl (cL, n_H_globals, .inr (.inl f_H_globals))), (r_H_cells, .inl (cL, n_H_cells, .inr (.inl f_H_cells)))] s.heap) {k1_103 : Int64 → Int32 → Option (ζ)} {k1_78 : Int64 → Int32 → Option (ζ)} {k1_64 : Int64 → Int32 → Option (ζ)} (hk1_103 : ∀ (v1_4 : Int64) (v1_6 : Int32)     (ls : Array Slot), k1_103 v1_4 v1_6 = some z → lv_has ls 8 [(6, .int v1_6), (4, .long v1_4), (0, .ref o_Heap), (1, .int p0), (2, .long p1)] → W p l e ({ frames := 2, cells := 0, slots := 0, locals := 46 } : Room) s m args below meth c s.heap [] 0 0 Q (F0 m 103 ls [])) (hk1_78 : ∀ (v1_4 : Int64) (v1_6 : Int32)     (ls : Array Slot), k1_78 v1_4 v1_6 = some z → lv_has ls 8 [(6, .int v1_6), (4, .long v1_4), (0, .ref o_Heap), (1, .int p0), (2, .long p1)] → W p l e ({ frames := 2, cells := 0, slots := 0, locals := 46 } : Room) s m args below meth c s.heap [] 0 0 Q (F0 m 78 ls [])) (hk1_64 : ∀ (v1_4 : Int64) (v1_6 : Int32)     (ls : Array Slot), k1_64 v1_4 v1_6 = some z → lv_has ls 8 [(6, .int v1_6), (4, .long v1_4), (0, .ref o_Heap), (1, .int p0), (2, .long p1)] → W p l e ({ frames := 2, cells := 0, slots := 0, locals := 46 } : Room) s m args below meth c s.heap [] 0 0 Q (F0 m 64 ls [])) : ∀ (n1 : Nat) (v1_4 : Int64) (v1_6 : Int32)    (ls : Array Slot), lm_Heap_find_1 N H_globalsUsed H_used H_spareUsed H_old H_oldLeadsToNew H_limit H_every H_fresh H_made H_madeLimit H_reachedFromGlobals H_reachedInAll H_keptGlobalsUsed H_kept n_H_cells f_H_cells p1 k1_103 k1_78 k1_64 n1 v1_4 v1_6 = some z → lv_has ls 8 [(6, .int v1_6), (4, .long v1_4), (0, .ref o_Heap), (1, .int p0), (2, .long p1)] → W p l e ({ frames := 2, cells := 0, slots := 0, locals := 46 } : Room) s m args below meth c s.heap [] 0 0 Q (F0 m 38 ls []) := by
  intro n1
  induction n1 with
  | zero =>
    intro v1_4 v1_6 ls h hl
    rw [lm_Heap_find_1] at h
    cases h
  | succ n1 ih1 =>
    intro v1_4 v1_6 ls h hl
    rw [lm_Heap_find_1] at h
    refine lv_iload hx hb d_Heap_find_38 (lv_at hl 0 rfl) ?_
    refine lv_bipush (v := 8) hx hb d_Heap_find_40 (by decide) ?_
    refine lv_icmp_ge (tgt := 103) hx hb d_Heap_find_42 (by decide) (fun c5 => ?_) (fun c5 => ?_)
    · rw [if_pos c5] at h
      exact hk1_103 v1_4 v1_6 _ h (lv_sub hl [0, 1, 2, 3, 4] rfl)
    · rw [if_neg c5] at h
      refine lv_lload_n hx hb d_Heap_find_45 rfl (lv_at hl 4 rfl) ?_
      refine lv_bipush (v := 8) hx hb d_Heap_find_46 (by decide) ?_
      refine lv_iload hx hb d_Heap_find_48 (lv_at hl 0 rfl) ?_
      refine lv_imul hx hb d_Heap_find_50 ?_
      refine lv_lushr (v := (p1.toUInt64 >>> ((8 * v1_6).toInt64.toUInt64 &&& Int64.toUInt64 63)).toInt64) hx hb d_Heap_find_51 rfl ?_
      obtain ⟨x6, ex6, h⟩ := dz_lt h
      refine dz_topl ex6 ?_
      refine lv_l2i (v := x6.toInt32) hx hb d_Heap_find_52 rfl ?_
      refine lv_sipush (v := 255) hx hb d_Heap_find_53 (by decide) ?_
      refine lv_iand hx hb d_Heap_find_56 ?_
      refine lv_istore (lv' := [(7, .int (x6.toInt32 &&& 255)), (6, .int v1_6), (4, .long v1_4), (0, .ref o_Heap), (1, .int p0), (2, .long p1)]) hx hb d_Heap_find_57 hl (by decide) rfl (fun ls hl => ?_)
      refine lv_iload hx hb d_Heap_find_59 (lv_at hl 0 rfl) ?_
      refine lv_if_ne (tgt := 67) hx hb d_Heap_find_61 (by decide) (fun c7 => ?_) (fun c7 => ?_)
      · rw [if_neg c7] at h
        refine lv_iload hx hb d_Heap_find_67 (lv_at hl 0 rfl) ?_
        refine lv_aload_n hx hb d_Heap_find_69 rfl (lv_at hl 3 rfl) ?_
        refine lv_lload hx hb d_Heap_find_70 (lv_at hl 2 rfl) ?_
        obtain ⟨z8_1, hc8, h⟩ := dz_ob h
        try dsimp only at h
        have hPc := hP.sub (ws' := [(o_Heap, .inr (3, [.ref o_Stacks, .ref r_H_globals, .int H_globalsUsed, .ref r_H_cells, .int H_used, .ref r_H_spare, .int H_spareUsed, .int H_old, .int H_oldLeadsToNew, .int H_limit, .int H_every, .int H_fresh, .int H_made, .int H_madeLimit, .int H_reachedFromGlobals, .int H_reachedInAll, .ref r_H_keptGlobals, .int H_keptGlobalsUsed, .ref r_H_keptCells, .int H_kept])), (r_H_cells, .inl (cL, n_H_cells, .inr (.inl f_H_cells)))]) [0, 2] rfl
        have hKc := hK.sub (tys' := [(cL, .long)]) [0] rfl
        refine vp_callSi (va_Run.run (va_runV (As := [.long v1_4]) (rest := [.int (x6.toInt32 &&& 255)]) ⟨hx, hb, hml, hown, hg⟩ (c_Heap_parts l dC dI N cL o_Heap o_Stacks r_H_globals r_H_cells r_H_spare r_H_keptGlobals r_H_keptCells H_globalsUsed H_used H_spareUsed H_old H_oldLeadsToNew H_limit H_every H_fresh H_made H_madeLimit H_reachedFromGlobals H_reachedInAll H_keptGlobalsUsed H_kept n_H_cells f_H_cells v1_4 z8_1 hc8) (cwV 1 hg (gd_V k149 k150 k151 k130 k148) rfl rfl rfl (by decide +kernel) ⟨Nat.le_of_ble_eq_true rfl, Nat.le_of_ble_eq_true rfl⟩) ⟨dz_blindR, va_recv hKc hPc (ci := 3) (q0 := 0) rfl rfl, fun U hU hW => ⟨rfl, dz_Nw hW hN, by rw [hU]; exact hPc, va_K.moved hW.alike hKc⟩⟩ rfl rfl hl.1 rfl (lv_room (Nat.le_of_ble_eq_true rfl)) d_Heap_find_72 ⟨Nat.le_of_ble_eq_true rfl, Nat.le_of_ble_eq_true rfl⟩)) (fun r8 hw => ?_)
        have hw : z8_1 = r8 := hw.symm
        subst hw
        refine lv_icmp_le (tgt := 82) hx hb d_Heap_find_75 (by decide) (fun c9 => ?_) (fun c9 => ?_)
        · rw [if_pos c9] at h
          refine lv_aload_n hx hb d_Heap_find_82 rfl (lv_at hl 3 rfl) ?_
          refine va_get (D := (dC, dI)) (ci := 3) (v := .ref r_H_cells) (C := R_Heap) (T := F_Heap) (N := 20) hx hb hg i_Heap hown hK hP 0 rfl rfl 3 (by decide) (hg _ k112) (fun _ h9 => h9) rfl d_Heap_find_83 ?_
          refine lv_lload hx hb d_Heap_find_86 (lv_at hl 2 rfl) ?_
          obtain ⟨z10_1, hc10, h⟩ := dz_ob h
          try dsimp only at h
          have hPc := hP.sub (ws' := []) [] rfl
          have hKc := hK.sub (tys' := []) [] rfl
          refine vp_callSi (va_Run.run (va_runS (As := [.long v1_4]) (rest := [.ref r_H_cells]) ⟨hx, hb, hml, hown, hg⟩ (c_Value_number l dC dI N v1_4 z10_1 hc10) (va_cwS 1 hg (gd_S k138 k139 k122 k137) rfl rfl rfl (by decide +kernel) ⟨Nat.le_of_ble_eq_true rfl, Nat.le_of_ble_eq_true rfl⟩) ⟨dz_blindR, fun U hU hW => ⟨rfl, dz_Nw hW hN, by rw [hU]; exact hPc, va_K.moved hW.alike hKc⟩⟩ rfl rfl hl.1 rfl (lv_room (Nat.le_of_ble_eq_true rfl)) d_Heap_find_88 ⟨Nat.le_of_ble_eq_true rfl, Nat.le_of_ble_eq_true rfl⟩)) (fun r10 hw => ?_)
          have hw : z10_1 = r10 := hw.symm
          subst hw
          refine lv_iload hx hb d_Heap_find_91 (lv_at hl 0 rfl) ?_
          refine lv_iadd hx hb d_Heap_find_93 ?_
          obtain ⟨i11, h⟩ := dz_oi h
          refine va_lald (D := (dC, dI)) hx hb hK hP 2 0 rfl rfl i11 d_Heap_find_94 ?_
          refine lv_lstore (lv' := [(4, .long (f_H_cells (z10_1 + (x6.toInt32 &&& 255)).toNatClampNeg)), (7, .int (x6.toInt32 &&& 255)), (6, .int v1_6), (0, .ref o_Heap), (1, .int p0), (2, .long p1)]) hx hb d_Heap_find_95 hl (by decide) rfl (fun ls hl => ?_)
          refine lv_iinc (v := v1_6 + 1) (lv' := [(6, .int (v1_6 + 1)), (4, .long (f_H_cells (z10_1 + (x6.toInt32 &&& 255)).toNatClampNeg)), (7, .int (x6.toInt32 &&& 255)), (0, .ref o_Heap), (1, .int p0), (2, .long p1)]) hx hb d_Heap_find_97 hl (k := 2) rfl rfl (by decide) rfl (fun ls hl => ?_)
          refine lv_goto (tgt := 38) hx hb d_Heap_find_100 (by decide) ?_
          exact ih1 (f_H_cells (z10_1 + (x6.toInt32 &&& 255)).toNatClampNeg) (v1_6 + 1) _ h (lv_sub hl [0, 1, 3, 4, 5] rfl)
        · rw [if_neg c9] at h
          exact hk1_78 v1_4 v1_6 _ h (lv_sub hl [1, 2, 3, 4, 5] rfl)
      · rw [if_pos c7] at h
        exact hk1_64 v1_4 v1_6 _ h (lv_sub hl [1, 2, 3, 4, 5] rfl)
set_option maxHeartbeats 4000000 in
set_option maxRecDepth 100000 in
theorem l_Heap_find_2 {p : Program} {l : Launch} {e : Env} {s : State} {m : MethodId} {args : Array Value} {below : List Frame} {meth : Method} {c : Code} {Q : State → Prop} (dC : Nat → ClassId) (dI : Nat → Nat → Nat) (N : Nat) (cL : ClassId) (o_Heap : Nat) (o_Stacks : Nat) (r_H_globals : Nat) (r_H_cells : Nat) (r_H_spare : Nat) (r_H_keptGlobals : Nat) (r_H_keptCells : Nat) (H_globalsUsed : Int32) (H_used : Int32) (H_spareUsed : Int32) (H_old : Int32) (H_oldLeadsToNew : Int32) (H_limit : Int32) (H_every : Int32) (H_fresh : Int32) (H_made : Int32) (H_madeLimit : Int32) (H_reachedFromGlobals : Int32) (H_reachedInAll : Int32) (H_keptGlobalsUsed : Int32) (H_kept : Int32) (n_H_globals : Nat) (f_H_globals : Nat → Int64) (n_H_cells : Nat) (f_H_cells : Nat → Int64) (p0 : Int32) (p1 : Int64) {ζ : Type} {z : ζ} (hx : p.tables.exec = Jvm.exec) (hb : c.code = b_Heap_find) (hml : c.maxLocals = 8) (hown : s.vm.findClass R_Heap = some m.cls) (hg : ∀ w ∈ lw_g, w.before args s = true) (hN : dz_N s) (hK : va_K (dC, dI) classes [(cL, .long)] s) (hP : va_P (dC, dI) classes [(o_Heap, .inr (3, [.ref o_Stacks, .ref r_H_globals, .int H_globalsUsed, .ref r_H_cells, .int H_used, .ref r_H_spare, .int H_spareUsed, .int H_old, .int H_oldLeadsToNew, .int H_limit, .int H_every, .int H_fresh, .int H_made, .int H_madeLimit, .int H_reachedFromGlobals, .int H_reachedInAll, .ref r_H_keptGlobals, .int H_keptGlobalsUsed, .ref r_H_keptCells, .int H_kept])), (r_H_globals, .inl (cL, n_H_globals, .inr (.inl f_H_globals))), (r_H_cells, .inl (cL, n_H_cells, .inr (.inl f_H_cells)))] s.heap) {k2_103 : Int64 → Int32 → Option (ζ)} {k2_78 : Int64 → Int32 → Option (ζ)} {k2_64 : Int64 → Int32 → Option (ζ)} (hk2_103 : ∀ (v2_4 : Int64) (v2_6 : Int32)     (ls : Array Slot), k2_103 v2_4 v2_6 = some z → lv_has ls 8 [(6, .int v2_6), (4, .long v2_4), (0, .ref o_Heap), (1, .int p0), (2, .long p1)] → W p l e ({ frames := 2, cells := 0, slots := 0, locals := 46 } : Room) s m args below meth c s.heap [] 0 0 Q (F0 m 103 ls [])) (hk2_78 : ∀ (v2_4 : Int64) (v2_6 : Int32)     (ls : Array Slot), k2_78 v2_4 v2_6 = some z → lv_has ls 8 [(6, .int v2_6), (4, .long v2_4), (0, .ref o_Heap), (1, .int p0), (2, .long p1)] → W p l e ({ frames := 2, cells := 0, slots := 0, locals := 46 } : Room) s m args below meth c s.heap [] 0 0 Q (F0 m 78 ls [])) (hk2_64 : ∀ (v2_4 : Int64) (v2_6 : Int32)     (ls : Array Slot), k2_64 v2_4 v2_6 = some z → lv_has ls 8 [(6, .int v2_6), (4, .long v2_4), (0, .ref o_Heap), (1, .int p0), (2, .long p1)] → W p l e ({ frames := 2, cells := 0, slots := 0, locals := 46 } : Room) s m args below meth c s.heap [] 0 0 Q (F0 m 64 ls [])) : ∀ (n2 : Nat) (v2_4 : Int64) (v2_6 : Int32)    (ls : Array Slot), lm_Heap_find_2 N H_globalsUsed H_used H_spareUsed H_old H_oldLeadsToNew H_limit H_every H_fresh H_made H_madeLimit H_reachedFromGlobals H_reachedInAll H_keptGlobalsUsed H_kept n_H_cells f_H_cells p1 k2_103 k2_78 k2_64 n2 v2_4 v2_6 = some z → lv_has ls 8 [(6, .int v2_6), (4, .long v2_4), (0, .ref o_Heap), (1, .int p0), (2, .long p1)] → W p l e ({ frames := 2, cells := 0, slots := 0, locals := 46 } : Room) s m args below meth c s.heap [] 0 0 Q (F0 m 38 ls []) := by
  intro n2
  induction n2 with
  | zero =>
    intro v2_4 v2_6 ls h hl
    rw [lm_Heap_find_2] at h
    cases h
  | succ n2 ih2 =>
    intro v2_4 v2_6 ls h hl
    rw [lm_Heap_find_2] at h
    refine lv_iload hx hb d_Heap_find_38 (lv_at hl 0 rfl) ?_
    refine lv_bipush (v := 8) hx hb d_Heap_find_40 (by decide) ?_
    refine lv_icmp_ge (tgt := 103) hx hb d_Heap_find_42 (by decide) (fun c13 => ?_) (fun c13 => ?_)
    · rw [if_pos c13] at h
      exact hk2_103 v2_4 v2_6 _ h (lv_sub hl [0, 1, 2, 3, 4] rfl)
    · rw [if_neg c13] at h
      refine lv_lload_n hx hb d_Heap_find_45 rfl (lv_at hl 4 rfl) ?_
      refine lv_bipush (v := 8) hx hb d_Heap_find_46 (by decide) ?_
      refine lv_iload hx hb d_Heap_find_48 (lv_at hl 0 rfl) ?_
      refine lv_imul hx hb d_Heap_find_50 ?_
      refine lv_lushr (v := (p1.toUInt64 >>> ((8 * v2_6).toInt64.toUInt64 &&& Int64.toUInt64 63)).toInt64) hx hb d_Heap_find_51 rfl ?_
      obtain ⟨x14, ex14, h⟩ := dz_lt h
      refine dz_topl ex14 ?_
      refine lv_l2i (v := x14.toInt32) hx hb d_Heap_find_52 rfl ?_
      refine lv_sipush (v := 255) hx hb d_Heap_find_53 (by decide) ?_
      refine lv_iand hx hb d_Heap_find_56 ?_
      refine lv_istore (lv' := [(7, .int (x14.toInt32 &&& 255)), (6, .int v2_6), (4, .long v2_4), (0, .ref o_Heap), (1, .int p0), (2, .long p1)]) hx hb d_Heap_find_57 hl (by decide) rfl (fun ls hl => ?_)
      refine lv_iload hx hb d_Heap_find_59 (lv_at hl 0 rfl) ?_
      refine lv_if_ne (tgt := 67) hx hb d_Heap_find_61 (by decide) (fun c15 => ?_) (fun c15 => ?_)
      · rw [if_neg c15] at h
        refine lv_iload hx hb d_Heap_find_67 (lv_at hl 0 rfl) ?_
        refine lv_aload_n hx hb d_Heap_find_69 rfl (lv_at hl 3 rfl) ?_
        refine lv_lload hx hb d_Heap_find_70 (lv_at hl 2 rfl) ?_
        obtain ⟨z16_1, hc16, h⟩ := dz_ob h
        try dsimp only at h
        have hPc := hP.sub (ws' := [(o_Heap, .inr (3, [.ref o_Stacks, .ref r_H_globals, .int H_globalsUsed, .ref r_H_cells, .int H_used, .ref r_H_spare, .int H_spareUsed, .int H_old, .int H_oldLeadsToNew, .int H_limit, .int H_every, .int H_fresh, .int H_made, .int H_madeLimit, .int H_reachedFromGlobals, .int H_reachedInAll, .ref r_H_keptGlobals, .int H_keptGlobalsUsed, .ref r_H_keptCells, .int H_kept])), (r_H_cells, .inl (cL, n_H_cells, .inr (.inl f_H_cells)))]) [0, 2] rfl
        have hKc := hK.sub (tys' := [(cL, .long)]) [0] rfl
        refine vp_callSi (va_Run.run (va_runV (As := [.long v2_4]) (rest := [.int (x14.toInt32 &&& 255)]) ⟨hx, hb, hml, hown, hg⟩ (c_Heap_parts l dC dI N cL o_Heap o_Stacks r_H_globals r_H_cells r_H_spare r_H_keptGlobals r_H_keptCells H_globalsUsed H_used H_spareUsed H_old H_oldLeadsToNew H_limit H_every H_fresh H_made H_madeLimit H_reachedFromGlobals H_reachedInAll H_keptGlobalsUsed H_kept n_H_cells f_H_cells v2_4 z16_1 hc16) (cwV 1 hg (gd_V k149 k150 k151 k130 k148) rfl rfl rfl (by decide +kernel) ⟨Nat.le_of_ble_eq_true rfl, Nat.le_of_ble_eq_true rfl⟩) ⟨dz_blindR, va_recv hKc hPc (ci := 3) (q0 := 0) rfl rfl, fun U hU hW => ⟨rfl, dz_Nw hW hN, by rw [hU]; exact hPc, va_K.moved hW.alike hKc⟩⟩ rfl rfl hl.1 rfl (lv_room (Nat.le_of_ble_eq_true rfl)) d_Heap_find_72 ⟨Nat.le_of_ble_eq_true rfl, Nat.le_of_ble_eq_true rfl⟩)) (fun r16 hw => ?_)
        have hw : z16_1 = r16 := hw.symm
        subst hw
        refine lv_icmp_le (tgt := 82) hx hb d_Heap_find_75 (by decide) (fun c17 => ?_) (fun c17 => ?_)
        · rw [if_pos c17] at h
          refine lv_aload_n hx hb d_Heap_find_82 rfl (lv_at hl 3 rfl) ?_
          refine va_get (D := (dC, dI)) (ci := 3) (v := .ref r_H_cells) (C := R_Heap) (T := F_Heap) (N := 20) hx hb hg i_Heap hown hK hP 0 rfl rfl 3 (by decide) (hg _ k112) (fun _ h9 => h9) rfl d_Heap_find_83 ?_
          refine lv_lload hx hb d_Heap_find_86 (lv_at hl 2 rfl) ?_
          obtain ⟨z18_1, hc18, h⟩ := dz_ob h
          try dsimp only at h
          have hPc := hP.sub (ws' := []) [] rfl
          have hKc := hK.sub (tys' := []) [] rfl
          refine vp_callSi (va_Run.run (va_runS (As := [.long v2_4]) (rest := [.ref r_H_cells]) ⟨hx, hb, hml, hown, hg⟩ (c_Value_number l dC dI N v2_4 z18_1 hc18) (va_cwS 1 hg (gd_S k138 k139 k122 k137) rfl rfl rfl (by decide +kernel) ⟨Nat.le_of_ble_eq_true rfl, Nat.le_of_ble_eq_true rfl⟩) ⟨dz_blindR, fun U hU hW => ⟨rfl, dz_Nw hW hN, by rw [hU]; exact hPc, va_K.moved hW.alike hKc⟩⟩ rfl rfl hl.1 rfl (lv_room (Nat.le_of_ble_eq_true rfl)) d_Heap_find_88 ⟨Nat.le_of_ble_eq_true rfl, Nat.le_of_ble_eq_true rfl⟩)) (fun r18 hw => ?_)
          have hw : z18_1 = r18 := hw.symm
          subst hw
          refine lv_iload hx hb d_Heap_find_91 (lv_at hl 0 rfl) ?_
          refine lv_iadd hx hb d_Heap_find_93 ?_
          obtain ⟨i19, h⟩ := dz_oi h
          refine va_lald (D := (dC, dI)) hx hb hK hP 2 0 rfl rfl i19 d_Heap_find_94 ?_
          refine lv_lstore (lv' := [(4, .long (f_H_cells (z18_1 + (x14.toInt32 &&& 255)).toNatClampNeg)), (7, .int (x14.toInt32 &&& 255)), (6, .int v2_6), (0, .ref o_Heap), (1, .int p0), (2, .long p1)]) hx hb d_Heap_find_95 hl (by decide) rfl (fun ls hl => ?_)
          refine lv_iinc (v := v2_6 + 1) (lv' := [(6, .int (v2_6 + 1)), (4, .long (f_H_cells (z18_1 + (x14.toInt32 &&& 255)).toNatClampNeg)), (7, .int (x14.toInt32 &&& 255)), (0, .ref o_Heap), (1, .int p0), (2, .long p1)]) hx hb d_Heap_find_97 hl (k := 2) rfl rfl (by decide) rfl (fun ls hl => ?_)
          refine lv_goto (tgt := 38) hx hb d_Heap_find_100 (by decide) ?_
          exact ih2 (f_H_cells (z18_1 + (x14.toInt32 &&& 255)).toNatClampNeg) (v2_6 + 1) _ h (lv_sub hl [0, 1, 3, 4, 5] rfl)
        · rw [if_neg c17] at h
          exact hk2_78 v2_4 v2_6 _ h (lv_sub hl [1, 2, 3, 4, 5] rfl)
      · rw [if_pos c15] at h
        exact hk2_64 v2_4 v2_6 _ h (lv_sub hl [1, 2, 3, 4, 5] rfl)
set_option maxHeartbeats 4000000 in
set_option maxRecDepth 100000 in
theorem c_Heap_find (l : Launch) (dC : Nat → ClassId) (dI : Nat → Nat → Nat) (N : Nat) (cL : ClassId) (o_Heap : Nat) (o_Stacks : Nat) (r_H_globals : Nat) (r_H_cells : Nat) (r_H_spare : Nat) (r_H_keptGlobals : Nat) (r_H_keptCells : Nat) (H_globalsUsed : Int32) (H_used : Int32) (H_spareUsed : Int32) (H_old : Int32) (H_oldLeadsToNew : Int32) (H_limit : Int32) (H_every : Int32) (H_fresh : Int32) (H_made : Int32) (H_madeLimit : Int32) (H_reachedFromGlobals : Int32) (H_reachedInAll : Int32) (H_keptGlobalsUsed : Int32) (H_kept : Int32) (n_H_globals : Nat) (f_H_globals : Nat → Int64) (n_H_cells : Nat) (f_H_cells : Nat → Int64) (p0 : Int32) (p1 : Int64) (z : Int64) (h : m_Heap_find N H_globalsUsed H_used H_spareUsed H_old H_oldLeadsToNew H_limit H_every H_fresh H_made H_madeLimit H_reachedFromGlobals H_reachedInAll H_keptGlobalsUsed H_kept n_H_globals f_H_globals n_H_cells f_H_cells p0 p1 = some z) : Met l y_Heap_find (.code y_Heap_find b_Heap_find 8 (some .long) :: lw_g) ({ frames := 2, cells := 0, slots := 0, locals := 46 }) (va_Pc [.ref o_Heap, .int p0, .long p1] (fun U => dz_N U ∧ va_P (dC, dI) classes [(o_Heap, .inr (3, [.ref o_Stacks, .ref r_H_globals, .int H_globalsUsed, .ref r_H_cells, .int H_used, .ref r_H_spare, .int H_spareUsed, .int H_old, .int H_oldLeadsToNew, .int H_limit, .int H_every, .int H_fresh, .int H_made, .int H_madeLimit, .int H_reachedFromGlobals, .int H_reachedInAll, .ref r_H_keptGlobals, .int H_keptGlobalsUsed, .ref r_H_keptCells, .int H_kept])), (r_H_globals, .inl (cL, n_H_globals, .inr (.inl f_H_globals))), (r_H_cells, .inl (cL, n_H_cells, .inr (.inl f_H_cells)))] U.heap ∧ va_K (dC, dI) classes [(cL, .long)] U)) (vp_Sl (fun r => r = z)) 0 0 (fun _ => False) := by
  refine Met.ofW (cc := b_Heap_find) (maxL := 8) (ret := (some .long)) (by decide +kernel) rfl ?_
  intro p e s m args below meth c s₁ B hml hv
  obtain ⟨rfl, hN, hP, hK⟩ := hv
  have hx := B.exec
  have hb := B.bytes
  have hr := B.returns
  have hg : ∀ w ∈ lw_g, w.before _ s = true := fun w hw => atoms_spec (ws := .code y_Heap_find b_Heap_find 8 (some .long) :: lw_g) B.pre w (List.mem_cons_of_mem _ hw)
  have hown : s.vm.findClass R_Heap = some m.cls := findClass_of_methodNamed B.named
  have hlocks := B.notSynchronized
  clear B
  have hP : va_P (dC, dI) classes [(o_Heap, .inr (3, [.ref o_Stacks, .ref r_H_globals, .int H_globalsUsed, .ref r_H_cells, .int H_used, .ref r_H_spare, .int H_spareUsed, .int H_old, .int H_oldLeadsToNew, .int H_limit, .int H_every, .int H_fresh, .int H_made, .int H_madeLimit, .int H_reachedFromGlobals, .int H_reachedInAll, .ref r_H_keptGlobals, .int H_keptGlobalsUsed, .ref r_H_keptCells, .int H_kept])), (r_H_globals, .inl (cL, n_H_globals, .inr (.inl f_H_globals))), (r_H_cells, .inl (cL, n_H_cells, .inr (.inl f_H_cells)))] s.heap := hP
  have hl := lv_entry ([.ref o_Heap, .int p0, .long p1]) (n := 8) (Nat.le_of_ble_eq_true rfl)
  rw [lg_entry_eq]
  generalize (lg_sl ([.ref o_Heap, .int p0, .long p1]) ++ List.replicate (8 - (lg_sl ([.ref o_Heap, .int p0, .long p1])).length) Slot.unset).toArray = ls at hl ⊢
  have hl : lv_has ls 8 [(0, .ref o_Heap), (1, .int p0), (2, .long p1)] := hl
  unfold m_Heap_find at h
  refine lv_iload_n hx hb d_Heap_find_0 rfl (lv_at hl 1 rfl) ?_
  refine lv_iconst (v := (-1)) hx hb d_Heap_find_1 (by decide) ?_
  refine lv_icmp_lt (tgt := 12) hx hb d_Heap_find_2 (by decide) (fun c1 => ?_) (fun c1 => ?_)
  · rw [if_pos c1] at h
    refine lv_ldc2 (v := (-9223372036854775808)) hx hb hown (hg _ k147) d_Heap_find_12 ?_
    obtain rfl := Option.some.inj h
    exact W.lret (v := (-9223372036854775808)) hx hb hr (fun t ht hW => ⟨_, rfl, rfl, ht⟩) (fun _ h => by cases h) d_Heap_find_15
  · rw [if_neg c1] at h
    refine lv_iload_n hx hb d_Heap_find_5 rfl (lv_at hl 1 rfl) ?_
    refine lv_sipush (v := 2048) hx hb d_Heap_find_6 (by decide) ?_
    refine lv_icmp_lt (tgt := 16) hx hb d_Heap_find_9 (by decide) (fun c2 => ?_) (fun c2 => ?_)
    · rw [if_pos c2] at h
      refine lv_aload_n hx hb d_Heap_find_16 rfl (lv_at hl 0 rfl) ?_
      refine va_get (D := (dC, dI)) (ci := 3) (v := .ref r_H_globals) (C := R_Heap) (T := F_Heap) (N := 20) hx hb hg i_Heap hown hK hP 0 rfl rfl 1 (by decide) (hg _ k144) (fun _ h9 => h9) rfl d_Heap_find_17 ?_
      refine lv_iload_n hx hb d_Heap_find_20 rfl (lv_at hl 1 rfl) ?_
      refine lv_iconst (v := (-1)) hx hb d_Heap_find_21 (by decide) ?_
      refine lv_icmp_ne (tgt := 31) hx hb d_Heap_find_22 (by decide) (fun c3 => ?_) (fun c3 => ?_)
      · rw [if_neg c3] at h
        refine lv_iload_n hx hb d_Heap_find_31 rfl (lv_at hl 1 rfl) ?_
        obtain ⟨i4, h⟩ := dz_oi h
        refine va_lald (D := (dC, dI)) hx hb hK hP 1 0 rfl rfl i4 d_Heap_find_32 ?_
        refine lv_lstore (lv' := [(4, .long (f_H_globals p0.toNatClampNeg)), (0, .ref o_Heap), (1, .int p0), (2, .long p1)]) hx hb d_Heap_find_33 hl (by decide) rfl (fun ls hl => ?_)
        refine lv_iconst (v := 0) hx hb d_Heap_find_35 (by decide) ?_
        refine lv_istore (lv' := [(6, .int 0), (4, .long (f_H_globals p0.toNatClampNeg)), (0, .ref o_Heap), (1, .int p0), (2, .long p1)]) hx hb d_Heap_find_36 hl (by decide) rfl (fun ls hl => ?_)
        refine l_Heap_find_1 dC dI N cL o_Heap o_Stacks r_H_globals r_H_cells r_H_spare r_H_keptGlobals r_H_keptCells H_globalsUsed H_used H_spareUsed H_old H_oldLeadsToNew H_limit H_every H_fresh H_made H_madeLimit H_reachedFromGlobals H_reachedInAll H_keptGlobalsUsed H_kept n_H_globals f_H_globals n_H_cells f_H_cells p0 p1 hx hb hml hown hg hN hK hP (fun v1_4 v1_6 ls h hl => ?_) (fun v1_4 v1_6 ls h hl => ?_) (fun v1_4 v1_6 ls h hl => ?_) N (f_H_globals p0.toNatClampNeg) (0 : Int32) _ h (lv_sub hl [0, 1, 2, 3, 4] rfl)
        · skip
          refine lv_lload hx hb d_Heap_find_103 (lv_at hl 1 rfl) ?_
          obtain rfl := Option.some.inj h
          exact W.lret (v := v1_4) hx hb hr (fun t ht hW => ⟨_, rfl, rfl, ht⟩) (fun _ h => by cases h) d_Heap_find_105
        · skip
          refine lv_ldc2 (v := (-9223372036854775808)) hx hb hown (hg _ k147) d_Heap_find_78 ?_
          obtain rfl := Option.some.inj h
          exact W.lret (v := (-9223372036854775808)) hx hb hr (fun t ht hW => ⟨_, rfl, rfl, ht⟩) (fun _ h => by cases h) d_Heap_find_81
        · skip
          refine lv_lload hx hb d_Heap_find_64 (lv_at hl 1 rfl) ?_
          obtain rfl := Option.some.inj h
          exact W.lret (v := v1_4) hx hb hr (fun t ht hW => ⟨_, rfl, rfl, ht⟩) (fun _ h => by cases h) d_Heap_find_66
      · rw [if_pos c3] at h
        refine lv_sipush (v := 2048) hx hb d_Heap_find_25 (by decide) ?_
        refine lv_goto (tgt := 32) hx hb d_Heap_find_28 (by decide) ?_
        obtain ⟨i12, h⟩ := dz_oi h
        refine va_lald (D := (dC, dI)) hx hb hK hP 1 0 rfl rfl i12 d_Heap_find_32 ?_
        refine lv_lstore (lv' := [(4, .long (f_H_globals (2048 : Int32).toNatClampNeg)), (0, .ref o_Heap), (1, .int p0), (2, .long p1)]) hx hb d_Heap_find_33 hl (by decide) rfl (fun ls hl => ?_)
        refine lv_iconst (v := 0) hx hb d_Heap_find_35 (by decide) ?_
        refine lv_istore (lv' := [(6, .int 0), (4, .long (f_H_globals (2048 : Int32).toNatClampNeg)), (0, .ref o_Heap), (1, .int p0), (2, .long p1)]) hx hb d_Heap_find_36 hl (by decide) rfl (fun ls hl => ?_)
        refine l_Heap_find_2 dC dI N cL o_Heap o_Stacks r_H_globals r_H_cells r_H_spare r_H_keptGlobals r_H_keptCells H_globalsUsed H_used H_spareUsed H_old H_oldLeadsToNew H_limit H_every H_fresh H_made H_madeLimit H_reachedFromGlobals H_reachedInAll H_keptGlobalsUsed H_kept n_H_globals f_H_globals n_H_cells f_H_cells p0 p1 hx hb hml hown hg hN hK hP (fun v2_4 v2_6 ls h hl => ?_) (fun v2_4 v2_6 ls h hl => ?_) (fun v2_4 v2_6 ls h hl => ?_) N (f_H_globals (2048 : Int32).toNatClampNeg) (0 : Int32) _ h (lv_sub hl [0, 1, 2, 3, 4] rfl)
        · skip
          refine lv_lload hx hb d_Heap_find_103 (lv_at hl 1 rfl) ?_
          obtain rfl := Option.some.inj h
          exact W.lret (v := v2_4) hx hb hr (fun t ht hW => ⟨_, rfl, rfl, ht⟩) (fun _ h => by cases h) d_Heap_find_105
        · skip
          refine lv_ldc2 (v := (-9223372036854775808)) hx hb hown (hg _ k147) d_Heap_find_78 ?_
          obtain rfl := Option.some.inj h
          exact W.lret (v := (-9223372036854775808)) hx hb hr (fun t ht hW => ⟨_, rfl, rfl, ht⟩) (fun _ h => by cases h) d_Heap_find_81
        · skip
          refine lv_lload hx hb d_Heap_find_64 (lv_at hl 1 rfl) ?_
          obtain rfl := Option.some.inj h
          exact W.lret (v := v2_4) hx hb hr (fun t ht hW => ⟨_, rfl, rfl, ht⟩) (fun _ h => by cases h) d_Heap_find_66
    · rw [if_neg c2] at h
      refine lv_ldc2 (v := (-9223372036854775808)) hx hb hown (hg _ k147) d_Heap_find_12 ?_
      obtain rfl := Option.some.inj h
      exact W.lret (v := (-9223372036854775808)) hx hb hr (fun t ht hW => ⟨_, rfl, rfl, ht⟩) (fun _ h => by cases h) d_Heap_find_15

set_option maxHeartbeats 4000000 in
set_option maxRecDepth 100000 in
theorem c_Heap_bringBack (l : Launch) (dC : Nat → ClassId) (dI : Nat → Nat → Nat) (N : Nat) (cL : ClassId) (o_Heap : Nat) (o_Stacks : Nat) (r_H_globals : Nat) (r_H_cells : Nat) (r_H_spare : Nat) (r_H_keptGlobals : Nat) (r_H_keptCells : Nat) (H_globalsUsed : Int32) (H_used : Int32) (H_spareUsed : Int32) (H_old : Int32) (H_oldLeadsToNew : Int32) (H_limit : Int32) (H_every : Int32) (H_fresh : Int32) (H_made : Int32) (H_madeLimit : Int32) (H_reachedFromGlobals : Int32) (H_reachedInAll : Int32) (H_keptGlobalsUsed : Int32) (H_kept : Int32) (n_H_globals : Nat) (f_H_globals : Nat → Int64) (n_H_cells : Nat) (f_H_cells : Nat → Int64) (n_H_keptGlobals : Nat) (f_H_keptGlobals : Nat → Int64) (n_H_keptCells : Nat) (f_H_keptCells : Nat → Int64) (sz : Nat) (z : Int32 × (Nat → Int64) × (Nat → Int64) × Int32 × Int32 × Int32 × Int32 × Int32) (h : m_Heap_bringBack N H_globalsUsed H_used H_spareUsed H_old H_oldLeadsToNew H_limit H_every H_fresh H_made H_madeLimit H_reachedFromGlobals H_reachedInAll H_keptGlobalsUsed H_kept n_H_globals f_H_globals n_H_cells f_H_cells n_H_keptGlobals f_H_keptGlobals n_H_keptCells f_H_keptCells = some z) : Met l y_Heap_bringBack (.code y_Heap_bringBack b_Heap_bringBack 1 (some .int) :: lw_g) ({ frames := 1, cells := 0, slots := 0, locals := 60 }) (va_Pc [.ref o_Heap] (fun U => dz_N U ∧ U.heap.size = sz ∧ va_P (dC, dI) classes [(o_Heap, .inr (3, [.ref o_Stacks, .ref r_H_globals, .int H_globalsUsed, .ref r_H_cells, .int H_used, .ref r_H_spare, .int H_spareUsed, .int H_old, .int H_oldLeadsToNew, .int H_limit, .int H_every, .int H_fresh, .int H_made, .int H_madeLimit, .int H_reachedFromGlobals, .int H_reachedInAll, .ref r_H_keptGlobals, .int H_keptGlobalsUsed, .ref r_H_keptCells, .int H_kept])), (r_H_globals, .inl (cL, n_H_globals, .inr (.inl f_H_globals))), (r_H_cells, .inl (cL, n_H_cells, .inr (.inl f_H_cells))), (r_H_keptGlobals, .inl (cL, n_H_keptGlobals, .inr (.inl f_H_keptGlobals))), (r_H_keptCells, .inl (cL, n_H_keptCells, .inr (.inl f_H_keptCells)))] U.heap ∧ va_K (dC, dI) classes [(cL, .long)] U ∧ va_D (fun _ => True) [(o_Heap, .inr (3, [.ref o_Stacks, .ref r_H_globals, .int H_globalsUsed, .ref r_H_cells, .int H_used, .ref r_H_spare, .int H_spareUsed, .int H_old, .int H_oldLeadsToNew, .int H_limit, .int H_every, .int H_fresh, .int H_made, .int H_madeLimit, .int H_reachedFromGlobals, .int H_reachedInAll, .ref r_H_keptGlobals, .int H_keptGlobalsUsed, .ref r_H_keptCells, .int H_kept])), (r_H_globals, .inl (cL, n_H_globals, .inr (.inl f_H_globals))), (r_H_cells, .inl (cL, n_H_cells, .inr (.inl f_H_cells))), (r_H_keptGlobals, .inl (cL, n_H_keptGlobals, .inr (.inl f_H_keptGlobals))), (r_H_keptCells, .inl (cL, n_H_keptCells, .inr (.inl f_H_keptCells)))])) (va_Qi (fun (r : Int32) (_ : Unit) => r = z.1) (fun (u : Unit) t => va_P (dC, dI) classes [(o_Heap, .inr (3, [.ref o_Stacks, .ref r_H_globals, .int z.2.2.2.2.1, .ref r_H_cells, .int z.2.2.2.2.2.2.2, .ref r_H_spare, .int H_spareUsed, .int z.2.2.2.2.2.1, .int z.2.2.2.2.2.2.1, .int H_limit, .int H_every, .int z.2.2.2.1, .int H_made, .int H_madeLimit, .int H_reachedFromGlobals, .int H_reachedInAll, .ref r_H_keptGlobals, .int H_keptGlobalsUsed, .ref r_H_keptCells, .int H_kept])), (r_H_globals, .inl (cL, n_H_globals, .inr (.inl z.2.2.1))), (r_H_cells, .inl (cL, n_H_cells, .inr (.inl z.2.1))), (r_H_keptGlobals, .inl (cL, n_H_keptGlobals, .inr (.inl f_H_keptGlobals))), (r_H_keptCells, .inl (cL, n_H_keptCells, .inr (.inl f_H_keptCells)))] t.heap ∧ va_K (dC, dI) classes [(cL, .long)] t ∧ va_D (va_A [(o_Heap, .inr (3, [.ref o_Stacks, .ref r_H_globals, .int H_globalsUsed, .ref r_H_cells, .int H_used, .ref r_H_spare, .int H_spareUsed, .int H_old, .int H_oldLeadsToNew, .int H_limit, .int H_every, .int H_fresh, .int H_made, .int H_madeLimit, .int H_reachedFromGlobals, .int H_reachedInAll, .ref r_H_keptGlobals, .int H_keptGlobalsUsed, .ref r_H_keptCells, .int H_kept])), (r_H_globals, .inl (cL, n_H_globals, .inr (.inl f_H_globals))), (r_H_cells, .inl (cL, n_H_cells, .inr (.inl f_H_cells))), (r_H_keptGlobals, .inl (cL, n_H_keptGlobals, .inr (.inl f_H_keptGlobals))), (r_H_keptCells, .inl (cL, n_H_keptCells, .inr (.inl f_H_keptCells)))] sz) [(o_Heap, .inr (3, [.ref o_Stacks, .ref r_H_globals, .int z.2.2.2.2.1, .ref r_H_cells, .int z.2.2.2.2.2.2.2, .ref r_H_spare, .int H_spareUsed, .int z.2.2.2.2.2.1, .int z.2.2.2.2.2.2.1, .int H_limit, .int H_every, .int z.2.2.2.1, .int H_made, .int H_madeLimit, .int H_reachedFromGlobals, .int H_reachedInAll, .ref r_H_keptGlobals, .int H_keptGlobalsUsed, .ref r_H_keptCells, .int H_kept])), (r_H_globals, .inl (cL, n_H_globals, .inr (.inl z.2.2.1))), (r_H_cells, .inl (cL, n_H_cells, .inr (.inl z.2.1))), (r_H_keptGlobals, .inl (cL, n_H_keptGlobals, .inr (.inl f_H_keptGlobals))), (r_H_keptCells, .inl (cL, n_H_keptCells, .inr (.inl f_H_keptCells)))]) (va_A [(o_Heap, .inr (3, [.ref o_Stacks, .ref r_H_globals, .int H_globalsUsed, .ref r_H_cells, .int H_used, .ref r_H_spare, .int H_spareUsed, .int H_old, .int H_oldLeadsToNew, .int H_limit, .int H_every, .int H_fresh, .int H_made, .int H_madeLimit, .int H_reachedFromGlobals, .int H_reachedInAll, .ref r_H_keptGlobals, .int H_keptGlobalsUsed, .ref r_H_keptCells, .int H_kept])), (r_H_globals, .inl (cL, n_H_globals, .inr (.inl f_H_globals))), (r_H_cells, .inl (cL, n_H_cells, .inr (.inl f_H_cells))), (r_H_keptGlobals, .inl (cL, n_H_keptGlobals, .inr (.inl f_H_keptGlobals))), (r_H_keptCells, .inl (cL, n_H_keptCells, .inr (.inl f_H_keptCells)))] sz)) 0 0 (va_A [(o_Heap, .inr (3, [.ref o_Stacks, .ref r_H_globals, .int H_globalsUsed, .ref r_H_cells, .int H_used, .ref r_H_spare, .int H_spareUsed, .int H_old, .int H_oldLeadsToNew, .int H_limit, .int H_every, .int H_fresh, .int H_made, .int H_madeLimit, .int H_reachedFromGlobals, .int H_reachedInAll, .ref r_H_keptGlobals, .int H_keptGlobalsUsed, .ref r_H_keptCells, .int H_kept])), (r_H_globals, .inl (cL, n_H_globals, .inr (.inl f_H_globals))), (r_H_cells, .inl (cL, n_H_cells, .inr (.inl f_H_cells))), (r_H_keptGlobals, .inl (cL, n_H_keptGlobals, .inr (.inl f_H_keptGlobals))), (r_H_keptCells, .inl (cL, n_H_keptCells, .inr (.inl f_H_keptCells)))] sz) := by
  refine Met.ofW (cc := b_Heap_bringBack) (maxL := 1) (ret := (some .int)) (by decide +kernel) rfl ?_
  intro p e s m args below meth c s₁ B hml hv
  obtain ⟨rfl, hN, hsz, hP, hK, hD0⟩ := hv
  have hx := B.exec
  have hb := B.bytes
  have hr := B.returns
  have hg : ∀ w ∈ lw_g, w.before _ s = true := fun w hw => atoms_spec (ws := .code y_Heap_bringBack b_Heap_bringBack 1 (some .int) :: lw_g) B.pre w (List.mem_cons_of_mem _ hw)
  have hown : s.vm.findClass R_Heap = some m.cls := findClass_of_methodNamed B.named
  have hlocks := B.notSynchronized
  clear B
  subst hsz
  have hD := hD0.self (sz := s.heap.size)
  generalize hAe : va_A [(o_Heap, .inr (3, [.ref o_Stacks, .ref r_H_globals, .int H_globalsUsed, .ref r_H_cells, .int H_used, .ref r_H_spare, .int H_spareUsed, .int H_old, .int H_oldLeadsToNew, .int H_limit, .int H_every, .int H_fresh, .int H_made, .int H_madeLimit, .int H_reachedFromGlobals, .int H_reachedInAll, .ref r_H_keptGlobals, .int H_keptGlobalsUsed, .ref r_H_keptCells, .int H_kept])), (r_H_globals, .inl (cL, n_H_globals, .inr (.inl f_H_globals))), (r_H_cells, .inl (cL, n_H_cells, .inr (.inl f_H_cells))), (r_H_keptGlobals, .inl (cL, n_H_keptGlobals, .inr (.inl f_H_keptGlobals))), (r_H_keptCells, .inl (cL, n_H_keptCells, .inr (.inl f_H_keptCells)))] s.heap.size = A at hD ⊢
  have hA : ∀ q : Nat, s.heap.size ≤ q → A q := fun q h => by rw [← hAe]; exact Or.inr h
  have hS : va_S A s.heap s.heap [] := va_S.rf
  have hP : va_P (dC, dI) classes [(o_Heap, .inr (3, [.ref o_Stacks, .ref r_H_globals, .int H_globalsUsed, .ref r_H_cells, .int H_used, .ref r_H_spare, .int H_spareUsed, .int H_old, .int H_oldLeadsToNew, .int H_limit, .int H_every, .int H_fresh, .int H_made, .int H_madeLimit, .int H_reachedFromGlobals, .int H_reachedInAll, .ref r_H_keptGlobals, .int H_keptGlobalsUsed, .ref r_H_keptCells, .int H_kept])), (r_H_globals, .inl (cL, n_H_globals, .inr (.inl f_H_globals))), (r_H_cells, .inl (cL, n_H_cells, .inr (.inl f_H_cells))), (r_H_keptGlobals, .inl (cL, n_H_keptGlobals, .inr (.inl f_H_keptGlobals))), (r_H_keptCells, .inl (cL, n_H_keptCells, .inr (.inl f_H_keptCells)))] s.heap := hP
  have hl := lv_entry ([.ref o_Heap]) (n := 1) (Nat.le_of_ble_eq_true rfl)
  rw [lg_entry_eq]
  generalize (lg_sl ([.ref o_Heap]) ++ List.replicate (1 - (lg_sl ([.ref o_Heap])).length) Slot.unset).toArray = ls at hl ⊢
  have hl : lv_has ls 1 [(0, .ref o_Heap)] := hl
  unfold m_Heap_bringBack at h
  refine lv_aload_n hx hb d_Heap_bringBack_0 rfl (lv_at hl 0 rfl) ?_
  refine va_get (D := (dC, dI)) (ci := 3) (v := .ref r_H_keptGlobals) (C := R_Heap) (T := F_Heap) (N := 20) hx hb hg i_Heap hown hK hP 0 rfl rfl 16 (by decide) (hg _ k152) (fun _ h9 => h9) rfl d_Heap_bringBack_1 ?_
  refine lv_iconst (v := 0) hx hb d_Heap_bringBack_4 (by decide) ?_
  refine lv_aload_n hx hb d_Heap_bringBack_5 rfl (lv_at hl 0 rfl) ?_
  refine va_get (D := (dC, dI)) (ci := 3) (v := .ref r_H_globals) (C := R_Heap) (T := F_Heap) (N := 20) hx hb hg i_Heap hown hK hP 0 rfl rfl 1 (by decide) (hg _ k144) (fun _ h9 => h9) rfl d_Heap_bringBack_6 ?_
  refine lv_iconst (v := 0) hx hb d_Heap_bringBack_9 (by decide) ?_
  refine lv_sipush (v := 2048) hx hb d_Heap_bringBack_10 (by decide) ?_
  obtain ⟨i1, h⟩ := dz_oi h
  refine va_copyl (D := (dC, dI)) (ty := .long) hx hb (hml.trans hl.1.symm) hown (hg _ k118) (hg _ k14) (hg _ k15) (hg _ k16) hK hP hD hS 3 1 0 0 rfl rfl rfl rfl rfl (fun q => i1 (Or.inl q)) (fun q => i1 (Or.inr (Or.inl q))) (fun q => i1 (Or.inr (Or.inr (Or.inl q)))) (Nat.not_lt.mp (fun q => i1 (Or.inr (Or.inr (Or.inr (Or.inl q)))))) (Nat.not_lt.mp (fun q => i1 (Or.inr (Or.inr (Or.inr (Or.inr q)))))) (fun _ _ => rfl) (Nat.le_of_ble_eq_true rfl) (by first | exact Nat.le_of_ble_eq_true rfl | (show _ ≤ 60; decide +kernel)) d_Heap_bringBack_13 (fun H locs hP hD hS => ?_)
  have hP : va_P (dC, dI) classes [(o_Heap, .inr (3, [.ref o_Stacks, .ref r_H_globals, .int H_globalsUsed, .ref r_H_cells, .int H_used, .ref r_H_spare, .int H_spareUsed, .int H_old, .int H_oldLeadsToNew, .int H_limit, .int H_every, .int H_fresh, .int H_made, .int H_madeLimit, .int H_reachedFromGlobals, .int H_reachedInAll, .ref r_H_keptGlobals, .int H_keptGlobalsUsed, .ref r_H_keptCells, .int H_kept])), (r_H_globals, .inl (cL, n_H_globals, .inr (.inl (va_cpy f_H_keptGlobals f_H_globals (0 : Int32).toNatClampNeg (0 : Int32).toNatClampNeg (2048 : Int32).toNatClampNeg)))), (r_H_cells, .inl (cL, n_H_cells, .inr (.inl f_H_cells))), (r_H_keptGlobals, .inl (cL, n_H_keptGlobals, .inr (.inl f_H_keptGlobals))), (r_H_keptCells, .inl (cL, n_H_keptCells, .inr (.inl f_H_keptCells)))] H := hP
  have hD : va_D A [(o_Heap, .inr (3, [.ref o_Stacks, .ref r_H_globals, .int H_globalsUsed, .ref r_H_cells, .int H_used, .ref r_H_spare, .int H_spareUsed, .int H_old, .int H_oldLeadsToNew, .int H_limit, .int H_every, .int H_fresh, .int H_made, .int H_madeLimit, .int H_reachedFromGlobals, .int H_reachedInAll, .ref r_H_keptGlobals, .int H_keptGlobalsUsed, .ref r_H_keptCells, .int H_kept])), (r_H_globals, .inl (cL, n_H_globals, .inr (.inl (va_cpy f_H_keptGlobals f_H_globals (0 : Int32).toNatClampNeg (0 : Int32).toNatClampNeg (2048 : Int32).toNatClampNeg)))), (r_H_cells, .inl (cL, n_H_cells, .inr (.inl f_H_cells))), (r_H_keptGlobals, .inl (cL, n_H_keptGlobals, .inr (.inl f_H_keptGlobals))), (r_H_keptCells, .inl (cL, n_H_keptCells, .inr (.inl f_H_keptCells)))] := hD
  refine lv_aload_n hx hb d_Heap_bringBack_16 rfl (lv_at hl 0 rfl) ?_
  refine lv_aload_n hx hb d_Heap_bringBack_17 rfl (lv_at hl 0 rfl) ?_
  refine va_get (D := (dC, dI)) (ci := 3) (v := .int H_keptGlobalsUsed) (C := R_Heap) (T := F_Heap) (N := 20) hx hb hg i_Heap hown hK hP 0 rfl rfl 17 (by decide) (hg _ k153) (fun _ h9 => h9) rfl d_Heap_bringBack_18 ?_
  refine va_put (D := (dC, dI)) (ci := 3) (v := .int H_keptGlobalsUsed) (ty := .int) (C := R_Heap) (T := F_Heap) (N := 20) hx hb hg i_Heap t_Heap t_Heap_ok n_Heap hown hK hP hD hS 0 rfl rfl 2 (by decide) (hg _ k145) (fun _ h9 => h9) rfl (by decide +kernel) rfl rfl (Nat.le_of_ble_eq_true rfl) d_Heap_bringBack_21 (fun H locs hP hD hS => ?_)
  have hP : va_P (dC, dI) classes [(o_Heap, .inr (3, [.ref o_Stacks, .ref r_H_globals, .int H_keptGlobalsUsed, .ref r_H_cells, .int H_used, .ref r_H_spare, .int H_spareUsed, .int H_old, .int H_oldLeadsToNew, .int H_limit, .int H_every, .int H_fresh, .int H_made, .int H_madeLimit, .int H_reachedFromGlobals, .int H_reachedInAll, .ref r_H_keptGlobals, .int H_keptGlobalsUsed, .ref r_H_keptCells, .int H_kept])), (r_H_globals, .inl (cL, n_H_globals, .inr (.inl (va_cpy f_H_keptGlobals f_H_globals (0 : Int32).toNatClampNeg (0 : Int32).toNatClampNeg (2048 : Int32).toNatClampNeg)))), (r_H_cells, .inl (cL, n_H_cells, .inr (.inl f_H_cells))), (r_H_keptGlobals, .inl (cL, n_H_keptGlobals, .inr (.inl f_H_keptGlobals))), (r_H_keptCells, .inl (cL, n_H_keptCells, .inr (.inl f_H_keptCells)))] H := hP
  have hD : va_D A [(o_Heap, .inr (3, [.ref o_Stacks, .ref r_H_globals, .int H_keptGlobalsUsed, .ref r_H_cells, .int H_used, .ref r_H_spare, .int H_spareUsed, .int H_old, .int H_oldLeadsToNew, .int H_limit, .int H_every, .int H_fresh, .int H_made, .int H_madeLimit, .int H_reachedFromGlobals, .int H_reachedInAll, .ref r_H_keptGlobals, .int H_keptGlobalsUsed, .ref r_H_keptCells, .int H_kept])), (r_H_globals, .inl (cL, n_H_globals, .inr (.inl (va_cpy f_H_keptGlobals f_H_globals (0 : Int32).toNatClampNeg (0 : Int32).toNatClampNeg (2048 : Int32).toNatClampNeg)))), (r_H_cells, .inl (cL, n_H_cells, .inr (.inl f_H_cells))), (r_H_keptGlobals, .inl (cL, n_H_keptGlobals, .inr (.inl f_H_keptGlobals))), (r_H_keptCells, .inl (cL, n_H_keptCells, .inr (.inl f_H_keptCells)))] := hD
  refine lv_aload_n hx hb d_Heap_bringBack_24 rfl (lv_at hl 0 rfl) ?_
  refine va_get (D := (dC, dI)) (ci := 3) (v := .ref r_H_globals) (C := R_Heap) (T := F_Heap) (N := 20) hx hb hg i_Heap hown hK hP 0 rfl rfl 1 (by decide) (hg _ k144) (fun _ h9 => h9) rfl d_Heap_bringBack_25 ?_
  refine lv_sipush (v := 2048) hx hb d_Heap_bringBack_28 (by decide) ?_
  refine lv_lconst (v := 0) hx hb d_Heap_bringBack_31 (by decide) ?_
  obtain ⟨i2, h⟩ := dz_oi h
  refine va_last (D := (dC, dI)) hx hb hK hP hD hS 1 0 rfl rfl i2 d_Heap_bringBack_32 (fun H locs hP hD hS => ?_)
  obtain ⟨g3, eg3, h⟩ := dz_lt h
  rw [← eg3] at hP hD
  have hP : va_P (dC, dI) classes [(o_Heap, .inr (3, [.ref o_Stacks, .ref r_H_globals, .int H_keptGlobalsUsed, .ref r_H_cells, .int H_used, .ref r_H_spare, .int H_spareUsed, .int H_old, .int H_oldLeadsToNew, .int H_limit, .int H_every, .int H_fresh, .int H_made, .int H_madeLimit, .int H_reachedFromGlobals, .int H_reachedInAll, .ref r_H_keptGlobals, .int H_keptGlobalsUsed, .ref r_H_keptCells, .int H_kept])), (r_H_globals, .inl (cL, n_H_globals, .inr (.inl g3))), (r_H_cells, .inl (cL, n_H_cells, .inr (.inl f_H_cells))), (r_H_keptGlobals, .inl (cL, n_H_keptGlobals, .inr (.inl f_H_keptGlobals))), (r_H_keptCells, .inl (cL, n_H_keptCells, .inr (.inl f_H_keptCells)))] H := hP
  have hD : va_D A [(o_Heap, .inr (3, [.ref o_Stacks, .ref r_H_globals, .int H_keptGlobalsUsed, .ref r_H_cells, .int H_used, .ref r_H_spare, .int H_spareUsed, .int H_old, .int H_oldLeadsToNew, .int H_limit, .int H_every, .int H_fresh, .int H_made, .int H_madeLimit, .int H_reachedFromGlobals, .int H_reachedInAll, .ref r_H_keptGlobals, .int H_keptGlobalsUsed, .ref r_H_keptCells, .int H_kept])), (r_H_globals, .inl (cL, n_H_globals, .inr (.inl g3))), (r_H_cells, .inl (cL, n_H_cells, .inr (.inl f_H_cells))), (r_H_keptGlobals, .inl (cL, n_H_keptGlobals, .inr (.inl f_H_keptGlobals))), (r_H_keptCells, .inl (cL, n_H_keptCells, .inr (.inl f_H_keptCells)))] := hD
  refine lv_aload_n hx hb d_Heap_bringBack_33 rfl (lv_at hl 0 rfl) ?_
  refine va_get (D := (dC, dI)) (ci := 3) (v := .ref r_H_keptCells) (C := R_Heap) (T := F_Heap) (N := 20) hx hb hg i_Heap hown hK hP 0 rfl rfl 18 (by decide) (hg _ k154) (fun _ h9 => h9) rfl d_Heap_bringBack_34 ?_
  refine lv_iconst (v := 0) hx hb d_Heap_bringBack_37 (by decide) ?_
  refine lv_aload_n hx hb d_Heap_bringBack_38 rfl (lv_at hl 0 rfl) ?_
  refine va_get (D := (dC, dI)) (ci := 3) (v := .ref r_H_cells) (C := R_Heap) (T := F_Heap) (N := 20) hx hb hg i_Heap hown hK hP 0 rfl rfl 3 (by decide) (hg _ k112) (fun _ h9 => h9) rfl d_Heap_bringBack_39 ?_
  refine lv_iconst (v := 0) hx hb d_Heap_bringBack_42 (by decide) ?_
  refine lv_aload_n hx hb d_Heap_bringBack_43 rfl (lv_at hl 0 rfl) ?_
  refine va_get (D := (dC, dI)) (ci := 3) (v := .int H_kept) (C := R_Heap) (T := F_Heap) (N := 20) hx hb hg i_Heap hown hK hP 0 rfl rfl 19 (by decide) (hg _ k155) (fun _ h9 => h9) rfl d_Heap_bringBack_44 ?_
  obtain ⟨i4, h⟩ := dz_oi h
  refine va_copyl (D := (dC, dI)) (ty := .long) hx hb (hml.trans hl.1.symm) hown (hg _ k118) (hg _ k14) (hg _ k15) (hg _ k16) hK hP hD hS 4 2 0 0 rfl rfl rfl rfl rfl (fun q => i4 (Or.inl q)) (fun q => i4 (Or.inr (Or.inl q))) (fun q => i4 (Or.inr (Or.inr (Or.inl q)))) (Nat.not_lt.mp (fun q => i4 (Or.inr (Or.inr (Or.inr (Or.inl q)))))) (Nat.not_lt.mp (fun q => i4 (Or.inr (Or.inr (Or.inr (Or.inr q)))))) (fun _ _ => rfl) (Nat.le_of_ble_eq_true rfl) (by first | exact Nat.le_of_ble_eq_true rfl | (show _ ≤ 60; decide +kernel)) d_Heap_bringBack_47 (fun H locs hP hD hS => ?_)
  have hP : va_P (dC, dI) classes [(o_Heap, .inr (3, [.ref o_Stacks, .ref r_H_globals, .int H_keptGlobalsUsed, .ref r_H_cells, .int H_used, .ref r_H_spare, .int H_spareUsed, .int H_old, .int H_oldLeadsToNew, .int H_limit, .int H_every, .int H_fresh, .int H_made, .int H_madeLimit, .int H_reachedFromGlobals, .int H_reachedInAll, .ref r_H_keptGlobals, .int H_keptGlobalsUsed, .ref r_H_keptCells, .int H_kept])), (r_H_globals, .inl (cL, n_H_globals, .inr (.inl g3))), (r_H_cells, .inl (cL, n_H_cells, .inr (.inl (va_cpy f_H_keptCells f_H_cells (0 : Int32).toNatClampNeg (0 : Int32).toNatClampNeg H_kept.toNatClampNeg)))), (r_H_keptGlobals, .inl (cL, n_H_keptGlobals, .inr (.inl f_H_keptGlobals))), (r_H_keptCells, .inl (cL, n_H_keptCells, .inr (.inl f_H_keptCells)))] H := hP
  have hD : va_D A [(o_Heap, .inr (3, [.ref o_Stacks, .ref r_H_globals, .int H_keptGlobalsUsed, .ref r_H_cells, .int H_used, .ref r_H_spare, .int H_spareUsed, .int H_old, .int H_oldLeadsToNew, .int H_limit, .int H_every, .int H_fresh, .int H_made, .int H_madeLimit, .int H_reachedFromGlobals, .int H_reachedInAll, .ref r_H_keptGlobals, .int H_keptGlobalsUsed, .ref r_H_keptCells, .int H_kept])), (r_H_globals, .inl (cL, n_H_globals, .inr (.inl g3))), (r_H_cells, .inl (cL, n_H_cells, .inr (.inl (va_cpy f_H_keptCells f_H_cells (0 : Int32).toNatClampNeg (0 : Int32).toNatClampNeg H_kept.toNatClampNeg)))), (r_H_keptGlobals, .inl (cL, n_H_keptGlobals, .inr (.inl f_H_keptGlobals))), (r_H_keptCells, .inl (cL, n_H_keptCells, .inr (.inl f_H_keptCells)))] := hD
  refine lv_aload_n hx hb d_Heap_bringBack_50 rfl (lv_at hl 0 rfl) ?_
  refine lv_aload_n hx hb d_Heap_bringBack_51 rfl (lv_at hl 0 rfl) ?_
  refine va_get (D := (dC, dI)) (ci := 3) (v := .int H_kept) (C := R_Heap) (T := F_Heap) (N := 20) hx hb hg i_Heap hown hK hP 0 rfl rfl 19 (by decide) (hg _ k155) (fun _ h9 => h9) rfl d_Heap_bringBack_52 ?_
  refine va_put (D := (dC, dI)) (ci := 3) (v := .int H_kept) (ty := .int) (C := R_Heap) (T := F_Heap) (N := 20) hx hb hg i_Heap t_Heap t_Heap_ok n_Heap hown hK hP hD hS 0 rfl rfl 4 (by decide) (hg _ k114) (fun _ h9 => h9) rfl (by decide +kernel) rfl rfl (Nat.le_of_ble_eq_true rfl) d_Heap_bringBack_55 (fun H locs hP hD hS => ?_)
  have hP : va_P (dC, dI) classes [(o_Heap, .inr (3, [.ref o_Stacks, .ref r_H_globals, .int H_keptGlobalsUsed, .ref r_H_cells, .int H_kept, .ref r_H_spare, .int H_spareUsed, .int H_old, .int H_oldLeadsToNew, .int H_limit, .int H_every, .int H_fresh, .int H_made, .int H_madeLimit, .int H_reachedFromGlobals, .int H_reachedInAll, .ref r_H_keptGlobals, .int H_keptGlobalsUsed, .ref r_H_keptCells, .int H_kept])), (r_H_globals, .inl (cL, n_H_globals, .inr (.inl g3))), (r_H_cells, .inl (cL, n_H_cells, .inr (.inl (va_cpy f_H_keptCells f_H_cells (0 : Int32).toNatClampNeg (0 : Int32).toNatClampNeg H_kept.toNatClampNeg)))), (r_H_keptGlobals, .inl (cL, n_H_keptGlobals, .inr (.inl f_H_keptGlobals))), (r_H_keptCells, .inl (cL, n_H_keptCells, .inr (.inl f_H_keptCells)))] H := hP
  have hD : va_D A [(o_Heap, .inr (3, [.ref o_Stacks, .ref r_H_globals, .int H_keptGlobalsUsed, .ref r_H_cells, .int H_kept, .ref r_H_spare, .int H_spareUsed, .int H_old, .int H_oldLeadsToNew, .int H_limit, .int H_every, .int H_fresh, .int H_made, .int H_madeLimit, .int H_reachedFromGlobals, .int H_reachedInAll, .ref r_H_keptGlobals, .int H_keptGlobalsUsed, .ref r_H_keptCells, .int H_kept])), (r_H_globals, .inl (cL, n_H_globals, .inr (.inl g3))), (r_H_cells, .inl (cL, n_H_cells, .inr (.inl (va_cpy f_H_keptCells f_H_cells (0 : Int32).toNatClampNeg (0 : Int32).toNatClampNeg H_kept.toNatClampNeg)))), (r_H_keptGlobals, .inl (cL, n_H_keptGlobals, .inr (.inl f_H_keptGlobals))), (r_H_keptCells, .inl (cL, n_H_keptCells, .inr (.inl f_H_keptCells)))] := hD
  refine lv_aload_n hx hb d_Heap_bringBack_58 rfl (lv_at hl 0 rfl) ?_
  refine lv_iconst (v := 0) hx hb d_Heap_bringBack_59 (by decide) ?_
  refine va_put (D := (dC, dI)) (ci := 3) (v := .int 0) (ty := .int) (C := R_Heap) (T := F_Heap) (N := 20) hx hb hg i_Heap t_Heap t_Heap_ok n_Heap hown hK hP hD hS 0 rfl rfl 11 (by decide) (hg _ k115) (fun _ h9 => h9) rfl (by decide +kernel) rfl rfl (Nat.le_of_ble_eq_true rfl) d_Heap_bringBack_60 (fun H locs hP hD hS => ?_)
  have hP : va_P (dC, dI) classes [(o_Heap, .inr (3, [.ref o_Stacks, .ref r_H_globals, .int H_keptGlobalsUsed, .ref r_H_cells, .int H_kept, .ref r_H_spare, .int H_spareUsed, .int H_old, .int H_oldLeadsToNew, .int H_limit, .int H_every, .int 0, .int H_made, .int H_madeLimit, .int H_reachedFromGlobals, .int H_reachedInAll, .ref r_H_keptGlobals, .int H_keptGlobalsUsed, .ref r_H_keptCells, .int H_kept])), (r_H_globals, .inl (cL, n_H_globals, .inr (.inl g3))), (r_H_cells, .inl (cL, n_H_cells, .inr (.inl (va_cpy f_H_keptCells f_H_cells (0 : Int32).toNatClampNeg (0 : Int32).toNatClampNeg H_kept.toNatClampNeg)))), (r_H_keptGlobals, .inl (cL, n_H_keptGlobals, .inr (.inl f_H_keptGlobals))), (r_H_keptCells, .inl (cL, n_H_keptCells, .inr (.inl f_H_keptCells)))] H := hP
  have hD : va_D A [(o_Heap, .inr (3, [.ref o_Stacks, .ref r_H_globals, .int H_keptGlobalsUsed, .ref r_H_cells, .int H_kept, .ref r_H_spare, .int H_spareUsed, .int H_old, .int H_oldLeadsToNew, .int H_limit, .int H_every, .int 0, .int H_made, .int H_madeLimit, .int H_reachedFromGlobals, .int H_reachedInAll, .ref r_H_keptGlobals, .int H_keptGlobalsUsed, .ref r_H_keptCells, .int H_kept])), (r_H_globals, .inl (cL, n_H_globals, .inr (.inl g3))), (r_H_cells, .inl (cL, n_H_cells, .inr (.inl (va_cpy f_H_keptCells f_H_cells (0 : Int32).toNatClampNeg (0 : Int32).toNatClampNeg H_kept.toNatClampNeg)))), (r_H_keptGlobals, .inl (cL, n_H_keptGlobals, .inr (.inl f_H_keptGlobals))), (r_H_keptCells, .inl (cL, n_H_keptCells, .inr (.inl f_H_keptCells)))] := hD
  refine lv_aload_n hx hb d_Heap_bringBack_63 rfl (lv_at hl 0 rfl) ?_
  refine lv_aload_n hx hb d_Heap_bringBack_64 rfl (lv_at hl 0 rfl) ?_
  refine va_get (D := (dC, dI)) (ci := 3) (v := .int H_kept) (C := R_Heap) (T := F_Heap) (N := 20) hx hb hg i_Heap hown hK hP 0 rfl rfl 19 (by decide) (hg _ k155) (fun _ h9 => h9) rfl d_Heap_bringBack_65 ?_
  refine va_put (D := (dC, dI)) (ci := 3) (v := .int H_kept) (ty := .int) (C := R_Heap) (T := F_Heap) (N := 20) hx hb hg i_Heap t_Heap t_Heap_ok n_Heap hown hK hP hD hS 0 rfl rfl 7 (by decide) (hg _ k116) (fun _ h9 => h9) rfl (by decide +kernel) rfl rfl (Nat.le_of_ble_eq_true rfl) d_Heap_bringBack_68 (fun H locs hP hD hS => ?_)
  have hP : va_P (dC, dI) classes [(o_Heap, .inr (3, [.ref o_Stacks, .ref r_H_globals, .int H_keptGlobalsUsed, .ref r_H_cells, .int H_kept, .ref r_H_spare, .int H_spareUsed, .int H_kept, .int H_oldLeadsToNew, .int H_limit, .int H_every, .int 0, .int H_made, .int H_madeLimit, .int H_reachedFromGlobals, .int H_reachedInAll, .ref r_H_keptGlobals, .int H_keptGlobalsUsed, .ref r_H_keptCells, .int H_kept])), (r_H_globals, .inl (cL, n_H_globals, .inr (.inl g3))), (r_H_cells, .inl (cL, n_H_cells, .inr (.inl (va_cpy f_H_keptCells f_H_cells (0 : Int32).toNatClampNeg (0 : Int32).toNatClampNeg H_kept.toNatClampNeg)))), (r_H_keptGlobals, .inl (cL, n_H_keptGlobals, .inr (.inl f_H_keptGlobals))), (r_H_keptCells, .inl (cL, n_H_keptCells, .inr (.inl f_H_keptCells)))] H := hP
  have hD : va_D A [(o_Heap, .inr (3, [.ref o_Stacks, .ref r_H_globals, .int H_keptGlobalsUsed, .ref r_H_cells, .int H_kept, .ref r_H_spare, .int H_spareUsed, .int H_kept, .int H_oldLeadsToNew, .int H_limit, .int H_every, .int 0, .int H_made, .int H_madeLimit, .int H_reachedFromGlobals, .int H_reachedInAll, .ref r_H_keptGlobals, .int H_keptGlobalsUsed, .ref r_H_keptCells, .int H_kept])), (r_H_globals, .inl (cL, n_H_globals, .inr (.inl g3))), (r_H_cells, .inl (cL, n_H_cells, .inr (.inl (va_cpy f_H_keptCells f_H_cells (0 : Int32).toNatClampNeg (0 : Int32).toNatClampNeg H_kept.toNatClampNeg)))), (r_H_keptGlobals, .inl (cL, n_H_keptGlobals, .inr (.inl f_H_keptGlobals))), (r_H_keptCells, .inl (cL, n_H_keptCells, .inr (.inl f_H_keptCells)))] := hD
  refine lv_aload_n hx hb d_Heap_bringBack_71 rfl (lv_at hl 0 rfl) ?_
  refine lv_iconst (v := 0) hx hb d_Heap_bringBack_72 (by decide) ?_
  refine va_put (D := (dC, dI)) (ci := 3) (v := .int 0) (ty := .boolean) (C := R_Heap) (T := F_Heap) (N := 20) hx hb hg i_Heap t_Heap t_Heap_ok n_Heap hown hK hP hD hS 0 rfl rfl 8 (by decide) (hg _ k117) (fun _ h9 => h9) rfl (by decide +kernel) (show narrow .boolean (.int 0) = .int 0 from rfl) (show fits .boolean (.int 0) = true from rfl) (Nat.le_of_ble_eq_true rfl) d_Heap_bringBack_73 (fun H locs hP hD hS => ?_)
  have hP : va_P (dC, dI) classes [(o_Heap, .inr (3, [.ref o_Stacks, .ref r_H_globals, .int H_keptGlobalsUsed, .ref r_H_cells, .int H_kept, .ref r_H_spare, .int H_spareUsed, .int H_kept, .int 0, .int H_limit, .int H_every, .int 0, .int H_made, .int H_madeLimit, .int H_reachedFromGlobals, .int H_reachedInAll, .ref r_H_keptGlobals, .int H_keptGlobalsUsed, .ref r_H_keptCells, .int H_kept])), (r_H_globals, .inl (cL, n_H_globals, .inr (.inl g3))), (r_H_cells, .inl (cL, n_H_cells, .inr (.inl (va_cpy f_H_keptCells f_H_cells (0 : Int32).toNatClampNeg (0 : Int32).toNatClampNeg H_kept.toNatClampNeg)))), (r_H_keptGlobals, .inl (cL, n_H_keptGlobals, .inr (.inl f_H_keptGlobals))), (r_H_keptCells, .inl (cL, n_H_keptCells, .inr (.inl f_H_keptCells)))] H := hP
  have hD : va_D A [(o_Heap, .inr (3, [.ref o_Stacks, .ref r_H_globals, .int H_keptGlobalsUsed, .ref r_H_cells, .int H_kept, .ref r_H_spare, .int H_spareUsed, .int H_kept, .int 0, .int H_limit, .int H_every, .int 0, .int H_made, .int H_madeLimit, .int H_reachedFromGlobals, .int H_reachedInAll, .ref r_H_keptGlobals, .int H_keptGlobalsUsed, .ref r_H_keptCells, .int H_kept])), (r_H_globals, .inl (cL, n_H_globals, .inr (.inl g3))), (r_H_cells, .inl (cL, n_H_cells, .inr (.inl (va_cpy f_H_keptCells f_H_cells (0 : Int32).toNatClampNeg (0 : Int32).toNatClampNeg H_kept.toNatClampNeg)))), (r_H_keptGlobals, .inl (cL, n_H_keptGlobals, .inr (.inl f_H_keptGlobals))), (r_H_keptCells, .inl (cL, n_H_keptCells, .inr (.inl f_H_keptCells)))] := hD
  refine lv_aload_n hx hb d_Heap_bringBack_76 rfl (lv_at hl 0 rfl) ?_
  refine va_get (D := (dC, dI)) (ci := 3) (v := .int H_kept) (C := R_Heap) (T := F_Heap) (N := 20) hx hb hg i_Heap hown hK hP 0 rfl rfl 19 (by decide) (hg _ k155) (fun _ h9 => h9) rfl d_Heap_bringBack_77 ?_
  obtain rfl := Option.some.inj h
  have hP9 := hP.sub (ws' := [(o_Heap, .inr (3, [.ref o_Stacks, .ref r_H_globals, .int H_keptGlobalsUsed, .ref r_H_cells, .int H_kept, .ref r_H_spare, .int H_spareUsed, .int H_kept, .int 0, .int H_limit, .int H_every, .int 0, .int H_made, .int H_madeLimit, .int H_reachedFromGlobals, .int H_reachedInAll, .ref r_H_keptGlobals, .int H_keptGlobalsUsed, .ref r_H_keptCells, .int H_kept])), (r_H_globals, .inl (cL, n_H_globals, .inr (.inl g3))), (r_H_cells, .inl (cL, n_H_cells, .inr (.inl (va_cpy f_H_keptCells f_H_cells (0 : Int32).toNatClampNeg (0 : Int32).toNatClampNeg H_kept.toNatClampNeg)))), (r_H_keptGlobals, .inl (cL, n_H_keptGlobals, .inr (.inl f_H_keptGlobals))), (r_H_keptCells, .inl (cL, n_H_keptCells, .inr (.inl f_H_keptCells)))]) [0, 1, 2, 3, 4] rfl
  have hD9 := hD.sub (ws' := [(o_Heap, .inr (3, [.ref o_Stacks, .ref r_H_globals, .int H_keptGlobalsUsed, .ref r_H_cells, .int H_kept, .ref r_H_spare, .int H_spareUsed, .int H_kept, .int 0, .int H_limit, .int H_every, .int 0, .int H_made, .int H_madeLimit, .int H_reachedFromGlobals, .int H_reachedInAll, .ref r_H_keptGlobals, .int H_keptGlobalsUsed, .ref r_H_keptCells, .int H_kept])), (r_H_globals, .inl (cL, n_H_globals, .inr (.inl g3))), (r_H_cells, .inl (cL, n_H_cells, .inr (.inl (va_cpy f_H_keptCells f_H_cells (0 : Int32).toNatClampNeg (0 : Int32).toNatClampNeg H_kept.toNatClampNeg)))), (r_H_keptGlobals, .inl (cL, n_H_keptGlobals, .inr (.inl f_H_keptGlobals))), (r_H_keptCells, .inl (cL, n_H_keptCells, .inr (.inl f_H_keptCells)))]) [0, 1, 2, 3, 4] (by decide) rfl
  have hK9 := hK.sub (tys' := [(cL, .long)]) [0] rfl
  exact W.iret (v := H_kept) hx hb hr (fun t ht hW => ⟨⟨H_kept, (), rfl, rfl, by rw [ht]; exact hP9, va_K.moved hW.alike hK9, hD9⟩, hS.F ht⟩) hS.2.2 d_Heap_bringBack_80
