theorem d_Stacks_init_0 : decode b_Stacks_init 0 = .ok (.aload_n 0, 1) := by decide +kernel
theorem d_Stacks_init_1 : decode b_Stacks_init 1 = .ok (.invokespecial 1, 3) := by decide +kernel
theorem d_Stacks_init_4 : decode b_Stacks_init 4 = .ok (.aload_n 0, 1) := by decide +kernel
theorem d_Stacks_init_5 : decode b_Stacks_init 5 = .ok (.sipush 128, 3) := by decide +kernel
theorem d_Stacks_init_8 : decode b_Stacks_init 8 = .ok (.newarray .long, 2) := by decide +kernel
theorem d_Stacks_init_10 : decode b_Stacks_init 10 = .ok (.putfield 7, 3) := by decide +kernel
theorem d_Stacks_init_13 : decode b_Stacks_init 13 = .ok (.aload_n 0, 1) := by decide +kernel
theorem d_Stacks_init_14 : decode b_Stacks_init 14 = .ok (.bipush 16, 2) := by decide +kernel
theorem d_Stacks_init_16 : decode b_Stacks_init 16 = .ok (.newarray .int, 2) := by decide +kernel
theorem d_Stacks_init_18 : decode b_Stacks_init 18 = .ok (.putfield 13, 3) := by decide +kernel
theorem d_Stacks_init_21 : decode b_Stacks_init 21 = .ok (.aload_n 0, 1) := by decide +kernel
theorem d_Stacks_init_22 : decode b_Stacks_init 22 = .ok (.bipush 16, 2) := by decide +kernel
theorem d_Stacks_init_24 : decode b_Stacks_init 24 = .ok (.newarray .int, 2) := by decide +kernel
theorem d_Stacks_init_26 : decode b_Stacks_init 26 = .ok (.putfield 17, 3) := by decide +kernel
theorem d_Stacks_init_29 : decode b_Stacks_init 29 = .ok (.aload_n 0, 1) := by decide +kernel
theorem d_Stacks_init_30 : decode b_Stacks_init 30 = .ok (.bipush 16, 2) := by decide +kernel
theorem d_Stacks_init_32 : decode b_Stacks_init 32 = .ok (.newarray .int, 2) := by decide +kernel
theorem d_Stacks_init_34 : decode b_Stacks_init 34 = .ok (.putfield 20, 3) := by decide +kernel
theorem d_Stacks_init_37 : decode b_Stacks_init 37 = .ok (.aload_n 0, 1) := by decide +kernel
theorem d_Stacks_init_38 : decode b_Stacks_init 38 = .ok (.bipush 16, 2) := by decide +kernel
theorem d_Stacks_init_40 : decode b_Stacks_init 40 = .ok (.newarray .long, 2) := by decide +kernel
theorem d_Stacks_init_42 : decode b_Stacks_init 42 = .ok (.putfield 23, 3) := by decide +kernel
theorem d_Stacks_init_45 : decode b_Stacks_init 45 = .ok (.aload_n 0, 1) := by decide +kernel
theorem d_Stacks_init_46 : decode b_Stacks_init 46 = .ok (.bipush 16, 2) := by decide +kernel
theorem d_Stacks_init_48 : decode b_Stacks_init 48 = .ok (.newarray .int, 2) := by decide +kernel
theorem d_Stacks_init_50 : decode b_Stacks_init 50 = .ok (.putfield 26, 3) := by decide +kernel
theorem d_Stacks_init_53 : decode b_Stacks_init 53 = .ok (.aload_n 0, 1) := by decide +kernel
theorem d_Stacks_init_54 : decode b_Stacks_init 54 = .ok (.bipush 16, 2) := by decide +kernel
theorem d_Stacks_init_56 : decode b_Stacks_init 56 = .ok (.newarray .int, 2) := by decide +kernel
theorem d_Stacks_init_58 : decode b_Stacks_init 58 = .ok (.putfield 29, 3) := by decide +kernel
theorem d_Stacks_init_61 : decode b_Stacks_init 61 = .ok (.aload_n 0, 1) := by decide +kernel
theorem d_Stacks_init_62 : decode b_Stacks_init 62 = .ok (.bipush 16, 2) := by decide +kernel
theorem d_Stacks_init_64 : decode b_Stacks_init 64 = .ok (.newarray .int, 2) := by decide +kernel
theorem d_Stacks_init_66 : decode b_Stacks_init 66 = .ok (.putfield 32, 3) := by decide +kernel
theorem d_Stacks_init_69 : decode b_Stacks_init 69 = .ok (.aload_n 0, 1) := by decide +kernel
theorem d_Stacks_init_70 : decode b_Stacks_init 70 = .ok (.bipush 16, 2) := by decide +kernel
theorem d_Stacks_init_72 : decode b_Stacks_init 72 = .ok (.newarray .int, 2) := by decide +kernel
theorem d_Stacks_init_74 : decode b_Stacks_init 74 = .ok (.putfield 35, 3) := by decide +kernel
theorem d_Stacks_init_77 : decode b_Stacks_init 77 = .ok (.return_, 1) := by decide +kernel
theorem d_Program_init_0 : decode b_Program_init 0 = .ok (.aload_n 0, 1) := by decide +kernel
theorem d_Program_init_1 : decode b_Program_init 1 = .ok (.invokespecial 3, 3) := by decide +kernel
theorem d_Program_init_4 : decode b_Program_init 4 = .ok (.aload_n 0, 1) := by decide +kernel
theorem d_Program_init_5 : decode b_Program_init 5 = .ok (.sipush 128, 3) := by decide +kernel
theorem d_Program_init_8 : decode b_Program_init 8 = .ok (.newarray .int, 2) := by decide +kernel
theorem d_Program_init_10 : decode b_Program_init 10 = .ok (.putfield 9, 3) := by decide +kernel
theorem d_Program_init_13 : decode b_Program_init 13 = .ok (.aload_n 0, 1) := by decide +kernel
theorem d_Program_init_14 : decode b_Program_init 14 = .ok (.bipush 64, 2) := by decide +kernel
theorem d_Program_init_16 : decode b_Program_init 16 = .ok (.newarray .byte, 2) := by decide +kernel
theorem d_Program_init_18 : decode b_Program_init 18 = .ok (.putfield 15, 3) := by decide +kernel
theorem d_Program_init_21 : decode b_Program_init 21 = .ok (.aload_n 0, 1) := by decide +kernel
theorem d_Program_init_22 : decode b_Program_init 22 = .ok (.bipush 16, 2) := by decide +kernel
theorem d_Program_init_24 : decode b_Program_init 24 = .ok (.newarray .int, 2) := by decide +kernel
theorem d_Program_init_26 : decode b_Program_init 26 = .ok (.putfield 19, 3) := by decide +kernel
theorem d_Program_init_29 : decode b_Program_init 29 = .ok (.return_, 1) := by decide +kernel
theorem d_Output_init_0 : decode b_Output_init 0 = .ok (.aload_n 0, 1) := by decide +kernel
theorem d_Output_init_1 : decode b_Output_init 1 = .ok (.invokespecial 1, 3) := by decide +kernel
theorem d_Output_init_4 : decode b_Output_init 4 = .ok (.aload_n 0, 1) := by decide +kernel
theorem d_Output_init_5 : decode b_Output_init 5 = .ok (.bipush 64, 2) := by decide +kernel
theorem d_Output_init_7 : decode b_Output_init 7 = .ok (.newarray .byte, 2) := by decide +kernel
theorem d_Output_init_9 : decode b_Output_init 9 = .ok (.putfield 7, 3) := by decide +kernel
theorem d_Output_init_12 : decode b_Output_init 12 = .ok (.return_, 1) := by decide +kernel
theorem d_Heap_init_0 : decode b_Heap_init 0 = .ok (.aload_n 0, 1) := by decide +kernel
theorem d_Heap_init_1 : decode b_Heap_init 1 = .ok (.invokespecial 5, 3) := by decide +kernel
theorem d_Heap_init_4 : decode b_Heap_init 4 = .ok (.aload_n 0, 1) := by decide +kernel
theorem d_Heap_init_5 : decode b_Heap_init 5 = .ok (.sipush 2049, 3) := by decide +kernel
theorem d_Heap_init_8 : decode b_Heap_init 8 = .ok (.newarray .long, 2) := by decide +kernel
theorem d_Heap_init_10 : decode b_Heap_init 10 = .ok (.putfield 11, 3) := by decide +kernel
theorem d_Heap_init_13 : decode b_Heap_init 13 = .ok (.aload_n 0, 1) := by decide +kernel
theorem d_Heap_init_14 : decode b_Heap_init 14 = .ok (.sipush 512, 3) := by decide +kernel
theorem d_Heap_init_17 : decode b_Heap_init 17 = .ok (.newarray .long, 2) := by decide +kernel
theorem d_Heap_init_19 : decode b_Heap_init 19 = .ok (.putfield 15, 3) := by decide +kernel
theorem d_Heap_init_22 : decode b_Heap_init 22 = .ok (.aload_n 0, 1) := by decide +kernel
theorem d_Heap_init_23 : decode b_Heap_init 23 = .ok (.iconst 0, 1) := by decide +kernel
theorem d_Heap_init_24 : decode b_Heap_init 24 = .ok (.newarray .long, 2) := by decide +kernel
theorem d_Heap_init_26 : decode b_Heap_init 26 = .ok (.putfield 18, 3) := by decide +kernel
theorem d_Heap_init_29 : decode b_Heap_init 29 = .ok (.aload_n 0, 1) := by decide +kernel
theorem d_Heap_init_30 : decode b_Heap_init 30 = .ok (.ldc 21, 2) := by decide +kernel
theorem d_Heap_init_32 : decode b_Heap_init 32 = .ok (.putfield 22, 3) := by decide +kernel
theorem d_Heap_init_35 : decode b_Heap_init 35 = .ok (.aload_n 0, 1) := by decide +kernel
theorem d_Heap_init_36 : decode b_Heap_init 36 = .ok (.ldc 26, 2) := by decide +kernel
theorem d_Heap_init_38 : decode b_Heap_init 38 = .ok (.putfield 27, 3) := by decide +kernel
theorem d_Heap_init_41 : decode b_Heap_init 41 = .ok (.aload_n 0, 1) := by decide +kernel
theorem d_Heap_init_42 : decode b_Heap_init 42 = .ok (.ldc 26, 2) := by decide +kernel
theorem d_Heap_init_44 : decode b_Heap_init 44 = .ok (.putfield 30, 3) := by decide +kernel
theorem d_Heap_init_47 : decode b_Heap_init 47 = .ok (.aload_n 0, 1) := by decide +kernel
theorem d_Heap_init_48 : decode b_Heap_init 48 = .ok (.sipush 2048, 3) := by decide +kernel
theorem d_Heap_init_51 : decode b_Heap_init 51 = .ok (.newarray .long, 2) := by decide +kernel
theorem d_Heap_init_53 : decode b_Heap_init 53 = .ok (.putfield 33, 3) := by decide +kernel
theorem d_Heap_init_56 : decode b_Heap_init 56 = .ok (.aload_n 0, 1) := by decide +kernel
theorem d_Heap_init_57 : decode b_Heap_init 57 = .ok (.iconst 0, 1) := by decide +kernel
theorem d_Heap_init_58 : decode b_Heap_init 58 = .ok (.newarray .long, 2) := by decide +kernel
theorem d_Heap_init_60 : decode b_Heap_init 60 = .ok (.putfield 36, 3) := by decide +kernel
theorem d_Heap_init_63 : decode b_Heap_init 63 = .ok (.aload_n 0, 1) := by decide +kernel
theorem d_Heap_init_64 : decode b_Heap_init 64 = .ok (.aload_n 1, 1) := by decide +kernel
theorem d_Heap_init_65 : decode b_Heap_init 65 = .ok (.putfield 39, 3) := by decide +kernel
theorem d_Heap_init_68 : decode b_Heap_init 68 = .ok (.return_, 1) := by decide +kernel
theorem d_Objects_init_0 : decode b_Objects_init 0 = .ok (.aload_n 0, 1) := by decide +kernel
theorem d_Objects_init_1 : decode b_Objects_init 1 = .ok (.invokespecial 1, 3) := by decide +kernel
theorem d_Objects_init_4 : decode b_Objects_init 4 = .ok (.aload_n 0, 1) := by decide +kernel
theorem d_Objects_init_5 : decode b_Objects_init 5 = .ok (.aload_n 1, 1) := by decide +kernel
theorem d_Objects_init_6 : decode b_Objects_init 6 = .ok (.putfield 7, 3) := by decide +kernel
theorem d_Objects_init_9 : decode b_Objects_init 9 = .ok (.aload_n 0, 1) := by decide +kernel
theorem d_Objects_init_10 : decode b_Objects_init 10 = .ok (.aload_n 2, 1) := by decide +kernel
theorem d_Objects_init_11 : decode b_Objects_init 11 = .ok (.putfield 13, 3) := by decide +kernel
theorem d_Objects_init_14 : decode b_Objects_init 14 = .ok (.aload_n 0, 1) := by decide +kernel
theorem d_Objects_init_15 : decode b_Objects_init 15 = .ok (.aload_n 3, 1) := by decide +kernel
theorem d_Objects_init_16 : decode b_Objects_init 16 = .ok (.putfield 17, 3) := by decide +kernel
theorem d_Objects_init_19 : decode b_Objects_init 19 = .ok (.return_, 1) := by decide +kernel
theorem d_Equality_init_0 : decode b_Equality_init 0 = .ok (.aload_n 0, 1) := by decide +kernel
theorem d_Equality_init_1 : decode b_Equality_init 1 = .ok (.invokespecial 1, 3) := by decide +kernel
theorem d_Equality_init_4 : decode b_Equality_init 4 = .ok (.aload_n 0, 1) := by decide +kernel
theorem d_Equality_init_5 : decode b_Equality_init 5 = .ok (.iconst 0, 1) := by decide +kernel
theorem d_Equality_init_6 : decode b_Equality_init 6 = .ok (.newarray .int, 2) := by decide +kernel
theorem d_Equality_init_8 : decode b_Equality_init 8 = .ok (.putfield 7, 3) := by decide +kernel
theorem d_Equality_init_11 : decode b_Equality_init 11 = .ok (.aload_n 0, 1) := by decide +kernel
theorem d_Equality_init_12 : decode b_Equality_init 12 = .ok (.bipush 16, 2) := by decide +kernel
theorem d_Equality_init_14 : decode b_Equality_init 14 = .ok (.newarray .long, 2) := by decide +kernel
theorem d_Equality_init_16 : decode b_Equality_init 16 = .ok (.putfield 13, 3) := by decide +kernel
theorem d_Equality_init_19 : decode b_Equality_init 19 = .ok (.aload_n 0, 1) := by decide +kernel
theorem d_Equality_init_20 : decode b_Equality_init 20 = .ok (.aload_n 1, 1) := by decide +kernel
theorem d_Equality_init_21 : decode b_Equality_init 21 = .ok (.putfield 17, 3) := by decide +kernel
theorem d_Equality_init_24 : decode b_Equality_init 24 = .ok (.return_, 1) := by decide +kernel
theorem d_Numbers_init_0 : decode b_Numbers_init 0 = .ok (.aload_n 0, 1) := by decide +kernel
theorem d_Numbers_init_1 : decode b_Numbers_init 1 = .ok (.invokespecial 1, 3) := by decide +kernel
theorem d_Numbers_init_4 : decode b_Numbers_init 4 = .ok (.aload_n 0, 1) := by decide +kernel
theorem d_Numbers_init_5 : decode b_Numbers_init 5 = .ok (.aload_n 1, 1) := by decide +kernel
theorem d_Numbers_init_6 : decode b_Numbers_init 6 = .ok (.putfield 7, 3) := by decide +kernel
theorem d_Numbers_init_9 : decode b_Numbers_init 9 = .ok (.return_, 1) := by decide +kernel
theorem d_Strings_init_0 : decode b_Strings_init 0 = .ok (.aload_n 0, 1) := by decide +kernel
theorem d_Strings_init_1 : decode b_Strings_init 1 = .ok (.invokespecial 3, 3) := by decide +kernel
theorem d_Strings_init_4 : decode b_Strings_init 4 = .ok (.aload_n 0, 1) := by decide +kernel
theorem d_Strings_init_5 : decode b_Strings_init 5 = .ok (.aload_n 1, 1) := by decide +kernel
theorem d_Strings_init_6 : decode b_Strings_init 6 = .ok (.putfield 9, 3) := by decide +kernel
theorem d_Strings_init_9 : decode b_Strings_init 9 = .ok (.aload_n 0, 1) := by decide +kernel
theorem d_Strings_init_10 : decode b_Strings_init 10 = .ok (.aload_n 2, 1) := by decide +kernel
theorem d_Strings_init_11 : decode b_Strings_init 11 = .ok (.putfield 15, 3) := by decide +kernel
theorem d_Strings_init_14 : decode b_Strings_init 14 = .ok (.aload_n 0, 1) := by decide +kernel
theorem d_Strings_init_15 : decode b_Strings_init 15 = .ok (.aload_n 3, 1) := by decide +kernel
theorem d_Strings_init_16 : decode b_Strings_init 16 = .ok (.putfield 19, 3) := by decide +kernel
theorem d_Strings_init_19 : decode b_Strings_init 19 = .ok (.return_, 1) := by decide +kernel
theorem d_Machine_init_0 : decode b_Machine_init 0 = .ok (.aload_n 0, 1) := by decide +kernel
theorem d_Machine_init_1 : decode b_Machine_init 1 = .ok (.invokespecial 3, 3) := by decide +kernel
theorem d_Machine_init_4 : decode b_Machine_init 4 = .ok (.aload_n 0, 1) := by decide +kernel
theorem d_Machine_init_5 : decode b_Machine_init 5 = .ok (.iconst (-1), 1) := by decide +kernel
theorem d_Machine_init_6 : decode b_Machine_init 6 = .ok (.putfield 11, 3) := by decide +kernel
theorem d_Machine_init_9 : decode b_Machine_init 9 = .ok (.aload_n 0, 1) := by decide +kernel
theorem d_Machine_init_10 : decode b_Machine_init 10 = .ok (.sipush 2000, 3) := by decide +kernel
theorem d_Machine_init_13 : decode b_Machine_init 13 = .ok (.putfield 17, 3) := by decide +kernel
theorem d_Machine_init_16 : decode b_Machine_init 16 = .ok (.aload_n 0, 1) := by decide +kernel
theorem d_Machine_init_17 : decode b_Machine_init 17 = .ok (.aload_n 1, 1) := by decide +kernel
theorem d_Machine_init_18 : decode b_Machine_init 18 = .ok (.putfield 20, 3) := by decide +kernel
theorem d_Machine_init_21 : decode b_Machine_init 21 = .ok (.aload_n 0, 1) := by decide +kernel
theorem d_Machine_init_22 : decode b_Machine_init 22 = .ok (.aload_n 2, 1) := by decide +kernel
theorem d_Machine_init_23 : decode b_Machine_init 23 = .ok (.putfield 24, 3) := by decide +kernel
theorem d_Machine_init_26 : decode b_Machine_init 26 = .ok (.aload_n 0, 1) := by decide +kernel
theorem d_Machine_init_27 : decode b_Machine_init 27 = .ok (.aload_n 3, 1) := by decide +kernel
theorem d_Machine_init_28 : decode b_Machine_init 28 = .ok (.putfield 28, 3) := by decide +kernel
theorem d_Machine_init_31 : decode b_Machine_init 31 = .ok (.aload_n 0, 1) := by decide +kernel
theorem d_Machine_init_32 : decode b_Machine_init 32 = .ok (.new 32, 3) := by decide +kernel
theorem d_Machine_init_35 : decode b_Machine_init 35 = .ok (.dup, 1) := by decide +kernel
theorem d_Machine_init_36 : decode b_Machine_init 36 = .ok (.aload_n 1, 1) := by decide +kernel
theorem d_Machine_init_37 : decode b_Machine_init 37 = .ok (.aload_n 2, 1) := by decide +kernel
theorem d_Machine_init_38 : decode b_Machine_init 38 = .ok (.aload_n 3, 1) := by decide +kernel
theorem d_Machine_init_39 : decode b_Machine_init 39 = .ok (.invokespecial 34, 3) := by decide +kernel
theorem d_Machine_init_42 : decode b_Machine_init 42 = .ok (.putfield 37, 3) := by decide +kernel
theorem d_Machine_init_45 : decode b_Machine_init 45 = .ok (.aload_n 0, 1) := by decide +kernel
theorem d_Machine_init_46 : decode b_Machine_init 46 = .ok (.new 41, 3) := by decide +kernel
theorem d_Machine_init_49 : decode b_Machine_init 49 = .ok (.dup, 1) := by decide +kernel
theorem d_Machine_init_50 : decode b_Machine_init 50 = .ok (.aload_n 3, 1) := by decide +kernel
theorem d_Machine_init_51 : decode b_Machine_init 51 = .ok (.invokespecial 43, 3) := by decide +kernel
theorem d_Machine_init_54 : decode b_Machine_init 54 = .ok (.putfield 46, 3) := by decide +kernel
theorem d_Machine_init_57 : decode b_Machine_init 57 = .ok (.aload_n 0, 1) := by decide +kernel
theorem d_Machine_init_58 : decode b_Machine_init 58 = .ok (.new 50, 3) := by decide +kernel
theorem d_Machine_init_61 : decode b_Machine_init 61 = .ok (.dup, 1) := by decide +kernel
theorem d_Machine_init_62 : decode b_Machine_init 62 = .ok (.aload_n 2, 1) := by decide +kernel
theorem d_Machine_init_63 : decode b_Machine_init 63 = .ok (.invokespecial 52, 3) := by decide +kernel
theorem d_Machine_init_66 : decode b_Machine_init 66 = .ok (.putfield 55, 3) := by decide +kernel
theorem d_Machine_init_69 : decode b_Machine_init 69 = .ok (.aload_n 0, 1) := by decide +kernel
theorem d_Machine_init_70 : decode b_Machine_init 70 = .ok (.new 59, 3) := by decide +kernel
theorem d_Machine_init_73 : decode b_Machine_init 73 = .ok (.dup, 1) := by decide +kernel
theorem d_Machine_init_74 : decode b_Machine_init 74 = .ok (.aload_n 2, 1) := by decide +kernel
theorem d_Machine_init_75 : decode b_Machine_init 75 = .ok (.aload_n 3, 1) := by decide +kernel
theorem d_Machine_init_76 : decode b_Machine_init 76 = .ok (.aload 4, 2) := by decide +kernel
theorem d_Machine_init_78 : decode b_Machine_init 78 = .ok (.invokespecial 61, 3) := by decide +kernel
theorem d_Machine_init_81 : decode b_Machine_init 81 = .ok (.putfield 64, 3) := by decide +kernel
theorem d_Machine_init_84 : decode b_Machine_init 84 = .ok (.return_, 1) := by decide +kernel
theorem d_Engine_init_0 : decode b_Engine_init 0 = .ok (.aload_n 0, 1) := by decide +kernel
theorem d_Engine_init_1 : decode b_Engine_init 1 = .ok (.invokespecial 1, 3) := by decide +kernel
theorem d_Engine_init_4 : decode b_Engine_init 4 = .ok (.new 7, 3) := by decide +kernel
theorem d_Engine_init_7 : decode b_Engine_init 7 = .ok (.dup, 1) := by decide +kernel
theorem d_Engine_init_8 : decode b_Engine_init 8 = .ok (.invokespecial 9, 3) := by decide +kernel
theorem d_Engine_init_11 : decode b_Engine_init 11 = .ok (.astore_n 1, 1) := by decide +kernel
theorem d_Engine_init_12 : decode b_Engine_init 12 = .ok (.aload_n 0, 1) := by decide +kernel
theorem d_Engine_init_13 : decode b_Engine_init 13 = .ok (.new 10, 3) := by decide +kernel
theorem d_Engine_init_16 : decode b_Engine_init 16 = .ok (.dup, 1) := by decide +kernel
theorem d_Engine_init_17 : decode b_Engine_init 17 = .ok (.invokespecial 12, 3) := by decide +kernel
theorem d_Engine_init_20 : decode b_Engine_init 20 = .ok (.putfield 13, 3) := by decide +kernel
theorem d_Engine_init_23 : decode b_Engine_init 23 = .ok (.aload_n 0, 1) := by decide +kernel
theorem d_Engine_init_24 : decode b_Engine_init 24 = .ok (.new 19, 3) := by decide +kernel
theorem d_Engine_init_27 : decode b_Engine_init 27 = .ok (.dup, 1) := by decide +kernel
theorem d_Engine_init_28 : decode b_Engine_init 28 = .ok (.invokespecial 21, 3) := by decide +kernel
theorem d_Engine_init_31 : decode b_Engine_init 31 = .ok (.putfield 22, 3) := by decide +kernel
theorem d_Engine_init_34 : decode b_Engine_init 34 = .ok (.aload_n 0, 1) := by decide +kernel
theorem d_Engine_init_35 : decode b_Engine_init 35 = .ok (.new 26, 3) := by decide +kernel
theorem d_Engine_init_38 : decode b_Engine_init 38 = .ok (.dup, 1) := by decide +kernel
theorem d_Engine_init_39 : decode b_Engine_init 39 = .ok (.aload_n 1, 1) := by decide +kernel
theorem d_Engine_init_40 : decode b_Engine_init 40 = .ok (.invokespecial 28, 3) := by decide +kernel
theorem d_Engine_init_43 : decode b_Engine_init 43 = .ok (.putfield 31, 3) := by decide +kernel
theorem d_Engine_init_46 : decode b_Engine_init 46 = .ok (.aload_n 0, 1) := by decide +kernel
theorem d_Engine_init_47 : decode b_Engine_init 47 = .ok (.new 35, 3) := by decide +kernel
theorem d_Engine_init_50 : decode b_Engine_init 50 = .ok (.dup, 1) := by decide +kernel
theorem d_Engine_init_51 : decode b_Engine_init 51 = .ok (.aload_n 0, 1) := by decide +kernel
theorem d_Engine_init_52 : decode b_Engine_init 52 = .ok (.getfield 13, 3) := by decide +kernel
theorem d_Engine_init_55 : decode b_Engine_init 55 = .ok (.aload_n 1, 1) := by decide +kernel
theorem d_Engine_init_56 : decode b_Engine_init 56 = .ok (.aload_n 0, 1) := by decide +kernel
theorem d_Engine_init_57 : decode b_Engine_init 57 = .ok (.getfield 31, 3) := by decide +kernel
theorem d_Engine_init_60 : decode b_Engine_init 60 = .ok (.aload_n 0, 1) := by decide +kernel
theorem d_Engine_init_61 : decode b_Engine_init 61 = .ok (.getfield 22, 3) := by decide +kernel
theorem d_Engine_init_64 : decode b_Engine_init 64 = .ok (.invokespecial 37, 3) := by decide +kernel
theorem d_Engine_init_67 : decode b_Engine_init 67 = .ok (.putfield 40, 3) := by decide +kernel
theorem d_Engine_init_70 : decode b_Engine_init 70 = .ok (.return_, 1) := by decide +kernel
theorem k1053 : Cond.methodLink R_Stacks 1 y_Object_init ∈ lw_g := kg (List.mem_append_right _ (List.mem_of_getElem? (i := 30) (by decide +kernel))) rfl
theorem k1054 : Cond.instanceMethod y_Object_init ∈ lw_g := kg (List.mem_append_right _ (List.mem_of_getElem? (i := 23) (by decide +kernel))) rfl
theorem k1055 : Cond.code y_Object_init b_Object_init 1 none ∈ lw_g := kg (List.mem_append_right _ (List.mem_of_getElem? (i := 24) (by decide +kernel))) rfl
theorem k1056 : Cond.methodLink R_Program 3 y_Object_init ∈ lw_g := kg (List.mem_append_right _ (List.mem_of_getElem? (i := 86) (by decide +kernel))) rfl
theorem k1057 : Cond.methodLink R_Output 1 y_Object_init ∈ lw_g := kg (List.mem_append_right _ (List.mem_of_getElem? (i := 122) (by decide +kernel))) rfl
theorem k1058 : Cond.constant R_Heap 21 65536 ∈ lw_g := kg (List.mem_append_right _ (List.mem_of_getElem? (i := 138) (by decide +kernel))) rfl
theorem k1059 : Cond.constant R_Heap 26 1000000 ∈ lw_g := kg (List.mem_append_right _ (List.mem_of_getElem? (i := 139) (by decide +kernel))) rfl
theorem k1060 : Cond.methodLink R_Heap 5 y_Object_init ∈ lw_g := kg (List.mem_append_right _ (List.mem_of_getElem? (i := 137) (by decide +kernel))) rfl
theorem k1061 : Cond.methodLink R_Objects 1 y_Object_init ∈ lw_g := kg (List.mem_append_right _ (List.mem_of_getElem? (i := 224) (by decide +kernel))) rfl
theorem k1062 : Cond.methodLink R_Equality 1 y_Object_init ∈ lw_g := kg (List.mem_append_right _ (List.mem_of_getElem? (i := 243) (by decide +kernel))) rfl
theorem k1063 : Cond.methodLink R_Numbers 1 y_Object_init ∈ lw_g := kg (List.mem_append_right _ (List.mem_of_getElem? (i := 262) (by decide +kernel))) rfl
theorem k1064 : Cond.methodLink R_Strings 3 y_Object_init ∈ lw_g := kg (List.mem_append_right _ (List.mem_of_getElem? (i := 272) (by decide +kernel))) rfl
theorem k1065 : Cond.methodLink R_Machine 3 y_Object_init ∈ lw_g := kg (List.mem_append_right _ (List.mem_of_getElem? (i := 218) (by decide +kernel))) rfl
theorem k1066 : Cond.classLink R_Machine 32 R_Objects ∈ lw_g := kg (List.mem_append_right _ (List.mem_of_getElem? (i := 219) (by decide +kernel))) rfl
theorem k1067 : Cond.instantiable R_Objects 4 ∈ lw_g := kg (List.mem_append_right _ (List.mem_of_getElem? (i := 220) (by decide +kernel))) rfl
theorem k1068 : Cond.code y_Objects_init b_Objects_init 4 none ∈ lw_g := kg (List.mem_append_right _ (List.mem_of_getElem? (i := 223) (by decide +kernel))) rfl
theorem k1069 : Cond.methodLink R_Machine 34 y_Objects_init ∈ lw_g := kg (List.mem_append_right _ (List.mem_of_getElem? (i := 221) (by decide +kernel))) rfl
theorem k1070 : Cond.instanceMethod y_Objects_init ∈ lw_g := kg (List.mem_append_right _ (List.mem_of_getElem? (i := 222) (by decide +kernel))) rfl
theorem k1071 : Cond.classLink R_Machine 41 R_Equality ∈ lw_g := kg (List.mem_append_right _ (List.mem_of_getElem? (i := 238) (by decide +kernel))) rfl
theorem k1072 : Cond.instantiable R_Equality 4 ∈ lw_g := kg (List.mem_append_right _ (List.mem_of_getElem? (i := 239) (by decide +kernel))) rfl
theorem k1073 : Cond.code y_Equality_init b_Equality_init 2 none ∈ lw_g := kg (List.mem_append_right _ (List.mem_of_getElem? (i := 242) (by decide +kernel))) rfl
theorem k1074 : Cond.methodLink R_Machine 43 y_Equality_init ∈ lw_g := kg (List.mem_append_right _ (List.mem_of_getElem? (i := 240) (by decide +kernel))) rfl
theorem k1075 : Cond.instanceMethod y_Equality_init ∈ lw_g := kg (List.mem_append_right _ (List.mem_of_getElem? (i := 241) (by decide +kernel))) rfl
theorem k1076 : Cond.classLink R_Machine 50 R_Numbers ∈ lw_g := kg (List.mem_append_right _ (List.mem_of_getElem? (i := 257) (by decide +kernel))) rfl
theorem k1077 : Cond.instantiable R_Numbers 1 ∈ lw_g := kg (List.mem_append_right _ (List.mem_of_getElem? (i := 258) (by decide +kernel))) rfl
theorem k1078 : Cond.code y_Numbers_init b_Numbers_init 2 none ∈ lw_g := kg (List.mem_append_right _ (List.mem_of_getElem? (i := 261) (by decide +kernel))) rfl
theorem k1079 : Cond.methodLink R_Machine 52 y_Numbers_init ∈ lw_g := kg (List.mem_append_right _ (List.mem_of_getElem? (i := 259) (by decide +kernel))) rfl
theorem k1080 : Cond.instanceMethod y_Numbers_init ∈ lw_g := kg (List.mem_append_right _ (List.mem_of_getElem? (i := 260) (by decide +kernel))) rfl
theorem k1081 : Cond.classLink R_Machine 59 R_Strings ∈ lw_g := kg (List.mem_append_right _ (List.mem_of_getElem? (i := 267) (by decide +kernel))) rfl
theorem k1082 : Cond.instantiable R_Strings 3 ∈ lw_g := kg (List.mem_append_right _ (List.mem_of_getElem? (i := 268) (by decide +kernel))) rfl
theorem k1083 : Cond.code y_Strings_init b_Strings_init 4 none ∈ lw_g := kg (List.mem_append_right _ (List.mem_of_getElem? (i := 271) (by decide +kernel))) rfl
theorem k1084 : Cond.methodLink R_Machine 61 y_Strings_init ∈ lw_g := kg (List.mem_append_right _ (List.mem_of_getElem? (i := 269) (by decide +kernel))) rfl
theorem k1085 : Cond.instanceMethod y_Strings_init ∈ lw_g := kg (List.mem_append_right _ (List.mem_of_getElem? (i := 270) (by decide +kernel))) rfl
theorem k1086 : Cond.methodLink R_Engine 1 y_Object_init ∈ lw_g := kg (List.mem_append_right _ (List.mem_of_getElem? (i := 22) (by decide +kernel))) rfl
theorem k1087 : Cond.classLink R_Engine 7 R_Stacks ∈ lw_g := kg (List.mem_append_right _ (List.mem_of_getElem? (i := 25) (by decide +kernel))) rfl
theorem k1088 : Cond.instantiable R_Stacks 12 ∈ lw_g := kg (List.mem_append_right _ (List.mem_of_getElem? (i := 26) (by decide +kernel))) rfl
theorem k1089 : Cond.code y_Stacks_init b_Stacks_init 1 none ∈ lw_g := kg (List.mem_append_right _ (List.mem_of_getElem? (i := 29) (by decide +kernel))) rfl
theorem k1090 : Cond.instanceMethod y_Stacks_init ∈ lw_g := kg (List.mem_append_right _ (List.mem_of_getElem? (i := 28) (by decide +kernel))) rfl
theorem k1091 : Cond.classLink R_Engine 10 R_Program ∈ lw_g := kg (List.mem_append_right _ (List.mem_of_getElem? (i := 81) (by decide +kernel))) rfl
theorem k1092 : Cond.instantiable R_Program 7 ∈ lw_g := kg (List.mem_append_right _ (List.mem_of_getElem? (i := 82) (by decide +kernel))) rfl
theorem k1093 : Cond.code y_Program_init b_Program_init 1 none ∈ lw_g := kg (List.mem_append_right _ (List.mem_of_getElem? (i := 85) (by decide +kernel))) rfl
theorem k1094 : Cond.instanceMethod y_Program_init ∈ lw_g := kg (List.mem_append_right _ (List.mem_of_getElem? (i := 84) (by decide +kernel))) rfl
theorem k1095 : Cond.classLink R_Engine 19 R_Output ∈ lw_g := kg (List.mem_append_right _ (List.mem_of_getElem? (i := 117) (by decide +kernel))) rfl
theorem k1096 : Cond.instantiable R_Output 2 ∈ lw_g := kg (List.mem_append_right _ (List.mem_of_getElem? (i := 118) (by decide +kernel))) rfl
theorem k1097 : Cond.code y_Output_init b_Output_init 1 none ∈ lw_g := kg (List.mem_append_right _ (List.mem_of_getElem? (i := 121) (by decide +kernel))) rfl
theorem k1098 : Cond.instanceMethod y_Output_init ∈ lw_g := kg (List.mem_append_right _ (List.mem_of_getElem? (i := 120) (by decide +kernel))) rfl
theorem k1099 : Cond.classLink R_Engine 26 R_Heap ∈ lw_g := kg (List.mem_append_right _ (List.mem_of_getElem? (i := 132) (by decide +kernel))) rfl
theorem k1100 : Cond.instantiable R_Heap 20 ∈ lw_g := kg (List.mem_append_right _ (List.mem_of_getElem? (i := 133) (by decide +kernel))) rfl
theorem k1101 : Cond.code y_Heap_init b_Heap_init 2 none ∈ lw_g := kg (List.mem_append_right _ (List.mem_of_getElem? (i := 136) (by decide +kernel))) rfl
theorem k1102 : Cond.methodLink R_Engine 28 y_Heap_init ∈ lw_g := kg (List.mem_append_right _ (List.mem_of_getElem? (i := 134) (by decide +kernel))) rfl
theorem k1103 : Cond.instanceMethod y_Heap_init ∈ lw_g := kg (List.mem_append_right _ (List.mem_of_getElem? (i := 135) (by decide +kernel))) rfl
theorem k1104 : Cond.classLink R_Engine 35 R_Machine ∈ lw_g := kg (List.mem_append_right _ (List.mem_of_getElem? (i := 213) (by decide +kernel))) rfl
theorem k1105 : Cond.instantiable R_Machine 15 ∈ lw_g := kg (List.mem_append_right _ (List.mem_of_getElem? (i := 214) (by decide +kernel))) rfl
theorem k1106 : Cond.code y_Machine_init b_Machine_init 5 none ∈ lw_g := kg (List.mem_append_right _ (List.mem_of_getElem? (i := 217) (by decide +kernel))) rfl
theorem k1107 : Cond.methodLink R_Engine 37 y_Machine_init ∈ lw_g := kg (List.mem_append_right _ (List.mem_of_getElem? (i := 215) (by decide +kernel))) rfl
theorem k1108 : Cond.instanceMethod y_Machine_init ∈ lw_g := kg (List.mem_append_right _ (List.mem_of_getElem? (i := 216) (by decide +kernel))) rfl
/-- the links of nest mates that the engine's constructor takes -/
def dz_N2 (U : State) : Prop := va_Nw (.methodLinkNest R_Engine 9 y_Stacks_init "CellEngine") U ∧ va_Nw (.methodLinkNest R_Engine 12 y_Program_init "CellEngine") U ∧ va_Nw (.methodLinkNest R_Engine 21 y_Output_init "CellEngine") U
theorem dz_N2w {s U : State} (hW : s.WarmedH U.vm) (h : dz_N2 s) : dz_N2 U := ⟨va_Nw.warmM hW h.1, va_Nw.warmM hW h.2.1, va_Nw.warmM hW h.2.2⟩
theorem dz_N2s {s U : State} (hW : s.vm = U.vm) (h : dz_N2 s) : dz_N2 U := ⟨va_Nw.same rfl hW h.1, va_Nw.same rfl hW h.2.1, va_Nw.same rfl hW h.2.2⟩
theorem dz_blind2 {av : List Value} {sz : Nat} {D : va_G} {cl : List vw_C} {ws : va_W} {tys : List (ClassId × FieldType)} : FrameBlind (va_Pc av (fun U => dz_N U ∧ dz_N2 U ∧ U.heap.size = sz ∧ va_P D cl ws U.heap ∧ va_K D cl tys U ∧ va_D (fun _ => True) ws)) := fun a U g mk q => by
  obtain ⟨q0, qN, qM, q1, qP, qK, qD⟩ := q
  exact ⟨q0, dz_Ns rfl qN, dz_N2s rfl qM, q1, qP, va_K.moved (u := U) (U := U.calling g mk a) (Vm.Alike.refl U.vm) qK, qD⟩
set_option maxHeartbeats 4000000 in
set_option maxRecDepth 100000 in
theorem c_Stacks_init (l : Launch) (dC : Nat → ClassId) (dI : Nat → Nat → Nat) (N : Nat) (cI : ClassId) (cL : ClassId) (o_Stacks : Nat) (sz : Nat) (Z1 : Nat × (Nat → Int64) × Int32 × Nat × (Nat → Int32) × Nat × (Nat → Int32) × Nat × (Nat → Int32) × Nat × (Nat → Int64) × Int32 × Nat × (Nat → Int32) × Nat × (Nat → Int32) × Nat × (Nat → Int32) × Nat × (Nat → Int32) × Int32) (Zc Zs : Nat) (h : m_Stacks_init N = some (Z1, Zc, Zs)) : Met l y_Stacks_init (.code y_Stacks_init b_Stacks_init 1 none :: lw_g) ({ frames := 1, cells := Zc, slots := Zs, locals := 20 }) (va_Pc [.ref o_Stacks] (fun U => dz_N U ∧ U.heap.size = sz ∧ va_P (dC, dI) classes [(o_Stacks, .inr (2, [.null, .int 0, .null, .null, .null, .null, .int 0, .null, .null, .null, .null, .int 0]))] U.heap ∧ va_K (dC, dI) classes [(cI, .int), (cL, .long)] U ∧ va_D (fun _ => True) [(o_Stacks, .inr (2, [.null, .int 0, .null, .null, .null, .null, .int 0, .null, .null, .null, .null, .int 0]))])) (va_Qv (fun (_ : Nat × Nat × Nat × Nat × Nat × Nat × Nat × Nat × Nat) => True) (fun (u : Nat × Nat × Nat × Nat × Nat × Nat × Nat × Nat × Nat) t => va_P (dC, dI) classes [(o_Stacks, .inr (2, [.ref u.1, .int Z1.2.2.1, .ref u.2.1, .ref u.2.2.1, .ref u.2.2.2.1, .ref u.2.2.2.2.1, .int Z1.2.2.2.2.2.2.2.2.2.2.2.1, .ref u.2.2.2.2.2.1, .ref u.2.2.2.2.2.2.1, .ref u.2.2.2.2.2.2.2.1, .ref u.2.2.2.2.2.2.2.2, .int Z1.2.2.2.2.2.2.2.2.2.2.2.2.2.2.2.2.2.2.2.2])), (u.1, .inl (cL, Z1.1, .inr (.inl Z1.2.1))), (u.2.1, .inl (cI, Z1.2.2.2.1, .inl Z1.2.2.2.2.1)), (u.2.2.1, .inl (cI, Z1.2.2.2.2.2.1, .inl Z1.2.2.2.2.2.2.1)), (u.2.2.2.1, .inl (cI, Z1.2.2.2.2.2.2.2.1, .inl Z1.2.2.2.2.2.2.2.2.1)), (u.2.2.2.2.1, .inl (cL, Z1.2.2.2.2.2.2.2.2.2.1, .inr (.inl Z1.2.2.2.2.2.2.2.2.2.2.1))), (u.2.2.2.2.2.1, .inl (cI, Z1.2.2.2.2.2.2.2.2.2.2.2.2.1, .inl Z1.2.2.2.2.2.2.2.2.2.2.2.2.2.1)), (u.2.2.2.2.2.2.1, .inl (cI, Z1.2.2.2.2.2.2.2.2.2.2.2.2.2.2.1, .inl Z1.2.2.2.2.2.2.2.2.2.2.2.2.2.2.2.1)), (u.2.2.2.2.2.2.2.1, .inl (cI, Z1.2.2.2.2.2.2.2.2.2.2.2.2.2.2.2.2.1, .inl Z1.2.2.2.2.2.2.2.2.2.2.2.2.2.2.2.2.2.1)), (u.2.2.2.2.2.2.2.2, .inl (cI, Z1.2.2.2.2.2.2.2.2.2.2.2.2.2.2.2.2.2.2.1, .inl Z1.2.2.2.2.2.2.2.2.2.2.2.2.2.2.2.2.2.2.2.1))] t.heap ∧ va_K (dC, dI) classes [(cI, .int), (cL, .long)] t ∧ va_D (va_A [(o_Stacks, .inr (2, [.null, .int 0, .null, .null, .null, .null, .int 0, .null, .null, .null, .null, .int 0]))] sz) [(o_Stacks, .inr (2, [.ref u.1, .int Z1.2.2.1, .ref u.2.1, .ref u.2.2.1, .ref u.2.2.2.1, .ref u.2.2.2.2.1, .int Z1.2.2.2.2.2.2.2.2.2.2.2.1, .ref u.2.2.2.2.2.1, .ref u.2.2.2.2.2.2.1, .ref u.2.2.2.2.2.2.2.1, .ref u.2.2.2.2.2.2.2.2, .int Z1.2.2.2.2.2.2.2.2.2.2.2.2.2.2.2.2.2.2.2.2])), (u.1, .inl (cL, Z1.1, .inr (.inl Z1.2.1))), (u.2.1, .inl (cI, Z1.2.2.2.1, .inl Z1.2.2.2.2.1)), (u.2.2.1, .inl (cI, Z1.2.2.2.2.2.1, .inl Z1.2.2.2.2.2.2.1)), (u.2.2.2.1, .inl (cI, Z1.2.2.2.2.2.2.2.1, .inl Z1.2.2.2.2.2.2.2.2.1)), (u.2.2.2.2.1, .inl (cL, Z1.2.2.2.2.2.2.2.2.2.1, .inr (.inl Z1.2.2.2.2.2.2.2.2.2.2.1))), (u.2.2.2.2.2.1, .inl (cI, Z1.2.2.2.2.2.2.2.2.2.2.2.2.1, .inl Z1.2.2.2.2.2.2.2.2.2.2.2.2.2.1)), (u.2.2.2.2.2.2.1, .inl (cI, Z1.2.2.2.2.2.2.2.2.2.2.2.2.2.2.1, .inl Z1.2.2.2.2.2.2.2.2.2.2.2.2.2.2.2.1)), (u.2.2.2.2.2.2.2.1, .inl (cI, Z1.2.2.2.2.2.2.2.2.2.2.2.2.2.2.2.2.1, .inl Z1.2.2.2.2.2.2.2.2.2.2.2.2.2.2.2.2.2.1)), (u.2.2.2.2.2.2.2.2, .inl (cI, Z1.2.2.2.2.2.2.2.2.2.2.2.2.2.2.2.2.2.2.1, .inl Z1.2.2.2.2.2.2.2.2.2.2.2.2.2.2.2.2.2.2.2.1))]) (va_A [(o_Stacks, .inr (2, [.null, .int 0, .null, .null, .null, .null, .int 0, .null, .null, .null, .null, .int 0]))] sz)) Zc Zs (va_A [(o_Stacks, .inr (2, [.null, .int 0, .null, .null, .null, .null, .int 0, .null, .null, .null, .null, .int 0]))] sz) := by
  refine Met.ofW (cc := b_Stacks_init) (maxL := 1) (ret := none) (by decide +kernel) rfl ?_
  intro p e s m args below meth c s₁ B hml hv
  obtain ⟨rfl, hN, hsz, hP, hK, hD0⟩ := hv
  have hx := B.exec
  have hb := B.bytes
  have hr := B.returns
  have hg : ∀ w ∈ lw_g, w.before _ s = true := fun w hw => atoms_spec (ws := .code y_Stacks_init b_Stacks_init 1 none :: lw_g) B.pre w (List.mem_cons_of_mem _ hw)
  have hown : s.vm.findClass R_Stacks = some m.cls := findClass_of_methodNamed B.named
  have hlocks := B.notSynchronized
  have hin : meth.name = "<init>" := (name_of_methodNamed B.named B.method).1
  clear B
  subst hsz
  have hD := hD0.self (sz := s.heap.size)
  generalize hAe : va_A [(o_Stacks, .inr (2, [.null, .int 0, .null, .null, .null, .null, .int 0, .null, .null, .null, .null, .int 0]))] s.heap.size = A at hD ⊢
  have hA : ∀ q : Nat, s.heap.size ≤ q → A q := fun q h => by rw [← hAe]; exact Or.inr h
  have hS : va_S A s.heap s.heap [] := va_S.rf
  have hP : va_P (dC, dI) classes [(o_Stacks, .inr (2, [.null, .int 0, .null, .null, .null, .null, .int 0, .null, .null, .null, .null, .int 0]))] s.heap := hP
  have hl := lv_entry ([.ref o_Stacks]) (n := 1) (Nat.le_of_ble_eq_true rfl)
  rw [lg_entry_eq]
  generalize (lg_sl ([.ref o_Stacks]) ++ List.replicate (1 - (lg_sl ([.ref o_Stacks])).length) Slot.unset).toArray = ls at hl ⊢
  have hl : lv_has ls 1 [(0, .ref o_Stacks)] := hl
  unfold m_Stacks_init at h
  have hG : dz_G Z1 Zc Zs (Z1, Zc, Zs) 0 0 := ⟨rfl, (Nat.zero_add _).symm, (Nat.zero_add _).symm⟩
  generalize (Z1, Zc, Zs) = z at h hG
  refine lv_aload_n hx hb d_Stacks_init_0 rfl (lv_at hl 0 rfl) ?_
  refine W.objInit hx hb hown (hg _ k1053) (hg _ k1054) (hg _ k1055) rfl (by rw [hml]; exact hl.1) rfl d_Stacks_init_1 (Nat.le_of_ble_eq_true rfl) (Nat.le_of_ble_eq_true rfl) ?_
  refine W.eq (g2 := F0 m 4 ls []) rfl ?_
  refine lv_aload_n hx hb d_Stacks_init_4 rfl (lv_at hl 0 rfl) ?_
  refine lv_sipush (v := 128) hx hb d_Stacks_init_5 (by decide) ?_
  obtain ⟨i1, h⟩ := dz_oi h
  obtain ⟨z, h, hG⟩ := dz_tkG h hG
  refine va_newa (D := (dC, dI)) (atype := .long) (N' := (128 : Int32).toNatClampNeg) (a0 := ((128 : Int32).toNatClampNeg, .inr (.inl (fun _ => 0)))) hx hb (hg _ k17) (ty := .long) rfl hK hP hD hS hA (fun _ => rfl) (fun q => i1 (Or.inl q)) rfl (by show _ * 8 ≤ 536870912; have := fun q => i1 (Or.inr q); omega) (dz_Gc hG) (dz_Gs hG) d_Stacks_init_8 (fun b1 cA H hK hP hD hS => ?_)
  have hcc : cL = cA := Option.some.inj (((hK.2 1 _ rfl).2).symm.trans (hK.2 2 _ rfl).2)
  subst hcc
  have hK := hK.sub (tys' := [(cI, .int), (cL, .long)]) [0, 1] rfl
  have hP : va_P (dC, dI) classes [(o_Stacks, .inr (2, [.null, .int 0, .null, .null, .null, .null, .int 0, .null, .null, .null, .null, .int 0])), (b1, .inl (cL, ((128 : Int32).toNatClampNeg), .inr (.inl (fun _ => 0))))] H := hP
  have hD : va_D A [(o_Stacks, .inr (2, [.null, .int 0, .null, .null, .null, .null, .int 0, .null, .null, .null, .null, .int 0])), (b1, .inl (cL, ((128 : Int32).toNatClampNeg), .inr (.inl (fun _ => 0))))] := hD
  refine va_put (D := (dC, dI)) (ci := 2) (v := .ref b1) (ty := .array .long) (C := R_Stacks) (T := F_Stacks) (N := 12) hx hb hg i_Stacks t_Stacks t_Stacks_ok n_Stacks hown hK hP hD hS 0 rfl rfl 0 (by decide) (hg _ k65) (fun _ h9 => h9) rfl (by decide +kernel) rfl rfl (Nat.le_of_ble_eq_true rfl) d_Stacks_init_10 (fun H locs hP hD hS => ?_)
  have hP : va_P (dC, dI) classes [(o_Stacks, .inr (2, [.ref b1, .int 0, .null, .null, .null, .null, .int 0, .null, .null, .null, .null, .int 0])), (b1, .inl (cL, ((128 : Int32).toNatClampNeg), .inr (.inl (fun _ => 0))))] H := hP
  have hD : va_D A [(o_Stacks, .inr (2, [.ref b1, .int 0, .null, .null, .null, .null, .int 0, .null, .null, .null, .null, .int 0])), (b1, .inl (cL, ((128 : Int32).toNatClampNeg), .inr (.inl (fun _ => 0))))] := hD
  refine lv_aload_n hx hb d_Stacks_init_13 rfl (lv_at hl 0 rfl) ?_
  refine lv_bipush (v := 16) hx hb d_Stacks_init_14 (by decide) ?_
  obtain ⟨i2, h⟩ := dz_oi h
  obtain ⟨z, h, hG⟩ := dz_tkG h hG
  refine va_newa (D := (dC, dI)) (atype := .int) (N' := (16 : Int32).toNatClampNeg) (a0 := ((16 : Int32).toNatClampNeg, .inl (fun _ => 0))) hx hb (hg _ k11) (ty := .int) rfl hK hP hD hS hA (fun _ => rfl) (fun q => i2 (Or.inl q)) rfl (by show _ * 4 ≤ 536870912; have := fun q => i2 (Or.inr q); omega) (dz_Gc hG) (dz_Gs hG) d_Stacks_init_16 (fun b2 cA H hK hP hD hS => ?_)
  have hcc : cI = cA := Option.some.inj (((hK.2 0 _ rfl).2).symm.trans (hK.2 2 _ rfl).2)
  subst hcc
  have hK := hK.sub (tys' := [(cI, .int), (cL, .long)]) [0, 1] rfl
  have hP : va_P (dC, dI) classes [(o_Stacks, .inr (2, [.ref b1, .int 0, .null, .null, .null, .null, .int 0, .null, .null, .null, .null, .int 0])), (b1, .inl (cL, ((128 : Int32).toNatClampNeg), .inr (.inl (fun _ => 0)))), (b2, .inl (cI, ((16 : Int32).toNatClampNeg), .inl (fun _ => 0)))] H := hP
  have hD : va_D A [(o_Stacks, .inr (2, [.ref b1, .int 0, .null, .null, .null, .null, .int 0, .null, .null, .null, .null, .int 0])), (b1, .inl (cL, ((128 : Int32).toNatClampNeg), .inr (.inl (fun _ => 0)))), (b2, .inl (cI, ((16 : Int32).toNatClampNeg), .inl (fun _ => 0)))] := hD
  refine va_put (D := (dC, dI)) (ci := 2) (v := .ref b2) (ty := .array .int) (C := R_Stacks) (T := F_Stacks) (N := 12) hx hb hg i_Stacks t_Stacks t_Stacks_ok n_Stacks hown hK hP hD hS 0 rfl rfl 2 (by decide) (hg _ k56) (fun _ h9 => h9) rfl (by decide +kernel) rfl rfl (Nat.le_of_ble_eq_true rfl) d_Stacks_init_18 (fun H locs hP hD hS => ?_)
  have hP : va_P (dC, dI) classes [(o_Stacks, .inr (2, [.ref b1, .int 0, .ref b2, .null, .null, .null, .int 0, .null, .null, .null, .null, .int 0])), (b1, .inl (cL, ((128 : Int32).toNatClampNeg), .inr (.inl (fun _ => 0)))), (b2, .inl (cI, ((16 : Int32).toNatClampNeg), .inl (fun _ => 0)))] H := hP
  have hD : va_D A [(o_Stacks, .inr (2, [.ref b1, .int 0, .ref b2, .null, .null, .null, .int 0, .null, .null, .null, .null, .int 0])), (b1, .inl (cL, ((128 : Int32).toNatClampNeg), .inr (.inl (fun _ => 0)))), (b2, .inl (cI, ((16 : Int32).toNatClampNeg), .inl (fun _ => 0)))] := hD
  refine lv_aload_n hx hb d_Stacks_init_21 rfl (lv_at hl 0 rfl) ?_
  refine lv_bipush (v := 16) hx hb d_Stacks_init_22 (by decide) ?_
  obtain ⟨i3, h⟩ := dz_oi h
  obtain ⟨z, h, hG⟩ := dz_tkG h hG
  refine va_newa (D := (dC, dI)) (atype := .int) (N' := (16 : Int32).toNatClampNeg) (a0 := ((16 : Int32).toNatClampNeg, .inl (fun _ => 0))) hx hb (hg _ k11) (ty := .int) rfl hK hP hD hS hA (fun _ => rfl) (fun q => i3 (Or.inl q)) rfl (by show _ * 4 ≤ 536870912; have := fun q => i3 (Or.inr q); omega) (dz_Gc hG) (dz_Gs hG) d_Stacks_init_24 (fun b3 cA H hK hP hD hS => ?_)
  have hcc : cI = cA := Option.some.inj (((hK.2 0 _ rfl).2).symm.trans (hK.2 2 _ rfl).2)
  subst hcc
  have hK := hK.sub (tys' := [(cI, .int), (cL, .long)]) [0, 1] rfl
  have hP : va_P (dC, dI) classes [(o_Stacks, .inr (2, [.ref b1, .int 0, .ref b2, .null, .null, .null, .int 0, .null, .null, .null, .null, .int 0])), (b1, .inl (cL, ((128 : Int32).toNatClampNeg), .inr (.inl (fun _ => 0)))), (b2, .inl (cI, ((16 : Int32).toNatClampNeg), .inl (fun _ => 0))), (b3, .inl (cI, ((16 : Int32).toNatClampNeg), .inl (fun _ => 0)))] H := hP
  have hD : va_D A [(o_Stacks, .inr (2, [.ref b1, .int 0, .ref b2, .null, .null, .null, .int 0, .null, .null, .null, .null, .int 0])), (b1, .inl (cL, ((128 : Int32).toNatClampNeg), .inr (.inl (fun _ => 0)))), (b2, .inl (cI, ((16 : Int32).toNatClampNeg), .inl (fun _ => 0))), (b3, .inl (cI, ((16 : Int32).toNatClampNeg), .inl (fun _ => 0)))] := hD
  refine va_put (D := (dC, dI)) (ci := 2) (v := .ref b3) (ty := .array .int) (C := R_Stacks) (T := F_Stacks) (N := 12) hx hb hg i_Stacks t_Stacks t_Stacks_ok n_Stacks hown hK hP hD hS 0 rfl rfl 3 (by decide) (hg _ k57) (fun _ h9 => h9) rfl (by decide +kernel) rfl rfl (Nat.le_of_ble_eq_true rfl) d_Stacks_init_26 (fun H locs hP hD hS => ?_)
  have hP : va_P (dC, dI) classes [(o_Stacks, .inr (2, [.ref b1, .int 0, .ref b2, .ref b3, .null, .null, .int 0, .null, .null, .null, .null, .int 0])), (b1, .inl (cL, ((128 : Int32).toNatClampNeg), .inr (.inl (fun _ => 0)))), (b2, .inl (cI, ((16 : Int32).toNatClampNeg), .inl (fun _ => 0))), (b3, .inl (cI, ((16 : Int32).toNatClampNeg), .inl (fun _ => 0)))] H := hP
  have hD : va_D A [(o_Stacks, .inr (2, [.ref b1, .int 0, .ref b2, .ref b3, .null, .null, .int 0, .null, .null, .null, .null, .int 0])), (b1, .inl (cL, ((128 : Int32).toNatClampNeg), .inr (.inl (fun _ => 0)))), (b2, .inl (cI, ((16 : Int32).toNatClampNeg), .inl (fun _ => 0))), (b3, .inl (cI, ((16 : Int32).toNatClampNeg), .inl (fun _ => 0)))] := hD
  refine lv_aload_n hx hb d_Stacks_init_29 rfl (lv_at hl 0 rfl) ?_
  refine lv_bipush (v := 16) hx hb d_Stacks_init_30 (by decide) ?_
  obtain ⟨i4, h⟩ := dz_oi h
  obtain ⟨z, h, hG⟩ := dz_tkG h hG
  refine va_newa (D := (dC, dI)) (atype := .int) (N' := (16 : Int32).toNatClampNeg) (a0 := ((16 : Int32).toNatClampNeg, .inl (fun _ => 0))) hx hb (hg _ k11) (ty := .int) rfl hK hP hD hS hA (fun _ => rfl) (fun q => i4 (Or.inl q)) rfl (by show _ * 4 ≤ 536870912; have := fun q => i4 (Or.inr q); omega) (dz_Gc hG) (dz_Gs hG) d_Stacks_init_32 (fun b4 cA H hK hP hD hS => ?_)
  have hcc : cI = cA := Option.some.inj (((hK.2 0 _ rfl).2).symm.trans (hK.2 2 _ rfl).2)
  subst hcc
  have hK := hK.sub (tys' := [(cI, .int), (cL, .long)]) [0, 1] rfl
  have hP : va_P (dC, dI) classes [(o_Stacks, .inr (2, [.ref b1, .int 0, .ref b2, .ref b3, .null, .null, .int 0, .null, .null, .null, .null, .int 0])), (b1, .inl (cL, ((128 : Int32).toNatClampNeg), .inr (.inl (fun _ => 0)))), (b2, .inl (cI, ((16 : Int32).toNatClampNeg), .inl (fun _ => 0))), (b3, .inl (cI, ((16 : Int32).toNatClampNeg), .inl (fun _ => 0))), (b4, .inl (cI, ((16 : Int32).toNatClampNeg), .inl (fun _ => 0)))] H := hP
  have hD : va_D A [(o_Stacks, .inr (2, [.ref b1, .int 0, .ref b2, .ref b3, .null, .null, .int 0, .null, .null, .null, .null, .int 0])), (b1, .inl (cL, ((128 : Int32).toNatClampNeg), .inr (.inl (fun _ => 0)))), (b2, .inl (cI, ((16 : Int32).toNatClampNeg), .inl (fun _ => 0))), (b3, .inl (cI, ((16 : Int32).toNatClampNeg), .inl (fun _ => 0))), (b4, .inl (cI, ((16 : Int32).toNatClampNeg), .inl (fun _ => 0)))] := hD
  refine va_put (D := (dC, dI)) (ci := 2) (v := .ref b4) (ty := .array .int) (C := R_Stacks) (T := F_Stacks) (N := 12) hx hb hg i_Stacks t_Stacks t_Stacks_ok n_Stacks hown hK hP hD hS 0 rfl rfl 4 (by decide) (hg _ k58) (fun _ h9 => h9) rfl (by decide +kernel) rfl rfl (Nat.le_of_ble_eq_true rfl) d_Stacks_init_34 (fun H locs hP hD hS => ?_)
  have hP : va_P (dC, dI) classes [(o_Stacks, .inr (2, [.ref b1, .int 0, .ref b2, .ref b3, .ref b4, .null, .int 0, .null, .null, .null, .null, .int 0])), (b1, .inl (cL, ((128 : Int32).toNatClampNeg), .inr (.inl (fun _ => 0)))), (b2, .inl (cI, ((16 : Int32).toNatClampNeg), .inl (fun _ => 0))), (b3, .inl (cI, ((16 : Int32).toNatClampNeg), .inl (fun _ => 0))), (b4, .inl (cI, ((16 : Int32).toNatClampNeg), .inl (fun _ => 0)))] H := hP
  have hD : va_D A [(o_Stacks, .inr (2, [.ref b1, .int 0, .ref b2, .ref b3, .ref b4, .null, .int 0, .null, .null, .null, .null, .int 0])), (b1, .inl (cL, ((128 : Int32).toNatClampNeg), .inr (.inl (fun _ => 0)))), (b2, .inl (cI, ((16 : Int32).toNatClampNeg), .inl (fun _ => 0))), (b3, .inl (cI, ((16 : Int32).toNatClampNeg), .inl (fun _ => 0))), (b4, .inl (cI, ((16 : Int32).toNatClampNeg), .inl (fun _ => 0)))] := hD
  refine lv_aload_n hx hb d_Stacks_init_37 rfl (lv_at hl 0 rfl) ?_
  refine lv_bipush (v := 16) hx hb d_Stacks_init_38 (by decide) ?_
  obtain ⟨i5, h⟩ := dz_oi h
  obtain ⟨z, h, hG⟩ := dz_tkG h hG
  refine va_newa (D := (dC, dI)) (atype := .long) (N' := (16 : Int32).toNatClampNeg) (a0 := ((16 : Int32).toNatClampNeg, .inr (.inl (fun _ => 0)))) hx hb (hg _ k17) (ty := .long) rfl hK hP hD hS hA (fun _ => rfl) (fun q => i5 (Or.inl q)) rfl (by show _ * 8 ≤ 536870912; have := fun q => i5 (Or.inr q); omega) (dz_Gc hG) (dz_Gs hG) d_Stacks_init_40 (fun b5 cA H hK hP hD hS => ?_)
  have hcc : cL = cA := Option.some.inj (((hK.2 1 _ rfl).2).symm.trans (hK.2 2 _ rfl).2)
  subst hcc
  have hK := hK.sub (tys' := [(cI, .int), (cL, .long)]) [0, 1] rfl
  have hP : va_P (dC, dI) classes [(o_Stacks, .inr (2, [.ref b1, .int 0, .ref b2, .ref b3, .ref b4, .null, .int 0, .null, .null, .null, .null, .int 0])), (b1, .inl (cL, ((128 : Int32).toNatClampNeg), .inr (.inl (fun _ => 0)))), (b2, .inl (cI, ((16 : Int32).toNatClampNeg), .inl (fun _ => 0))), (b3, .inl (cI, ((16 : Int32).toNatClampNeg), .inl (fun _ => 0))), (b4, .inl (cI, ((16 : Int32).toNatClampNeg), .inl (fun _ => 0))), (b5, .inl (cL, ((16 : Int32).toNatClampNeg), .inr (.inl (fun _ => 0))))] H := hP
  have hD : va_D A [(o_Stacks, .inr (2, [.ref b1, .int 0, .ref b2, .ref b3, .ref b4, .null, .int 0, .null, .null, .null, .null, .int 0])), (b1, .inl (cL, ((128 : Int32).toNatClampNeg), .inr (.inl (fun _ => 0)))), (b2, .inl (cI, ((16 : Int32).toNatClampNeg), .inl (fun _ => 0))), (b3, .inl (cI, ((16 : Int32).toNatClampNeg), .inl (fun _ => 0))), (b4, .inl (cI, ((16 : Int32).toNatClampNeg), .inl (fun _ => 0))), (b5, .inl (cL, ((16 : Int32).toNatClampNeg), .inr (.inl (fun _ => 0))))] := hD
  refine va_put (D := (dC, dI)) (ci := 2) (v := .ref b5) (ty := .array .long) (C := R_Stacks) (T := F_Stacks) (N := 12) hx hb hg i_Stacks t_Stacks t_Stacks_ok n_Stacks hown hK hP hD hS 0 rfl rfl 5 (by decide) (hg _ k59) (fun _ h9 => h9) rfl (by decide +kernel) rfl rfl (Nat.le_of_ble_eq_true rfl) d_Stacks_init_42 (fun H locs hP hD hS => ?_)
  have hP : va_P (dC, dI) classes [(o_Stacks, .inr (2, [.ref b1, .int 0, .ref b2, .ref b3, .ref b4, .ref b5, .int 0, .null, .null, .null, .null, .int 0])), (b1, .inl (cL, ((128 : Int32).toNatClampNeg), .inr (.inl (fun _ => 0)))), (b2, .inl (cI, ((16 : Int32).toNatClampNeg), .inl (fun _ => 0))), (b3, .inl (cI, ((16 : Int32).toNatClampNeg), .inl (fun _ => 0))), (b4, .inl (cI, ((16 : Int32).toNatClampNeg), .inl (fun _ => 0))), (b5, .inl (cL, ((16 : Int32).toNatClampNeg), .inr (.inl (fun _ => 0))))] H := hP
  have hD : va_D A [(o_Stacks, .inr (2, [.ref b1, .int 0, .ref b2, .ref b3, .ref b4, .ref b5, .int 0, .null, .null, .null, .null, .int 0])), (b1, .inl (cL, ((128 : Int32).toNatClampNeg), .inr (.inl (fun _ => 0)))), (b2, .inl (cI, ((16 : Int32).toNatClampNeg), .inl (fun _ => 0))), (b3, .inl (cI, ((16 : Int32).toNatClampNeg), .inl (fun _ => 0))), (b4, .inl (cI, ((16 : Int32).toNatClampNeg), .inl (fun _ => 0))), (b5, .inl (cL, ((16 : Int32).toNatClampNeg), .inr (.inl (fun _ => 0))))] := hD
  refine lv_aload_n hx hb d_Stacks_init_45 rfl (lv_at hl 0 rfl) ?_
  refine lv_bipush (v := 16) hx hb d_Stacks_init_46 (by decide) ?_
  obtain ⟨i6, h⟩ := dz_oi h
  obtain ⟨z, h, hG⟩ := dz_tkG h hG
  refine va_newa (D := (dC, dI)) (atype := .int) (N' := (16 : Int32).toNatClampNeg) (a0 := ((16 : Int32).toNatClampNeg, .inl (fun _ => 0))) hx hb (hg _ k11) (ty := .int) rfl hK hP hD hS hA (fun _ => rfl) (fun q => i6 (Or.inl q)) rfl (by show _ * 4 ≤ 536870912; have := fun q => i6 (Or.inr q); omega) (dz_Gc hG) (dz_Gs hG) d_Stacks_init_48 (fun b6 cA H hK hP hD hS => ?_)
  have hcc : cI = cA := Option.some.inj (((hK.2 0 _ rfl).2).symm.trans (hK.2 2 _ rfl).2)
  subst hcc
  have hK := hK.sub (tys' := [(cI, .int), (cL, .long)]) [0, 1] rfl
  have hP : va_P (dC, dI) classes [(o_Stacks, .inr (2, [.ref b1, .int 0, .ref b2, .ref b3, .ref b4, .ref b5, .int 0, .null, .null, .null, .null, .int 0])), (b1, .inl (cL, ((128 : Int32).toNatClampNeg), .inr (.inl (fun _ => 0)))), (b2, .inl (cI, ((16 : Int32).toNatClampNeg), .inl (fun _ => 0))), (b3, .inl (cI, ((16 : Int32).toNatClampNeg), .inl (fun _ => 0))), (b4, .inl (cI, ((16 : Int32).toNatClampNeg), .inl (fun _ => 0))), (b5, .inl (cL, ((16 : Int32).toNatClampNeg), .inr (.inl (fun _ => 0)))), (b6, .inl (cI, ((16 : Int32).toNatClampNeg), .inl (fun _ => 0)))] H := hP
  have hD : va_D A [(o_Stacks, .inr (2, [.ref b1, .int 0, .ref b2, .ref b3, .ref b4, .ref b5, .int 0, .null, .null, .null, .null, .int 0])), (b1, .inl (cL, ((128 : Int32).toNatClampNeg), .inr (.inl (fun _ => 0)))), (b2, .inl (cI, ((16 : Int32).toNatClampNeg), .inl (fun _ => 0))), (b3, .inl (cI, ((16 : Int32).toNatClampNeg), .inl (fun _ => 0))), (b4, .inl (cI, ((16 : Int32).toNatClampNeg), .inl (fun _ => 0))), (b5, .inl (cL, ((16 : Int32).toNatClampNeg), .inr (.inl (fun _ => 0)))), (b6, .inl (cI, ((16 : Int32).toNatClampNeg), .inl (fun _ => 0)))] := hD
  refine va_put (D := (dC, dI)) (ci := 2) (v := .ref b6) (ty := .array .int) (C := R_Stacks) (T := F_Stacks) (N := 12) hx hb hg i_Stacks t_Stacks t_Stacks_ok n_Stacks hown hK hP hD hS 0 rfl rfl 7 (by decide) (hg _ k99) (fun _ h9 => h9) rfl (by decide +kernel) rfl rfl (Nat.le_of_ble_eq_true rfl) d_Stacks_init_50 (fun H locs hP hD hS => ?_)
  have hP : va_P (dC, dI) classes [(o_Stacks, .inr (2, [.ref b1, .int 0, .ref b2, .ref b3, .ref b4, .ref b5, .int 0, .ref b6, .null, .null, .null, .int 0])), (b1, .inl (cL, ((128 : Int32).toNatClampNeg), .inr (.inl (fun _ => 0)))), (b2, .inl (cI, ((16 : Int32).toNatClampNeg), .inl (fun _ => 0))), (b3, .inl (cI, ((16 : Int32).toNatClampNeg), .inl (fun _ => 0))), (b4, .inl (cI, ((16 : Int32).toNatClampNeg), .inl (fun _ => 0))), (b5, .inl (cL, ((16 : Int32).toNatClampNeg), .inr (.inl (fun _ => 0)))), (b6, .inl (cI, ((16 : Int32).toNatClampNeg), .inl (fun _ => 0)))] H := hP
  have hD : va_D A [(o_Stacks, .inr (2, [.ref b1, .int 0, .ref b2, .ref b3, .ref b4, .ref b5, .int 0, .ref b6, .null, .null, .null, .int 0])), (b1, .inl (cL, ((128 : Int32).toNatClampNeg), .inr (.inl (fun _ => 0)))), (b2, .inl (cI, ((16 : Int32).toNatClampNeg), .inl (fun _ => 0))), (b3, .inl (cI, ((16 : Int32).toNatClampNeg), .inl (fun _ => 0))), (b4, .inl (cI, ((16 : Int32).toNatClampNeg), .inl (fun _ => 0))), (b5, .inl (cL, ((16 : Int32).toNatClampNeg), .inr (.inl (fun _ => 0)))), (b6, .inl (cI, ((16 : Int32).toNatClampNeg), .inl (fun _ => 0)))] := hD
  refine lv_aload_n hx hb d_Stacks_init_53 rfl (lv_at hl 0 rfl) ?_
  refine lv_bipush (v := 16) hx hb d_Stacks_init_54 (by decide) ?_
  obtain ⟨i7, h⟩ := dz_oi h
  obtain ⟨z, h, hG⟩ := dz_tkG h hG
  refine va_newa (D := (dC, dI)) (atype := .int) (N' := (16 : Int32).toNatClampNeg) (a0 := ((16 : Int32).toNatClampNeg, .inl (fun _ => 0))) hx hb (hg _ k11) (ty := .int) rfl hK hP hD hS hA (fun _ => rfl) (fun q => i7 (Or.inl q)) rfl (by show _ * 4 ≤ 536870912; have := fun q => i7 (Or.inr q); omega) (dz_Gc hG) (dz_Gs hG) d_Stacks_init_56 (fun b7 cA H hK hP hD hS => ?_)
  have hcc : cI = cA := Option.some.inj (((hK.2 0 _ rfl).2).symm.trans (hK.2 2 _ rfl).2)
  subst hcc
  have hK := hK.sub (tys' := [(cI, .int), (cL, .long)]) [0, 1] rfl
  have hP : va_P (dC, dI) classes [(o_Stacks, .inr (2, [.ref b1, .int 0, .ref b2, .ref b3, .ref b4, .ref b5, .int 0, .ref b6, .null, .null, .null, .int 0])), (b1, .inl (cL, ((128 : Int32).toNatClampNeg), .inr (.inl (fun _ => 0)))), (b2, .inl (cI, ((16 : Int32).toNatClampNeg), .inl (fun _ => 0))), (b3, .inl (cI, ((16 : Int32).toNatClampNeg), .inl (fun _ => 0))), (b4, .inl (cI, ((16 : Int32).toNatClampNeg), .inl (fun _ => 0))), (b5, .inl (cL, ((16 : Int32).toNatClampNeg), .inr (.inl (fun _ => 0)))), (b6, .inl (cI, ((16 : Int32).toNatClampNeg), .inl (fun _ => 0))), (b7, .inl (cI, ((16 : Int32).toNatClampNeg), .inl (fun _ => 0)))] H := hP
  have hD : va_D A [(o_Stacks, .inr (2, [.ref b1, .int 0, .ref b2, .ref b3, .ref b4, .ref b5, .int 0, .ref b6, .null, .null, .null, .int 0])), (b1, .inl (cL, ((128 : Int32).toNatClampNeg), .inr (.inl (fun _ => 0)))), (b2, .inl (cI, ((16 : Int32).toNatClampNeg), .inl (fun _ => 0))), (b3, .inl (cI, ((16 : Int32).toNatClampNeg), .inl (fun _ => 0))), (b4, .inl (cI, ((16 : Int32).toNatClampNeg), .inl (fun _ => 0))), (b5, .inl (cL, ((16 : Int32).toNatClampNeg), .inr (.inl (fun _ => 0)))), (b6, .inl (cI, ((16 : Int32).toNatClampNeg), .inl (fun _ => 0))), (b7, .inl (cI, ((16 : Int32).toNatClampNeg), .inl (fun _ => 0)))] := hD
  refine va_put (D := (dC, dI)) (ci := 2) (v := .ref b7) (ty := .array .int) (C := R_Stacks) (T := F_Stacks) (N := 12) hx hb hg i_Stacks t_Stacks t_Stacks_ok n_Stacks hown hK hP hD hS 0 rfl rfl 8 (by decide) (hg _ k100) (fun _ h9 => h9) rfl (by decide +kernel) rfl rfl (Nat.le_of_ble_eq_true rfl) d_Stacks_init_58 (fun H locs hP hD hS => ?_)
  have hP : va_P (dC, dI) classes [(o_Stacks, .inr (2, [.ref b1, .int 0, .ref b2, .ref b3, .ref b4, .ref b5, .int 0, .ref b6, .ref b7, .null, .null, .int 0])), (b1, .inl (cL, ((128 : Int32).toNatClampNeg), .inr (.inl (fun _ => 0)))), (b2, .inl (cI, ((16 : Int32).toNatClampNeg), .inl (fun _ => 0))), (b3, .inl (cI, ((16 : Int32).toNatClampNeg), .inl (fun _ => 0))), (b4, .inl (cI, ((16 : Int32).toNatClampNeg), .inl (fun _ => 0))), (b5, .inl (cL, ((16 : Int32).toNatClampNeg), .inr (.inl (fun _ => 0)))), (b6, .inl (cI, ((16 : Int32).toNatClampNeg), .inl (fun _ => 0))), (b7, .inl (cI, ((16 : Int32).toNatClampNeg), .inl (fun _ => 0)))] H := hP
  have hD : va_D A [(o_Stacks, .inr (2, [.ref b1, .int 0, .ref b2, .ref b3, .ref b4, .ref b5, .int 0, .ref b6, .ref b7, .null, .null, .int 0])), (b1, .inl (cL, ((128 : Int32).toNatClampNeg), .inr (.inl (fun _ => 0)))), (b2, .inl (cI, ((16 : Int32).toNatClampNeg), .inl (fun _ => 0))), (b3, .inl (cI, ((16 : Int32).toNatClampNeg), .inl (fun _ => 0))), (b4, .inl (cI, ((16 : Int32).toNatClampNeg), .inl (fun _ => 0))), (b5, .inl (cL, ((16 : Int32).toNatClampNeg), .inr (.inl (fun _ => 0)))), (b6, .inl (cI, ((16 : Int32).toNatClampNeg), .inl (fun _ => 0))), (b7, .inl (cI, ((16 : Int32).toNatClampNeg), .inl (fun _ => 0)))] := hD
  refine lv_aload_n hx hb d_Stacks_init_61 rfl (lv_at hl 0 rfl) ?_
  refine lv_bipush (v := 16) hx hb d_Stacks_init_62 (by decide) ?_
  obtain ⟨i8, h⟩ := dz_oi h
  obtain ⟨z, h, hG⟩ := dz_tkG h hG
  refine va_newa (D := (dC, dI)) (atype := .int) (N' := (16 : Int32).toNatClampNeg) (a0 := ((16 : Int32).toNatClampNeg, .inl (fun _ => 0))) hx hb (hg _ k11) (ty := .int) rfl hK hP hD hS hA (fun _ => rfl) (fun q => i8 (Or.inl q)) rfl (by show _ * 4 ≤ 536870912; have := fun q => i8 (Or.inr q); omega) (dz_Gc hG) (dz_Gs hG) d_Stacks_init_64 (fun b8 cA H hK hP hD hS => ?_)
  have hcc : cI = cA := Option.some.inj (((hK.2 0 _ rfl).2).symm.trans (hK.2 2 _ rfl).2)
  subst hcc
  have hK := hK.sub (tys' := [(cI, .int), (cL, .long)]) [0, 1] rfl
  have hP : va_P (dC, dI) classes [(o_Stacks, .inr (2, [.ref b1, .int 0, .ref b2, .ref b3, .ref b4, .ref b5, .int 0, .ref b6, .ref b7, .null, .null, .int 0])), (b1, .inl (cL, ((128 : Int32).toNatClampNeg), .inr (.inl (fun _ => 0)))), (b2, .inl (cI, ((16 : Int32).toNatClampNeg), .inl (fun _ => 0))), (b3, .inl (cI, ((16 : Int32).toNatClampNeg), .inl (fun _ => 0))), (b4, .inl (cI, ((16 : Int32).toNatClampNeg), .inl (fun _ => 0))), (b5, .inl (cL, ((16 : Int32).toNatClampNeg), .inr (.inl (fun _ => 0)))), (b6, .inl (cI, ((16 : Int32).toNatClampNeg), .inl (fun _ => 0))), (b7, .inl (cI, ((16 : Int32).toNatClampNeg), .inl (fun _ => 0))), (b8, .inl (cI, ((16 : Int32).toNatClampNeg), .inl (fun _ => 0)))] H := hP
  have hD : va_D A [(o_Stacks, .inr (2, [.ref b1, .int 0, .ref b2, .ref b3, .ref b4, .ref b5, .int 0, .ref b6, .ref b7, .null, .null, .int 0])), (b1, .inl (cL, ((128 : Int32).toNatClampNeg), .inr (.inl (fun _ => 0)))), (b2, .inl (cI, ((16 : Int32).toNatClampNeg), .inl (fun _ => 0))), (b3, .inl (cI, ((16 : Int32).toNatClampNeg), .inl (fun _ => 0))), (b4, .inl (cI, ((16 : Int32).toNatClampNeg), .inl (fun _ => 0))), (b5, .inl (cL, ((16 : Int32).toNatClampNeg), .inr (.inl (fun _ => 0)))), (b6, .inl (cI, ((16 : Int32).toNatClampNeg), .inl (fun _ => 0))), (b7, .inl (cI, ((16 : Int32).toNatClampNeg), .inl (fun _ => 0))), (b8, .inl (cI, ((16 : Int32).toNatClampNeg), .inl (fun _ => 0)))] := hD
  refine va_put (D := (dC, dI)) (ci := 2) (v := .ref b8) (ty := .array .int) (C := R_Stacks) (T := F_Stacks) (N := 12) hx hb hg i_Stacks t_Stacks t_Stacks_ok n_Stacks hown hK hP hD hS 0 rfl rfl 9 (by decide) (hg _ k101) (fun _ h9 => h9) rfl (by decide +kernel) rfl rfl (Nat.le_of_ble_eq_true rfl) d_Stacks_init_66 (fun H locs hP hD hS => ?_)
  have hP : va_P (dC, dI) classes [(o_Stacks, .inr (2, [.ref b1, .int 0, .ref b2, .ref b3, .ref b4, .ref b5, .int 0, .ref b6, .ref b7, .ref b8, .null, .int 0])), (b1, .inl (cL, ((128 : Int32).toNatClampNeg), .inr (.inl (fun _ => 0)))), (b2, .inl (cI, ((16 : Int32).toNatClampNeg), .inl (fun _ => 0))), (b3, .inl (cI, ((16 : Int32).toNatClampNeg), .inl (fun _ => 0))), (b4, .inl (cI, ((16 : Int32).toNatClampNeg), .inl (fun _ => 0))), (b5, .inl (cL, ((16 : Int32).toNatClampNeg), .inr (.inl (fun _ => 0)))), (b6, .inl (cI, ((16 : Int32).toNatClampNeg), .inl (fun _ => 0))), (b7, .inl (cI, ((16 : Int32).toNatClampNeg), .inl (fun _ => 0))), (b8, .inl (cI, ((16 : Int32).toNatClampNeg), .inl (fun _ => 0)))] H := hP
  have hD : va_D A [(o_Stacks, .inr (2, [.ref b1, .int 0, .ref b2, .ref b3, .ref b4, .ref b5, .int 0, .ref b6, .ref b7, .ref b8, .null, .int 0])), (b1, .inl (cL, ((128 : Int32).toNatClampNeg), .inr (.inl (fun _ => 0)))), (b2, .inl (cI, ((16 : Int32).toNatClampNeg), .inl (fun _ => 0))), (b3, .inl (cI, ((16 : Int32).toNatClampNeg), .inl (fun _ => 0))), (b4, .inl (cI, ((16 : Int32).toNatClampNeg), .inl (fun _ => 0))), (b5, .inl (cL, ((16 : Int32).toNatClampNeg), .inr (.inl (fun _ => 0)))), (b6, .inl (cI, ((16 : Int32).toNatClampNeg), .inl (fun _ => 0))), (b7, .inl (cI, ((16 : Int32).toNatClampNeg), .inl (fun _ => 0))), (b8, .inl (cI, ((16 : Int32).toNatClampNeg), .inl (fun _ => 0)))] := hD
  refine lv_aload_n hx hb d_Stacks_init_69 rfl (lv_at hl 0 rfl) ?_
  refine lv_bipush (v := 16) hx hb d_Stacks_init_70 (by decide) ?_
  obtain ⟨i9, h⟩ := dz_oi h
  obtain ⟨z, h, hG⟩ := dz_tkG h hG
  refine va_newa (D := (dC, dI)) (atype := .int) (N' := (16 : Int32).toNatClampNeg) (a0 := ((16 : Int32).toNatClampNeg, .inl (fun _ => 0))) hx hb (hg _ k11) (ty := .int) rfl hK hP hD hS hA (fun _ => rfl) (fun q => i9 (Or.inl q)) rfl (by show _ * 4 ≤ 536870912; have := fun q => i9 (Or.inr q); omega) (dz_Gc hG) (dz_Gs hG) d_Stacks_init_72 (fun b9 cA H hK hP hD hS => ?_)
  have hcc : cI = cA := Option.some.inj (((hK.2 0 _ rfl).2).symm.trans (hK.2 2 _ rfl).2)
  subst hcc
  have hK := hK.sub (tys' := [(cI, .int), (cL, .long)]) [0, 1] rfl
  have hP : va_P (dC, dI) classes [(o_Stacks, .inr (2, [.ref b1, .int 0, .ref b2, .ref b3, .ref b4, .ref b5, .int 0, .ref b6, .ref b7, .ref b8, .null, .int 0])), (b1, .inl (cL, ((128 : Int32).toNatClampNeg), .inr (.inl (fun _ => 0)))), (b2, .inl (cI, ((16 : Int32).toNatClampNeg), .inl (fun _ => 0))), (b3, .inl (cI, ((16 : Int32).toNatClampNeg), .inl (fun _ => 0))), (b4, .inl (cI, ((16 : Int32).toNatClampNeg), .inl (fun _ => 0))), (b5, .inl (cL, ((16 : Int32).toNatClampNeg), .inr (.inl (fun _ => 0)))), (b6, .inl (cI, ((16 : Int32).toNatClampNeg), .inl (fun _ => 0))), (b7, .inl (cI, ((16 : Int32).toNatClampNeg), .inl (fun _ => 0))), (b8, .inl (cI, ((16 : Int32).toNatClampNeg), .inl (fun _ => 0))), (b9, .inl (cI, ((16 : Int32).toNatClampNeg), .inl (fun _ => 0)))] H := hP
  have hD : va_D A [(o_Stacks, .inr (2, [.ref b1, .int 0, .ref b2, .ref b3, .ref b4, .ref b5, .int 0, .ref b6, .ref b7, .ref b8, .null, .int 0])), (b1, .inl (cL, ((128 : Int32).toNatClampNeg), .inr (.inl (fun _ => 0)))), (b2, .inl (cI, ((16 : Int32).toNatClampNeg), .inl (fun _ => 0))), (b3, .inl (cI, ((16 : Int32).toNatClampNeg), .inl (fun _ => 0))), (b4, .inl (cI, ((16 : Int32).toNatClampNeg), .inl (fun _ => 0))), (b5, .inl (cL, ((16 : Int32).toNatClampNeg), .inr (.inl (fun _ => 0)))), (b6, .inl (cI, ((16 : Int32).toNatClampNeg), .inl (fun _ => 0))), (b7, .inl (cI, ((16 : Int32).toNatClampNeg), .inl (fun _ => 0))), (b8, .inl (cI, ((16 : Int32).toNatClampNeg), .inl (fun _ => 0))), (b9, .inl (cI, ((16 : Int32).toNatClampNeg), .inl (fun _ => 0)))] := hD
  refine va_put (D := (dC, dI)) (ci := 2) (v := .ref b9) (ty := .array .int) (C := R_Stacks) (T := F_Stacks) (N := 12) hx hb hg i_Stacks t_Stacks t_Stacks_ok n_Stacks hown hK hP hD hS 0 rfl rfl 10 (by decide) (hg _ k102) (fun _ h9 => h9) rfl (by decide +kernel) rfl rfl (Nat.le_of_ble_eq_true rfl) d_Stacks_init_74 (fun H locs hP hD hS => ?_)
  have hP : va_P (dC, dI) classes [(o_Stacks, .inr (2, [.ref b1, .int 0, .ref b2, .ref b3, .ref b4, .ref b5, .int 0, .ref b6, .ref b7, .ref b8, .ref b9, .int 0])), (b1, .inl (cL, ((128 : Int32).toNatClampNeg), .inr (.inl (fun _ => 0)))), (b2, .inl (cI, ((16 : Int32).toNatClampNeg), .inl (fun _ => 0))), (b3, .inl (cI, ((16 : Int32).toNatClampNeg), .inl (fun _ => 0))), (b4, .inl (cI, ((16 : Int32).toNatClampNeg), .inl (fun _ => 0))), (b5, .inl (cL, ((16 : Int32).toNatClampNeg), .inr (.inl (fun _ => 0)))), (b6, .inl (cI, ((16 : Int32).toNatClampNeg), .inl (fun _ => 0))), (b7, .inl (cI, ((16 : Int32).toNatClampNeg), .inl (fun _ => 0))), (b8, .inl (cI, ((16 : Int32).toNatClampNeg), .inl (fun _ => 0))), (b9, .inl (cI, ((16 : Int32).toNatClampNeg), .inl (fun _ => 0)))] H := hP
  have hD : va_D A [(o_Stacks, .inr (2, [.ref b1, .int 0, .ref b2, .ref b3, .ref b4, .ref b5, .int 0, .ref b6, .ref b7, .ref b8, .ref b9, .int 0])), (b1, .inl (cL, ((128 : Int32).toNatClampNeg), .inr (.inl (fun _ => 0)))), (b2, .inl (cI, ((16 : Int32).toNatClampNeg), .inl (fun _ => 0))), (b3, .inl (cI, ((16 : Int32).toNatClampNeg), .inl (fun _ => 0))), (b4, .inl (cI, ((16 : Int32).toNatClampNeg), .inl (fun _ => 0))), (b5, .inl (cL, ((16 : Int32).toNatClampNeg), .inr (.inl (fun _ => 0)))), (b6, .inl (cI, ((16 : Int32).toNatClampNeg), .inl (fun _ => 0))), (b7, .inl (cI, ((16 : Int32).toNatClampNeg), .inl (fun _ => 0))), (b8, .inl (cI, ((16 : Int32).toNatClampNeg), .inl (fun _ => 0))), (b9, .inl (cI, ((16 : Int32).toNatClampNeg), .inl (fun _ => 0)))] := hD
  obtain rfl := Option.some.inj h
  have hP9 := hP.sub (ws' := [(o_Stacks, .inr (2, [.ref b1, .int 0, .ref b2, .ref b3, .ref b4, .ref b5, .int 0, .ref b6, .ref b7, .ref b8, .ref b9, .int 0])), (b1, .inl (cL, ((128 : Int32).toNatClampNeg), .inr (.inl (fun _ => 0)))), (b2, .inl (cI, ((16 : Int32).toNatClampNeg), .inl (fun _ => 0))), (b3, .inl (cI, ((16 : Int32).toNatClampNeg), .inl (fun _ => 0))), (b4, .inl (cI, ((16 : Int32).toNatClampNeg), .inl (fun _ => 0))), (b5, .inl (cL, ((16 : Int32).toNatClampNeg), .inr (.inl (fun _ => 0)))), (b6, .inl (cI, ((16 : Int32).toNatClampNeg), .inl (fun _ => 0))), (b7, .inl (cI, ((16 : Int32).toNatClampNeg), .inl (fun _ => 0))), (b8, .inl (cI, ((16 : Int32).toNatClampNeg), .inl (fun _ => 0))), (b9, .inl (cI, ((16 : Int32).toNatClampNeg), .inl (fun _ => 0)))]) [0, 1, 2, 3, 4, 5, 6, 7, 8, 9] rfl
  have hD9 := hD.sub (ws' := [(o_Stacks, .inr (2, [.ref b1, .int 0, .ref b2, .ref b3, .ref b4, .ref b5, .int 0, .ref b6, .ref b7, .ref b8, .ref b9, .int 0])), (b1, .inl (cL, ((128 : Int32).toNatClampNeg), .inr (.inl (fun _ => 0)))), (b2, .inl (cI, ((16 : Int32).toNatClampNeg), .inl (fun _ => 0))), (b3, .inl (cI, ((16 : Int32).toNatClampNeg), .inl (fun _ => 0))), (b4, .inl (cI, ((16 : Int32).toNatClampNeg), .inl (fun _ => 0))), (b5, .inl (cL, ((16 : Int32).toNatClampNeg), .inr (.inl (fun _ => 0)))), (b6, .inl (cI, ((16 : Int32).toNatClampNeg), .inl (fun _ => 0))), (b7, .inl (cI, ((16 : Int32).toNatClampNeg), .inl (fun _ => 0))), (b8, .inl (cI, ((16 : Int32).toNatClampNeg), .inl (fun _ => 0))), (b9, .inl (cI, ((16 : Int32).toNatClampNeg), .inl (fun _ => 0)))]) [0, 1, 2, 3, 4, 5, 6, 7, 8, 9] (by decide) rfl
  have hK9 := hK.sub (tys' := [(cI, .int), (cL, .long)]) [0, 1] rfl
  refine W.widen (dz_Gc hG) (dz_Gs hG) ?_
  obtain ⟨rfl, -, -⟩ := hG
  exact W.vret hx hb hr (fun t ht hW => ⟨⟨(b1, b2, b3, b4, b5, b6, b7, b8, b9), rfl, trivial, by rw [ht]; exact hP9, va_K.moved hW.alike hK9, hD9⟩, hS.F ht⟩) hS.2.2 d_Stacks_init_77

set_option maxHeartbeats 4000000 in
set_option maxRecDepth 100000 in
theorem c_Program_init (l : Launch) (dC : Nat → ClassId) (dI : Nat → Nat → Nat) (N : Nat) (cB : ClassId) (cI : ClassId) (o_Program : Nat) (sz : Nat) (Z1 : Nat × (Nat → Int32) × Int32 × Nat × (Nat → Int32) × Nat × (Nat → Int32) × Int32 × Int32 × Int32) (Zc Zs : Nat) (h : m_Program_init N = some (Z1, Zc, Zs)) : Met l y_Program_init (.code y_Program_init b_Program_init 1 none :: lw_g) ({ frames := 1, cells := Zc, slots := Zs, locals := 20 }) (va_Pc [.ref o_Program] (fun U => dz_N U ∧ U.heap.size = sz ∧ va_P (dC, dI) classes [(o_Program, .inr (0, [.null, .int 0, .null, .null, .int 0, .int 0, .int 0]))] U.heap ∧ va_K (dC, dI) classes [(cB, .byte), (cI, .int)] U ∧ va_D (fun _ => True) [(o_Program, .inr (0, [.null, .int 0, .null, .null, .int 0, .int 0, .int 0]))])) (va_Qv (fun (_ : Nat × Nat × Nat) => True) (fun (u : Nat × Nat × Nat) t => va_P (dC, dI) classes [(o_Program, .inr (0, [.ref u.1, .int Z1.2.2.1, .ref u.2.1, .ref u.2.2, .int Z1.2.2.2.2.2.2.2.1, .int Z1.2.2.2.2.2.2.2.2.1, .int Z1.2.2.2.2.2.2.2.2.2])), (u.1, .inl (cI, Z1.1, .inl Z1.2.1)), (u.2.1, .inl (cB, Z1.2.2.2.1, .inl Z1.2.2.2.2.1)), (u.2.2, .inl (cI, Z1.2.2.2.2.2.1, .inl Z1.2.2.2.2.2.2.1))] t.heap ∧ va_K (dC, dI) classes [(cB, .byte), (cI, .int)] t ∧ va_D (va_A [(o_Program, .inr (0, [.null, .int 0, .null, .null, .int 0, .int 0, .int 0]))] sz) [(o_Program, .inr (0, [.ref u.1, .int Z1.2.2.1, .ref u.2.1, .ref u.2.2, .int Z1.2.2.2.2.2.2.2.1, .int Z1.2.2.2.2.2.2.2.2.1, .int Z1.2.2.2.2.2.2.2.2.2])), (u.1, .inl (cI, Z1.1, .inl Z1.2.1)), (u.2.1, .inl (cB, Z1.2.2.2.1, .inl Z1.2.2.2.2.1)), (u.2.2, .inl (cI, Z1.2.2.2.2.2.1, .inl Z1.2.2.2.2.2.2.1))]) (va_A [(o_Program, .inr (0, [.null, .int 0, .null, .null, .int 0, .int 0, .int 0]))] sz)) Zc Zs (va_A [(o_Program, .inr (0, [.null, .int 0, .null, .null, .int 0, .int 0, .int 0]))] sz) := by
  refine Met.ofW (cc := b_Program_init) (maxL := 1) (ret := none) (by decide +kernel) rfl ?_
  intro p e s m args below meth c s₁ B hml hv
  obtain ⟨rfl, hN, hsz, hP, hK, hD0⟩ := hv
  have hx := B.exec
  have hb := B.bytes
  have hr := B.returns
  have hg : ∀ w ∈ lw_g, w.before _ s = true := fun w hw => atoms_spec (ws := .code y_Program_init b_Program_init 1 none :: lw_g) B.pre w (List.mem_cons_of_mem _ hw)
  have hown : s.vm.findClass R_Program = some m.cls := findClass_of_methodNamed B.named
  have hlocks := B.notSynchronized
  have hin : meth.name = "<init>" := (name_of_methodNamed B.named B.method).1
  clear B
  subst hsz
  have hD := hD0.self (sz := s.heap.size)
  generalize hAe : va_A [(o_Program, .inr (0, [.null, .int 0, .null, .null, .int 0, .int 0, .int 0]))] s.heap.size = A at hD ⊢
  have hA : ∀ q : Nat, s.heap.size ≤ q → A q := fun q h => by rw [← hAe]; exact Or.inr h
  have hS : va_S A s.heap s.heap [] := va_S.rf
  have hP : va_P (dC, dI) classes [(o_Program, .inr (0, [.null, .int 0, .null, .null, .int 0, .int 0, .int 0]))] s.heap := hP
  have hl := lv_entry ([.ref o_Program]) (n := 1) (Nat.le_of_ble_eq_true rfl)
  rw [lg_entry_eq]
  generalize (lg_sl ([.ref o_Program]) ++ List.replicate (1 - (lg_sl ([.ref o_Program])).length) Slot.unset).toArray = ls at hl ⊢
  have hl : lv_has ls 1 [(0, .ref o_Program)] := hl
  unfold m_Program_init at h
  have hG : dz_G Z1 Zc Zs (Z1, Zc, Zs) 0 0 := ⟨rfl, (Nat.zero_add _).symm, (Nat.zero_add _).symm⟩
  generalize (Z1, Zc, Zs) = z at h hG
  refine lv_aload_n hx hb d_Program_init_0 rfl (lv_at hl 0 rfl) ?_
  refine W.objInit hx hb hown (hg _ k1056) (hg _ k1054) (hg _ k1055) rfl (by rw [hml]; exact hl.1) rfl d_Program_init_1 (Nat.le_of_ble_eq_true rfl) (Nat.le_of_ble_eq_true rfl) ?_
  refine W.eq (g2 := F0 m 4 ls []) rfl ?_
  refine lv_aload_n hx hb d_Program_init_4 rfl (lv_at hl 0 rfl) ?_
  refine lv_sipush (v := 128) hx hb d_Program_init_5 (by decide) ?_
  obtain ⟨i1, h⟩ := dz_oi h
  obtain ⟨z, h, hG⟩ := dz_tkG h hG
  refine va_newa (D := (dC, dI)) (atype := .int) (N' := (128 : Int32).toNatClampNeg) (a0 := ((128 : Int32).toNatClampNeg, .inl (fun _ => 0))) hx hb (hg _ k11) (ty := .int) rfl hK hP hD hS hA (fun _ => rfl) (fun q => i1 (Or.inl q)) rfl (by show _ * 4 ≤ 536870912; have := fun q => i1 (Or.inr q); omega) (dz_Gc hG) (dz_Gs hG) d_Program_init_8 (fun b1 cA H hK hP hD hS => ?_)
  have hcc : cI = cA := Option.some.inj (((hK.2 1 _ rfl).2).symm.trans (hK.2 2 _ rfl).2)
  subst hcc
  have hK := hK.sub (tys' := [(cB, .byte), (cI, .int)]) [0, 1] rfl
  have hP : va_P (dC, dI) classes [(o_Program, .inr (0, [.null, .int 0, .null, .null, .int 0, .int 0, .int 0])), (b1, .inl (cI, ((128 : Int32).toNatClampNeg), .inl (fun _ => 0)))] H := hP
  have hD : va_D A [(o_Program, .inr (0, [.null, .int 0, .null, .null, .int 0, .int 0, .int 0])), (b1, .inl (cI, ((128 : Int32).toNatClampNeg), .inl (fun _ => 0)))] := hD
  refine va_put (D := (dC, dI)) (ci := 0) (v := .ref b1) (ty := .array .int) (C := R_Program) (T := F_Program) (N := 7) hx hb hg i_Program t_Program t_Program_ok n_Program hown hK hP hD hS 0 rfl rfl 0 (by decide) (hg _ k25) (fun _ h9 => h9) rfl (by decide +kernel) rfl rfl (Nat.le_of_ble_eq_true rfl) d_Program_init_10 (fun H locs hP hD hS => ?_)
  have hP : va_P (dC, dI) classes [(o_Program, .inr (0, [.ref b1, .int 0, .null, .null, .int 0, .int 0, .int 0])), (b1, .inl (cI, ((128 : Int32).toNatClampNeg), .inl (fun _ => 0)))] H := hP
  have hD : va_D A [(o_Program, .inr (0, [.ref b1, .int 0, .null, .null, .int 0, .int 0, .int 0])), (b1, .inl (cI, ((128 : Int32).toNatClampNeg), .inl (fun _ => 0)))] := hD
  refine lv_aload_n hx hb d_Program_init_13 rfl (lv_at hl 0 rfl) ?_
  refine lv_bipush (v := 64) hx hb d_Program_init_14 (by decide) ?_
  obtain ⟨i2, h⟩ := dz_oi h
  obtain ⟨z, h, hG⟩ := dz_tkG h hG
  refine va_newa (D := (dC, dI)) (atype := .byte) (N' := (64 : Int32).toNatClampNeg) (a0 := ((64 : Int32).toNatClampNeg, .inl (fun _ => 0))) hx hb (hg _ k18) (ty := .byte) rfl hK hP hD hS hA (fun _ => rfl) (fun q => i2 (Or.inl q)) rfl (by show _ * 1 ≤ 536870912; have := fun q => i2 (Or.inr q); omega) (dz_Gc hG) (dz_Gs hG) d_Program_init_16 (fun b2 cA H hK hP hD hS => ?_)
  have hcc : cB = cA := Option.some.inj (((hK.2 0 _ rfl).2).symm.trans (hK.2 2 _ rfl).2)
  subst hcc
  have hK := hK.sub (tys' := [(cB, .byte), (cI, .int)]) [0, 1] rfl
  have hP : va_P (dC, dI) classes [(o_Program, .inr (0, [.ref b1, .int 0, .null, .null, .int 0, .int 0, .int 0])), (b1, .inl (cI, ((128 : Int32).toNatClampNeg), .inl (fun _ => 0))), (b2, .inl (cB, ((64 : Int32).toNatClampNeg), .inl (fun _ => 0)))] H := hP
  have hD : va_D A [(o_Program, .inr (0, [.ref b1, .int 0, .null, .null, .int 0, .int 0, .int 0])), (b1, .inl (cI, ((128 : Int32).toNatClampNeg), .inl (fun _ => 0))), (b2, .inl (cB, ((64 : Int32).toNatClampNeg), .inl (fun _ => 0)))] := hD
  refine va_put (D := (dC, dI)) (ci := 0) (v := .ref b2) (ty := .array .byte) (C := R_Program) (T := F_Program) (N := 7) hx hb hg i_Program t_Program t_Program_ok n_Program hown hK hP hD hS 0 rfl rfl 2 (by decide) (hg _ k35) (fun _ h9 => h9) rfl (by decide +kernel) rfl rfl (Nat.le_of_ble_eq_true rfl) d_Program_init_18 (fun H locs hP hD hS => ?_)
  have hP : va_P (dC, dI) classes [(o_Program, .inr (0, [.ref b1, .int 0, .ref b2, .null, .int 0, .int 0, .int 0])), (b1, .inl (cI, ((128 : Int32).toNatClampNeg), .inl (fun _ => 0))), (b2, .inl (cB, ((64 : Int32).toNatClampNeg), .inl (fun _ => 0)))] H := hP
  have hD : va_D A [(o_Program, .inr (0, [.ref b1, .int 0, .ref b2, .null, .int 0, .int 0, .int 0])), (b1, .inl (cI, ((128 : Int32).toNatClampNeg), .inl (fun _ => 0))), (b2, .inl (cB, ((64 : Int32).toNatClampNeg), .inl (fun _ => 0)))] := hD
  refine lv_aload_n hx hb d_Program_init_21 rfl (lv_at hl 0 rfl) ?_
  refine lv_bipush (v := 16) hx hb d_Program_init_22 (by decide) ?_
  obtain ⟨i3, h⟩ := dz_oi h
  obtain ⟨z, h, hG⟩ := dz_tkG h hG
  refine va_newa (D := (dC, dI)) (atype := .int) (N' := (16 : Int32).toNatClampNeg) (a0 := ((16 : Int32).toNatClampNeg, .inl (fun _ => 0))) hx hb (hg _ k11) (ty := .int) rfl hK hP hD hS hA (fun _ => rfl) (fun q => i3 (Or.inl q)) rfl (by show _ * 4 ≤ 536870912; have := fun q => i3 (Or.inr q); omega) (dz_Gc hG) (dz_Gs hG) d_Program_init_24 (fun b3 cA H hK hP hD hS => ?_)
  have hcc : cI = cA := Option.some.inj (((hK.2 1 _ rfl).2).symm.trans (hK.2 2 _ rfl).2)
  subst hcc
  have hK := hK.sub (tys' := [(cB, .byte), (cI, .int)]) [0, 1] rfl
  have hP : va_P (dC, dI) classes [(o_Program, .inr (0, [.ref b1, .int 0, .ref b2, .null, .int 0, .int 0, .int 0])), (b1, .inl (cI, ((128 : Int32).toNatClampNeg), .inl (fun _ => 0))), (b2, .inl (cB, ((64 : Int32).toNatClampNeg), .inl (fun _ => 0))), (b3, .inl (cI, ((16 : Int32).toNatClampNeg), .inl (fun _ => 0)))] H := hP
  have hD : va_D A [(o_Program, .inr (0, [.ref b1, .int 0, .ref b2, .null, .int 0, .int 0, .int 0])), (b1, .inl (cI, ((128 : Int32).toNatClampNeg), .inl (fun _ => 0))), (b2, .inl (cB, ((64 : Int32).toNatClampNeg), .inl (fun _ => 0))), (b3, .inl (cI, ((16 : Int32).toNatClampNeg), .inl (fun _ => 0)))] := hD
  refine va_put (D := (dC, dI)) (ci := 0) (v := .ref b3) (ty := .array .int) (C := R_Program) (T := F_Program) (N := 7) hx hb hg i_Program t_Program t_Program_ok n_Program hown hK hP hD hS 0 rfl rfl 3 (by decide) (hg _ k47) (fun _ h9 => h9) rfl (by decide +kernel) rfl rfl (Nat.le_of_ble_eq_true rfl) d_Program_init_26 (fun H locs hP hD hS => ?_)
  have hP : va_P (dC, dI) classes [(o_Program, .inr (0, [.ref b1, .int 0, .ref b2, .ref b3, .int 0, .int 0, .int 0])), (b1, .inl (cI, ((128 : Int32).toNatClampNeg), .inl (fun _ => 0))), (b2, .inl (cB, ((64 : Int32).toNatClampNeg), .inl (fun _ => 0))), (b3, .inl (cI, ((16 : Int32).toNatClampNeg), .inl (fun _ => 0)))] H := hP
  have hD : va_D A [(o_Program, .inr (0, [.ref b1, .int 0, .ref b2, .ref b3, .int 0, .int 0, .int 0])), (b1, .inl (cI, ((128 : Int32).toNatClampNeg), .inl (fun _ => 0))), (b2, .inl (cB, ((64 : Int32).toNatClampNeg), .inl (fun _ => 0))), (b3, .inl (cI, ((16 : Int32).toNatClampNeg), .inl (fun _ => 0)))] := hD
  obtain rfl := Option.some.inj h
  have hP9 := hP.sub (ws' := [(o_Program, .inr (0, [.ref b1, .int 0, .ref b2, .ref b3, .int 0, .int 0, .int 0])), (b1, .inl (cI, ((128 : Int32).toNatClampNeg), .inl (fun _ => 0))), (b2, .inl (cB, ((64 : Int32).toNatClampNeg), .inl (fun _ => 0))), (b3, .inl (cI, ((16 : Int32).toNatClampNeg), .inl (fun _ => 0)))]) [0, 1, 2, 3] rfl
  have hD9 := hD.sub (ws' := [(o_Program, .inr (0, [.ref b1, .int 0, .ref b2, .ref b3, .int 0, .int 0, .int 0])), (b1, .inl (cI, ((128 : Int32).toNatClampNeg), .inl (fun _ => 0))), (b2, .inl (cB, ((64 : Int32).toNatClampNeg), .inl (fun _ => 0))), (b3, .inl (cI, ((16 : Int32).toNatClampNeg), .inl (fun _ => 0)))]) [0, 1, 2, 3] (by decide) rfl
  have hK9 := hK.sub (tys' := [(cB, .byte), (cI, .int)]) [0, 1] rfl
  refine W.widen (dz_Gc hG) (dz_Gs hG) ?_
  obtain ⟨rfl, -, -⟩ := hG
  exact W.vret hx hb hr (fun t ht hW => ⟨⟨(b1, b2, b3), rfl, trivial, by rw [ht]; exact hP9, va_K.moved hW.alike hK9, hD9⟩, hS.F ht⟩) hS.2.2 d_Program_init_29

set_option maxHeartbeats 4000000 in
set_option maxRecDepth 100000 in
theorem c_Output_init (l : Launch) (dC : Nat → ClassId) (dI : Nat → Nat → Nat) (N : Nat) (cB : ClassId) (o_Output : Nat) (sz : Nat) (Z1 : Nat × (Nat → Int32) × Int32) (Zc Zs : Nat) (h : m_Output_init N = some (Z1, Zc, Zs)) : Met l y_Output_init (.code y_Output_init b_Output_init 1 none :: lw_g) ({ frames := 1, cells := Zc, slots := Zs, locals := 20 }) (va_Pc [.ref o_Output] (fun U => dz_N U ∧ U.heap.size = sz ∧ va_P (dC, dI) classes [(o_Output, .inr (1, [.null, .int 0]))] U.heap ∧ va_K (dC, dI) classes [(cB, .byte)] U ∧ va_D (fun _ => True) [(o_Output, .inr (1, [.null, .int 0]))])) (va_Qv (fun (_ : Nat) => True) (fun (u : Nat) t => va_P (dC, dI) classes [(o_Output, .inr (1, [.ref u, .int Z1.2.2])), (u, .inl (cB, Z1.1, .inl Z1.2.1))] t.heap ∧ va_K (dC, dI) classes [(cB, .byte)] t ∧ va_D (va_A [(o_Output, .inr (1, [.null, .int 0]))] sz) [(o_Output, .inr (1, [.ref u, .int Z1.2.2])), (u, .inl (cB, Z1.1, .inl Z1.2.1))]) (va_A [(o_Output, .inr (1, [.null, .int 0]))] sz)) Zc Zs (va_A [(o_Output, .inr (1, [.null, .int 0]))] sz) := by
  refine Met.ofW (cc := b_Output_init) (maxL := 1) (ret := none) (by decide +kernel) rfl ?_
  intro p e s m args below meth c s₁ B hml hv
  obtain ⟨rfl, hN, hsz, hP, hK, hD0⟩ := hv
  have hx := B.exec
  have hb := B.bytes
  have hr := B.returns
  have hg : ∀ w ∈ lw_g, w.before _ s = true := fun w hw => atoms_spec (ws := .code y_Output_init b_Output_init 1 none :: lw_g) B.pre w (List.mem_cons_of_mem _ hw)
  have hown : s.vm.findClass R_Output = some m.cls := findClass_of_methodNamed B.named
  have hlocks := B.notSynchronized
  have hin : meth.name = "<init>" := (name_of_methodNamed B.named B.method).1
  clear B
  subst hsz
  have hD := hD0.self (sz := s.heap.size)
  generalize hAe : va_A [(o_Output, .inr (1, [.null, .int 0]))] s.heap.size = A at hD ⊢
  have hA : ∀ q : Nat, s.heap.size ≤ q → A q := fun q h => by rw [← hAe]; exact Or.inr h
  have hS : va_S A s.heap s.heap [] := va_S.rf
  have hP : va_P (dC, dI) classes [(o_Output, .inr (1, [.null, .int 0]))] s.heap := hP
  have hl := lv_entry ([.ref o_Output]) (n := 1) (Nat.le_of_ble_eq_true rfl)
  rw [lg_entry_eq]
  generalize (lg_sl ([.ref o_Output]) ++ List.replicate (1 - (lg_sl ([.ref o_Output])).length) Slot.unset).toArray = ls at hl ⊢
  have hl : lv_has ls 1 [(0, .ref o_Output)] := hl
  unfold m_Output_init at h
  have hG : dz_G Z1 Zc Zs (Z1, Zc, Zs) 0 0 := ⟨rfl, (Nat.zero_add _).symm, (Nat.zero_add _).symm⟩
  generalize (Z1, Zc, Zs) = z at h hG
  refine lv_aload_n hx hb d_Output_init_0 rfl (lv_at hl 0 rfl) ?_
  refine W.objInit hx hb hown (hg _ k1057) (hg _ k1054) (hg _ k1055) rfl (by rw [hml]; exact hl.1) rfl d_Output_init_1 (Nat.le_of_ble_eq_true rfl) (Nat.le_of_ble_eq_true rfl) ?_
  refine W.eq (g2 := F0 m 4 ls []) rfl ?_
  refine lv_aload_n hx hb d_Output_init_4 rfl (lv_at hl 0 rfl) ?_
  refine lv_bipush (v := 64) hx hb d_Output_init_5 (by decide) ?_
  obtain ⟨i1, h⟩ := dz_oi h
  obtain ⟨z, h, hG⟩ := dz_tkG h hG
  refine va_newa (D := (dC, dI)) (atype := .byte) (N' := (64 : Int32).toNatClampNeg) (a0 := ((64 : Int32).toNatClampNeg, .inl (fun _ => 0))) hx hb (hg _ k18) (ty := .byte) rfl hK hP hD hS hA (fun _ => rfl) (fun q => i1 (Or.inl q)) rfl (by show _ * 1 ≤ 536870912; have := fun q => i1 (Or.inr q); omega) (dz_Gc hG) (dz_Gs hG) d_Output_init_7 (fun b1 cA H hK hP hD hS => ?_)
  have hcc : cB = cA := Option.some.inj (((hK.2 0 _ rfl).2).symm.trans (hK.2 1 _ rfl).2)
  subst hcc
  have hK := hK.sub (tys' := [(cB, .byte)]) [0] rfl
  have hP : va_P (dC, dI) classes [(o_Output, .inr (1, [.null, .int 0])), (b1, .inl (cB, ((64 : Int32).toNatClampNeg), .inl (fun _ => 0)))] H := hP
  have hD : va_D A [(o_Output, .inr (1, [.null, .int 0])), (b1, .inl (cB, ((64 : Int32).toNatClampNeg), .inl (fun _ => 0)))] := hD
  refine va_put (D := (dC, dI)) (ci := 1) (v := .ref b1) (ty := .array .byte) (C := R_Output) (T := F_Output) (N := 2) hx hb hg i_Output t_Output t_Output_ok n_Output hown hK hP hD hS 0 rfl rfl 0 (by decide) (hg _ k50) (fun _ h9 => h9) rfl (by decide +kernel) rfl rfl (Nat.le_of_ble_eq_true rfl) d_Output_init_9 (fun H locs hP hD hS => ?_)
  have hP : va_P (dC, dI) classes [(o_Output, .inr (1, [.ref b1, .int 0])), (b1, .inl (cB, ((64 : Int32).toNatClampNeg), .inl (fun _ => 0)))] H := hP
  have hD : va_D A [(o_Output, .inr (1, [.ref b1, .int 0])), (b1, .inl (cB, ((64 : Int32).toNatClampNeg), .inl (fun _ => 0)))] := hD
  obtain rfl := Option.some.inj h
  have hP9 := hP.sub (ws' := [(o_Output, .inr (1, [.ref b1, .int 0])), (b1, .inl (cB, ((64 : Int32).toNatClampNeg), .inl (fun _ => 0)))]) [0, 1] rfl
  have hD9 := hD.sub (ws' := [(o_Output, .inr (1, [.ref b1, .int 0])), (b1, .inl (cB, ((64 : Int32).toNatClampNeg), .inl (fun _ => 0)))]) [0, 1] (by decide) rfl
  have hK9 := hK.sub (tys' := [(cB, .byte)]) [0] rfl
  refine W.widen (dz_Gc hG) (dz_Gs hG) ?_
  obtain ⟨rfl, -, -⟩ := hG
  exact W.vret hx hb hr (fun t ht hW => ⟨⟨b1, rfl, trivial, by rw [ht]; exact hP9, va_K.moved hW.alike hK9, hD9⟩, hS.F ht⟩) hS.2.2 d_Output_init_12

set_option maxHeartbeats 4000000 in
set_option maxRecDepth 100000 in
theorem c_Heap_init (l : Launch) (dC : Nat → ClassId) (dI : Nat → Nat → Nat) (N : Nat) (cL : ClassId) (o_Heap : Nat) (o_Stacks : Nat) (sz : Nat) (Z1 : Nat × (Nat → Int64) × Int32 × Nat × (Nat → Int64) × Int32 × Nat × (Nat → Int64) × Int32 × Int32 × Int32 × Int32 × Int32 × Int32 × Int32 × Int32 × Int32 × Int32 × Nat × (Nat → Int64) × Int32 × Nat × (Nat → Int64) × Int32) (Zc Zs : Nat) (h : m_Heap_init N = some (Z1, Zc, Zs)) : Met l y_Heap_init (.code y_Heap_init b_Heap_init 2 none :: lw_g) ({ frames := 1, cells := Zc, slots := Zs, locals := 20 }) (va_Pc [.ref o_Heap, .ref o_Stacks] (fun U => dz_N U ∧ U.heap.size = sz ∧ va_P (dC, dI) classes [(o_Heap, .inr (3, [.null, .null, .int 0, .null, .int 0, .null, .int 0, .int 0, .int 0, .int 0, .int 0, .int 0, .int 0, .int 0, .int 0, .int 0, .null, .int 0, .null, .int 0]))] U.heap ∧ va_K (dC, dI) classes [(cL, .long)] U ∧ va_D (fun _ => True) [(o_Heap, .inr (3, [.null, .null, .int 0, .null, .int 0, .null, .int 0, .int 0, .int 0, .int 0, .int 0, .int 0, .int 0, .int 0, .int 0, .int 0, .null, .int 0, .null, .int 0]))])) (va_Qv (fun (_ : Nat × Nat × Nat × Nat × Nat) => True) (fun (u : Nat × Nat × Nat × Nat × Nat) t => va_P (dC, dI) classes [(o_Heap, .inr (3, [.ref o_Stacks, .ref u.1, .int Z1.2.2.1, .ref u.2.1, .int Z1.2.2.2.2.2.1, .ref u.2.2.1, .int Z1.2.2.2.2.2.2.2.2.1, .int Z1.2.2.2.2.2.2.2.2.2.1, .int Z1.2.2.2.2.2.2.2.2.2.2.1, .int Z1.2.2.2.2.2.2.2.2.2.2.2.1, .int Z1.2.2.2.2.2.2.2.2.2.2.2.2.1, .int Z1.2.2.2.2.2.2.2.2.2.2.2.2.2.1, .int Z1.2.2.2.2.2.2.2.2.2.2.2.2.2.2.1, .int Z1.2.2.2.2.2.2.2.2.2.2.2.2.2.2.2.1, .int Z1.2.2.2.2.2.2.2.2.2.2.2.2.2.2.2.2.1, .int Z1.2.2.2.2.2.2.2.2.2.2.2.2.2.2.2.2.2.1, .ref u.2.2.2.1, .int Z1.2.2.2.2.2.2.2.2.2.2.2.2.2.2.2.2.2.2.2.2.1, .ref u.2.2.2.2, .int Z1.2.2.2.2.2.2.2.2.2.2.2.2.2.2.2.2.2.2.2.2.2.2.2])), (u.1, .inl (cL, Z1.1, .inr (.inl Z1.2.1))), (u.2.1, .inl (cL, Z1.2.2.2.1, .inr (.inl Z1.2.2.2.2.1))), (u.2.2.1, .inl (cL, Z1.2.2.2.2.2.2.1, .inr (.inl Z1.2.2.2.2.2.2.2.1))), (u.2.2.2.1, .inl (cL, Z1.2.2.2.2.2.2.2.2.2.2.2.2.2.2.2.2.2.2.1, .inr (.inl Z1.2.2.2.2.2.2.2.2.2.2.2.2.2.2.2.2.2.2.2.1))), (u.2.2.2.2, .inl (cL, Z1.2.2.2.2.2.2.2.2.2.2.2.2.2.2.2.2.2.2.2.2.2.1, .inr (.inl Z1.2.2.2.2.2.2.2.2.2.2.2.2.2.2.2.2.2.2.2.2.2.2.1)))] t.heap ∧ va_K (dC, dI) classes [(cL, .long)] t ∧ va_D (va_A [(o_Heap, .inr (3, [.null, .null, .int 0, .null, .int 0, .null, .int 0, .int 0, .int 0, .int 0, .int 0, .int 0, .int 0, .int 0, .int 0, .int 0, .null, .int 0, .null, .int 0]))] sz) [(o_Heap, .inr (3, [.ref o_Stacks, .ref u.1, .int Z1.2.2.1, .ref u.2.1, .int Z1.2.2.2.2.2.1, .ref u.2.2.1, .int Z1.2.2.2.2.2.2.2.2.1, .int Z1.2.2.2.2.2.2.2.2.2.1, .int Z1.2.2.2.2.2.2.2.2.2.2.1, .int Z1.2.2.2.2.2.2.2.2.2.2.2.1, .int Z1.2.2.2.2.2.2.2.2.2.2.2.2.1, .int Z1.2.2.2.2.2.2.2.2.2.2.2.2.2.1, .int Z1.2.2.2.2.2.2.2.2.2.2.2.2.2.2.1, .int Z1.2.2.2.2.2.2.2.2.2.2.2.2.2.2.2.1, .int Z1.2.2.2.2.2.2.2.2.2.2.2.2.2.2.2.2.1, .int Z1.2.2.2.2.2.2.2.2.2.2.2.2.2.2.2.2.2.1, .ref u.2.2.2.1, .int Z1.2.2.2.2.2.2.2.2.2.2.2.2.2.2.2.2.2.2.2.2.1, .ref u.2.2.2.2, .int Z1.2.2.2.2.2.2.2.2.2.2.2.2.2.2.2.2.2.2.2.2.2.2.2])), (u.1, .inl (cL, Z1.1, .inr (.inl Z1.2.1))), (u.2.1, .inl (cL, Z1.2.2.2.1, .inr (.inl Z1.2.2.2.2.1))), (u.2.2.1, .inl (cL, Z1.2.2.2.2.2.2.1, .inr (.inl Z1.2.2.2.2.2.2.2.1))), (u.2.2.2.1, .inl (cL, Z1.2.2.2.2.2.2.2.2.2.2.2.2.2.2.2.2.2.2.1, .inr (.inl Z1.2.2.2.2.2.2.2.2.2.2.2.2.2.2.2.2.2.2.2.1))), (u.2.2.2.2, .inl (cL, Z1.2.2.2.2.2.2.2.2.2.2.2.2.2.2.2.2.2.2.2.2.2.1, .inr (.inl Z1.2.2.2.2.2.2.2.2.2.2.2.2.2.2.2.2.2.2.2.2.2.2.1)))]) (va_A [(o_Heap, .inr (3, [.null, .null, .int 0, .null, .int 0, .null, .int 0, .int 0, .int 0, .int 0, .int 0, .int 0, .int 0, .int 0, .int 0, .int 0, .null, .int 0, .null, .int 0]))] sz)) Zc Zs (va_A [(o_Heap, .inr (3, [.null, .null, .int 0, .null, .int 0, .null, .int 0, .int 0, .int 0, .int 0, .int 0, .int 0, .int 0, .int 0, .int 0, .int 0, .null, .int 0, .null, .int 0]))] sz) := by
  refine Met.ofW (cc := b_Heap_init) (maxL := 2) (ret := none) (by decide +kernel) rfl ?_
  intro p e s m args below meth c s₁ B hml hv
  obtain ⟨rfl, hN, hsz, hP, hK, hD0⟩ := hv
  have hx := B.exec
  have hb := B.bytes
  have hr := B.returns
  have hg : ∀ w ∈ lw_g, w.before _ s = true := fun w hw => atoms_spec (ws := .code y_Heap_init b_Heap_init 2 none :: lw_g) B.pre w (List.mem_cons_of_mem _ hw)
  have hown : s.vm.findClass R_Heap = some m.cls := findClass_of_methodNamed B.named
  have hlocks := B.notSynchronized
  have hin : meth.name = "<init>" := (name_of_methodNamed B.named B.method).1
  clear B
  subst hsz
  have hD := hD0.self (sz := s.heap.size)
  generalize hAe : va_A [(o_Heap, .inr (3, [.null, .null, .int 0, .null, .int 0, .null, .int 0, .int 0, .int 0, .int 0, .int 0, .int 0, .int 0, .int 0, .int 0, .int 0, .null, .int 0, .null, .int 0]))] s.heap.size = A at hD ⊢
  have hA : ∀ q : Nat, s.heap.size ≤ q → A q := fun q h => by rw [← hAe]; exact Or.inr h
  have hS : va_S A s.heap s.heap [] := va_S.rf
  have hP : va_P (dC, dI) classes [(o_Heap, .inr (3, [.null, .null, .int 0, .null, .int 0, .null, .int 0, .int 0, .int 0, .int 0, .int 0, .int 0, .int 0, .int 0, .int 0, .int 0, .null, .int 0, .null, .int 0]))] s.heap := hP
  have hl := lv_entry ([.ref o_Heap, .ref o_Stacks]) (n := 2) (Nat.le_of_ble_eq_true rfl)
  rw [lg_entry_eq]
  generalize (lg_sl ([.ref o_Heap, .ref o_Stacks]) ++ List.replicate (2 - (lg_sl ([.ref o_Heap, .ref o_Stacks])).length) Slot.unset).toArray = ls at hl ⊢
  have hl : lv_has ls 2 [(0, .ref o_Heap), (1, .ref o_Stacks)] := hl
  unfold m_Heap_init at h
  have hG : dz_G Z1 Zc Zs (Z1, Zc, Zs) 0 0 := ⟨rfl, (Nat.zero_add _).symm, (Nat.zero_add _).symm⟩
  generalize (Z1, Zc, Zs) = z at h hG
  refine lv_aload_n hx hb d_Heap_init_0 rfl (lv_at hl 0 rfl) ?_
  refine W.objInit hx hb hown (hg _ k1060) (hg _ k1054) (hg _ k1055) rfl (by rw [hml]; exact hl.1) rfl d_Heap_init_1 (Nat.le_of_ble_eq_true rfl) (Nat.le_of_ble_eq_true rfl) ?_
  refine W.eq (g2 := F0 m 4 ls []) rfl ?_
  refine lv_aload_n hx hb d_Heap_init_4 rfl (lv_at hl 0 rfl) ?_
  refine lv_sipush (v := 2049) hx hb d_Heap_init_5 (by decide) ?_
  obtain ⟨i1, h⟩ := dz_oi h
  obtain ⟨z, h, hG⟩ := dz_tkG h hG
  refine va_newa (D := (dC, dI)) (atype := .long) (N' := (2049 : Int32).toNatClampNeg) (a0 := ((2049 : Int32).toNatClampNeg, .inr (.inl (fun _ => 0)))) hx hb (hg _ k17) (ty := .long) rfl hK hP hD hS hA (fun _ => rfl) (fun q => i1 (Or.inl q)) rfl (by show _ * 8 ≤ 536870912; have := fun q => i1 (Or.inr q); omega) (dz_Gc hG) (dz_Gs hG) d_Heap_init_8 (fun b1 cA H hK hP hD hS => ?_)
  have hcc : cL = cA := Option.some.inj (((hK.2 0 _ rfl).2).symm.trans (hK.2 1 _ rfl).2)
  subst hcc
  have hK := hK.sub (tys' := [(cL, .long)]) [0] rfl
  have hP : va_P (dC, dI) classes [(o_Heap, .inr (3, [.null, .null, .int 0, .null, .int 0, .null, .int 0, .int 0, .int 0, .int 0, .int 0, .int 0, .int 0, .int 0, .int 0, .int 0, .null, .int 0, .null, .int 0])), (b1, .inl (cL, ((2049 : Int32).toNatClampNeg), .inr (.inl (fun _ => 0))))] H := hP
  have hD : va_D A [(o_Heap, .inr (3, [.null, .null, .int 0, .null, .int 0, .null, .int 0, .int 0, .int 0, .int 0, .int 0, .int 0, .int 0, .int 0, .int 0, .int 0, .null, .int 0, .null, .int 0])), (b1, .inl (cL, ((2049 : Int32).toNatClampNeg), .inr (.inl (fun _ => 0))))] := hD
  refine va_putF (D := (dC, dI)) (ci := 3) (v := .ref b1) (ty := .array .long) (C := R_Heap) (T := F_Heap) (N := 20) hx hb hg i_Heap t_Heap t_Heap_ok n_Heap hown hK hP hD hS 0 rfl rfl 1 (by decide) (hg _ k144) (fun _ h9 => h9) rfl hin rfl (by decide +kernel) rfl rfl (Nat.le_of_ble_eq_true rfl) d_Heap_init_10 (fun H locs hP hD hS => ?_)
  have hP : va_P (dC, dI) classes [(o_Heap, .inr (3, [.null, .ref b1, .int 0, .null, .int 0, .null, .int 0, .int 0, .int 0, .int 0, .int 0, .int 0, .int 0, .int 0, .int 0, .int 0, .null, .int 0, .null, .int 0])), (b1, .inl (cL, ((2049 : Int32).toNatClampNeg), .inr (.inl (fun _ => 0))))] H := hP
  have hD : va_D A [(o_Heap, .inr (3, [.null, .ref b1, .int 0, .null, .int 0, .null, .int 0, .int 0, .int 0, .int 0, .int 0, .int 0, .int 0, .int 0, .int 0, .int 0, .null, .int 0, .null, .int 0])), (b1, .inl (cL, ((2049 : Int32).toNatClampNeg), .inr (.inl (fun _ => 0))))] := hD
  refine lv_aload_n hx hb d_Heap_init_13 rfl (lv_at hl 0 rfl) ?_
  refine lv_sipush (v := 512) hx hb d_Heap_init_14 (by decide) ?_
  obtain ⟨i2, h⟩ := dz_oi h
  obtain ⟨z, h, hG⟩ := dz_tkG h hG
  refine va_newa (D := (dC, dI)) (atype := .long) (N' := (512 : Int32).toNatClampNeg) (a0 := ((512 : Int32).toNatClampNeg, .inr (.inl (fun _ => 0)))) hx hb (hg _ k17) (ty := .long) rfl hK hP hD hS hA (fun _ => rfl) (fun q => i2 (Or.inl q)) rfl (by show _ * 8 ≤ 536870912; have := fun q => i2 (Or.inr q); omega) (dz_Gc hG) (dz_Gs hG) d_Heap_init_17 (fun b2 cA H hK hP hD hS => ?_)
  have hcc : cL = cA := Option.some.inj (((hK.2 0 _ rfl).2).symm.trans (hK.2 1 _ rfl).2)
  subst hcc
  have hK := hK.sub (tys' := [(cL, .long)]) [0] rfl
  have hP : va_P (dC, dI) classes [(o_Heap, .inr (3, [.null, .ref b1, .int 0, .null, .int 0, .null, .int 0, .int 0, .int 0, .int 0, .int 0, .int 0, .int 0, .int 0, .int 0, .int 0, .null, .int 0, .null, .int 0])), (b1, .inl (cL, ((2049 : Int32).toNatClampNeg), .inr (.inl (fun _ => 0)))), (b2, .inl (cL, ((512 : Int32).toNatClampNeg), .inr (.inl (fun _ => 0))))] H := hP
  have hD : va_D A [(o_Heap, .inr (3, [.null, .ref b1, .int 0, .null, .int 0, .null, .int 0, .int 0, .int 0, .int 0, .int 0, .int 0, .int 0, .int 0, .int 0, .int 0, .null, .int 0, .null, .int 0])), (b1, .inl (cL, ((2049 : Int32).toNatClampNeg), .inr (.inl (fun _ => 0)))), (b2, .inl (cL, ((512 : Int32).toNatClampNeg), .inr (.inl (fun _ => 0))))] := hD
  refine va_put (D := (dC, dI)) (ci := 3) (v := .ref b2) (ty := .array .long) (C := R_Heap) (T := F_Heap) (N := 20) hx hb hg i_Heap t_Heap t_Heap_ok n_Heap hown hK hP hD hS 0 rfl rfl 3 (by decide) (hg _ k112) (fun _ h9 => h9) rfl (by decide +kernel) rfl rfl (Nat.le_of_ble_eq_true rfl) d_Heap_init_19 (fun H locs hP hD hS => ?_)
  have hP : va_P (dC, dI) classes [(o_Heap, .inr (3, [.null, .ref b1, .int 0, .ref b2, .int 0, .null, .int 0, .int 0, .int 0, .int 0, .int 0, .int 0, .int 0, .int 0, .int 0, .int 0, .null, .int 0, .null, .int 0])), (b1, .inl (cL, ((2049 : Int32).toNatClampNeg), .inr (.inl (fun _ => 0)))), (b2, .inl (cL, ((512 : Int32).toNatClampNeg), .inr (.inl (fun _ => 0))))] H := hP
  have hD : va_D A [(o_Heap, .inr (3, [.null, .ref b1, .int 0, .ref b2, .int 0, .null, .int 0, .int 0, .int 0, .int 0, .int 0, .int 0, .int 0, .int 0, .int 0, .int 0, .null, .int 0, .null, .int 0])), (b1, .inl (cL, ((2049 : Int32).toNatClampNeg), .inr (.inl (fun _ => 0)))), (b2, .inl (cL, ((512 : Int32).toNatClampNeg), .inr (.inl (fun _ => 0))))] := hD
  refine lv_aload_n hx hb d_Heap_init_22 rfl (lv_at hl 0 rfl) ?_
  refine lv_iconst (v := 0) hx hb d_Heap_init_23 (by decide) ?_
  obtain ⟨i3, h⟩ := dz_oi h
  obtain ⟨z, h, hG⟩ := dz_tkG h hG
  refine va_newa (D := (dC, dI)) (atype := .long) (N' := (0 : Int32).toNatClampNeg) (a0 := ((0 : Int32).toNatClampNeg, .inr (.inl (fun _ => 0)))) hx hb (hg _ k17) (ty := .long) rfl hK hP hD hS hA (fun _ => rfl) (fun q => i3 (Or.inl q)) rfl (by show _ * 8 ≤ 536870912; have := fun q => i3 (Or.inr q); omega) (dz_Gc hG) (dz_Gs hG) d_Heap_init_24 (fun b3 cA H hK hP hD hS => ?_)
  have hcc : cL = cA := Option.some.inj (((hK.2 0 _ rfl).2).symm.trans (hK.2 1 _ rfl).2)
  subst hcc
  have hK := hK.sub (tys' := [(cL, .long)]) [0] rfl
  have hP : va_P (dC, dI) classes [(o_Heap, .inr (3, [.null, .ref b1, .int 0, .ref b2, .int 0, .null, .int 0, .int 0, .int 0, .int 0, .int 0, .int 0, .int 0, .int 0, .int 0, .int 0, .null, .int 0, .null, .int 0])), (b1, .inl (cL, ((2049 : Int32).toNatClampNeg), .inr (.inl (fun _ => 0)))), (b2, .inl (cL, ((512 : Int32).toNatClampNeg), .inr (.inl (fun _ => 0)))), (b3, .inl (cL, ((0 : Int32).toNatClampNeg), .inr (.inl (fun _ => 0))))] H := hP
  have hD : va_D A [(o_Heap, .inr (3, [.null, .ref b1, .int 0, .ref b2, .int 0, .null, .int 0, .int 0, .int 0, .int 0, .int 0, .int 0, .int 0, .int 0, .int 0, .int 0, .null, .int 0, .null, .int 0])), (b1, .inl (cL, ((2049 : Int32).toNatClampNeg), .inr (.inl (fun _ => 0)))), (b2, .inl (cL, ((512 : Int32).toNatClampNeg), .inr (.inl (fun _ => 0)))), (b3, .inl (cL, ((0 : Int32).toNatClampNeg), .inr (.inl (fun _ => 0))))] := hD
  refine va_put (D := (dC, dI)) (ci := 3) (v := .ref b3) (ty := .array .long) (C := R_Heap) (T := F_Heap) (N := 20) hx hb hg i_Heap t_Heap t_Heap_ok n_Heap hown hK hP hD hS 0 rfl rfl 5 (by decide) (hg _ k111) (fun _ h9 => h9) rfl (by decide +kernel) rfl rfl (Nat.le_of_ble_eq_true rfl) d_Heap_init_26 (fun H locs hP hD hS => ?_)
  have hP : va_P (dC, dI) classes [(o_Heap, .inr (3, [.null, .ref b1, .int 0, .ref b2, .int 0, .ref b3, .int 0, .int 0, .int 0, .int 0, .int 0, .int 0, .int 0, .int 0, .int 0, .int 0, .null, .int 0, .null, .int 0])), (b1, .inl (cL, ((2049 : Int32).toNatClampNeg), .inr (.inl (fun _ => 0)))), (b2, .inl (cL, ((512 : Int32).toNatClampNeg), .inr (.inl (fun _ => 0)))), (b3, .inl (cL, ((0 : Int32).toNatClampNeg), .inr (.inl (fun _ => 0))))] H := hP
  have hD : va_D A [(o_Heap, .inr (3, [.null, .ref b1, .int 0, .ref b2, .int 0, .ref b3, .int 0, .int 0, .int 0, .int 0, .int 0, .int 0, .int 0, .int 0, .int 0, .int 0, .null, .int 0, .null, .int 0])), (b1, .inl (cL, ((2049 : Int32).toNatClampNeg), .inr (.inl (fun _ => 0)))), (b2, .inl (cL, ((512 : Int32).toNatClampNeg), .inr (.inl (fun _ => 0)))), (b3, .inl (cL, ((0 : Int32).toNatClampNeg), .inr (.inl (fun _ => 0))))] := hD
  refine lv_aload_n hx hb d_Heap_init_29 rfl (lv_at hl 0 rfl) ?_
  refine lv_ldc (v := 65536) hx hb hown (hg _ k1058) d_Heap_init_30 ?_
  refine va_put (D := (dC, dI)) (ci := 3) (v := .int 65536) (ty := .int) (C := R_Heap) (T := F_Heap) (N := 20) hx hb hg i_Heap t_Heap t_Heap_ok n_Heap hown hK hP hD hS 0 rfl rfl 9 (by decide) (hg _ k173) (fun _ h9 => h9) rfl (by decide +kernel) rfl rfl (Nat.le_of_ble_eq_true rfl) d_Heap_init_32 (fun H locs hP hD hS => ?_)
  have hP : va_P (dC, dI) classes [(o_Heap, .inr (3, [.null, .ref b1, .int 0, .ref b2, .int 0, .ref b3, .int 0, .int 0, .int 0, .int 65536, .int 0, .int 0, .int 0, .int 0, .int 0, .int 0, .null, .int 0, .null, .int 0])), (b1, .inl (cL, ((2049 : Int32).toNatClampNeg), .inr (.inl (fun _ => 0)))), (b2, .inl (cL, ((512 : Int32).toNatClampNeg), .inr (.inl (fun _ => 0)))), (b3, .inl (cL, ((0 : Int32).toNatClampNeg), .inr (.inl (fun _ => 0))))] H := hP
  have hD : va_D A [(o_Heap, .inr (3, [.null, .ref b1, .int 0, .ref b2, .int 0, .ref b3, .int 0, .int 0, .int 0, .int 65536, .int 0, .int 0, .int 0, .int 0, .int 0, .int 0, .null, .int 0, .null, .int 0])), (b1, .inl (cL, ((2049 : Int32).toNatClampNeg), .inr (.inl (fun _ => 0)))), (b2, .inl (cL, ((512 : Int32).toNatClampNeg), .inr (.inl (fun _ => 0)))), (b3, .inl (cL, ((0 : Int32).toNatClampNeg), .inr (.inl (fun _ => 0))))] := hD
  refine lv_aload_n hx hb d_Heap_init_35 rfl (lv_at hl 0 rfl) ?_
  refine lv_ldc (v := 1000000) hx hb hown (hg _ k1059) d_Heap_init_36 ?_
  refine va_put (D := (dC, dI)) (ci := 3) (v := .int 1000000) (ty := .int) (C := R_Heap) (T := F_Heap) (N := 20) hx hb hg i_Heap t_Heap t_Heap_ok n_Heap hown hK hP hD hS 0 rfl rfl 10 (by decide) (hg _ k172) (fun _ h9 => h9) rfl (by decide +kernel) rfl rfl (Nat.le_of_ble_eq_true rfl) d_Heap_init_38 (fun H locs hP hD hS => ?_)
  have hP : va_P (dC, dI) classes [(o_Heap, .inr (3, [.null, .ref b1, .int 0, .ref b2, .int 0, .ref b3, .int 0, .int 0, .int 0, .int 65536, .int 1000000, .int 0, .int 0, .int 0, .int 0, .int 0, .null, .int 0, .null, .int 0])), (b1, .inl (cL, ((2049 : Int32).toNatClampNeg), .inr (.inl (fun _ => 0)))), (b2, .inl (cL, ((512 : Int32).toNatClampNeg), .inr (.inl (fun _ => 0)))), (b3, .inl (cL, ((0 : Int32).toNatClampNeg), .inr (.inl (fun _ => 0))))] H := hP
  have hD : va_D A [(o_Heap, .inr (3, [.null, .ref b1, .int 0, .ref b2, .int 0, .ref b3, .int 0, .int 0, .int 0, .int 65536, .int 1000000, .int 0, .int 0, .int 0, .int 0, .int 0, .null, .int 0, .null, .int 0])), (b1, .inl (cL, ((2049 : Int32).toNatClampNeg), .inr (.inl (fun _ => 0)))), (b2, .inl (cL, ((512 : Int32).toNatClampNeg), .inr (.inl (fun _ => 0)))), (b3, .inl (cL, ((0 : Int32).toNatClampNeg), .inr (.inl (fun _ => 0))))] := hD
  refine lv_aload_n hx hb d_Heap_init_41 rfl (lv_at hl 0 rfl) ?_
  refine lv_ldc (v := 1000000) hx hb hown (hg _ k1059) d_Heap_init_42 ?_
  refine va_put (D := (dC, dI)) (ci := 3) (v := .int 1000000) (ty := .int) (C := R_Heap) (T := F_Heap) (N := 20) hx hb hg i_Heap t_Heap t_Heap_ok n_Heap hown hK hP hD hS 0 rfl rfl 13 (by decide) (hg _ k175) (fun _ h9 => h9) rfl (by decide +kernel) rfl rfl (Nat.le_of_ble_eq_true rfl) d_Heap_init_44 (fun H locs hP hD hS => ?_)
  have hP : va_P (dC, dI) classes [(o_Heap, .inr (3, [.null, .ref b1, .int 0, .ref b2, .int 0, .ref b3, .int 0, .int 0, .int 0, .int 65536, .int 1000000, .int 0, .int 0, .int 1000000, .int 0, .int 0, .null, .int 0, .null, .int 0])), (b1, .inl (cL, ((2049 : Int32).toNatClampNeg), .inr (.inl (fun _ => 0)))), (b2, .inl (cL, ((512 : Int32).toNatClampNeg), .inr (.inl (fun _ => 0)))), (b3, .inl (cL, ((0 : Int32).toNatClampNeg), .inr (.inl (fun _ => 0))))] H := hP
  have hD : va_D A [(o_Heap, .inr (3, [.null, .ref b1, .int 0, .ref b2, .int 0, .ref b3, .int 0, .int 0, .int 0, .int 65536, .int 1000000, .int 0, .int 0, .int 1000000, .int 0, .int 0, .null, .int 0, .null, .int 0])), (b1, .inl (cL, ((2049 : Int32).toNatClampNeg), .inr (.inl (fun _ => 0)))), (b2, .inl (cL, ((512 : Int32).toNatClampNeg), .inr (.inl (fun _ => 0)))), (b3, .inl (cL, ((0 : Int32).toNatClampNeg), .inr (.inl (fun _ => 0))))] := hD
  refine lv_aload_n hx hb d_Heap_init_47 rfl (lv_at hl 0 rfl) ?_
  refine lv_sipush (v := 2048) hx hb d_Heap_init_48 (by decide) ?_
  obtain ⟨i4, h⟩ := dz_oi h
  obtain ⟨z, h, hG⟩ := dz_tkG h hG
  refine va_newa (D := (dC, dI)) (atype := .long) (N' := (2048 : Int32).toNatClampNeg) (a0 := ((2048 : Int32).toNatClampNeg, .inr (.inl (fun _ => 0)))) hx hb (hg _ k17) (ty := .long) rfl hK hP hD hS hA (fun _ => rfl) (fun q => i4 (Or.inl q)) rfl (by show _ * 8 ≤ 536870912; have := fun q => i4 (Or.inr q); omega) (dz_Gc hG) (dz_Gs hG) d_Heap_init_51 (fun b4 cA H hK hP hD hS => ?_)
  have hcc : cL = cA := Option.some.inj (((hK.2 0 _ rfl).2).symm.trans (hK.2 1 _ rfl).2)
  subst hcc
  have hK := hK.sub (tys' := [(cL, .long)]) [0] rfl
  have hP : va_P (dC, dI) classes [(o_Heap, .inr (3, [.null, .ref b1, .int 0, .ref b2, .int 0, .ref b3, .int 0, .int 0, .int 0, .int 65536, .int 1000000, .int 0, .int 0, .int 1000000, .int 0, .int 0, .null, .int 0, .null, .int 0])), (b1, .inl (cL, ((2049 : Int32).toNatClampNeg), .inr (.inl (fun _ => 0)))), (b2, .inl (cL, ((512 : Int32).toNatClampNeg), .inr (.inl (fun _ => 0)))), (b3, .inl (cL, ((0 : Int32).toNatClampNeg), .inr (.inl (fun _ => 0)))), (b4, .inl (cL, ((2048 : Int32).toNatClampNeg), .inr (.inl (fun _ => 0))))] H := hP
  have hD : va_D A [(o_Heap, .inr (3, [.null, .ref b1, .int 0, .ref b2, .int 0, .ref b3, .int 0, .int 0, .int 0, .int 65536, .int 1000000, .int 0, .int 0, .int 1000000, .int 0, .int 0, .null, .int 0, .null, .int 0])), (b1, .inl (cL, ((2049 : Int32).toNatClampNeg), .inr (.inl (fun _ => 0)))), (b2, .inl (cL, ((512 : Int32).toNatClampNeg), .inr (.inl (fun _ => 0)))), (b3, .inl (cL, ((0 : Int32).toNatClampNeg), .inr (.inl (fun _ => 0)))), (b4, .inl (cL, ((2048 : Int32).toNatClampNeg), .inr (.inl (fun _ => 0))))] := hD
  refine va_putF (D := (dC, dI)) (ci := 3) (v := .ref b4) (ty := .array .long) (C := R_Heap) (T := F_Heap) (N := 20) hx hb hg i_Heap t_Heap t_Heap_ok n_Heap hown hK hP hD hS 0 rfl rfl 16 (by decide) (hg _ k152) (fun _ h9 => h9) rfl hin rfl (by decide +kernel) rfl rfl (Nat.le_of_ble_eq_true rfl) d_Heap_init_53 (fun H locs hP hD hS => ?_)
  have hP : va_P (dC, dI) classes [(o_Heap, .inr (3, [.null, .ref b1, .int 0, .ref b2, .int 0, .ref b3, .int 0, .int 0, .int 0, .int 65536, .int 1000000, .int 0, .int 0, .int 1000000, .int 0, .int 0, .ref b4, .int 0, .null, .int 0])), (b1, .inl (cL, ((2049 : Int32).toNatClampNeg), .inr (.inl (fun _ => 0)))), (b2, .inl (cL, ((512 : Int32).toNatClampNeg), .inr (.inl (fun _ => 0)))), (b3, .inl (cL, ((0 : Int32).toNatClampNeg), .inr (.inl (fun _ => 0)))), (b4, .inl (cL, ((2048 : Int32).toNatClampNeg), .inr (.inl (fun _ => 0))))] H := hP
  have hD : va_D A [(o_Heap, .inr (3, [.null, .ref b1, .int 0, .ref b2, .int 0, .ref b3, .int 0, .int 0, .int 0, .int 65536, .int 1000000, .int 0, .int 0, .int 1000000, .int 0, .int 0, .ref b4, .int 0, .null, .int 0])), (b1, .inl (cL, ((2049 : Int32).toNatClampNeg), .inr (.inl (fun _ => 0)))), (b2, .inl (cL, ((512 : Int32).toNatClampNeg), .inr (.inl (fun _ => 0)))), (b3, .inl (cL, ((0 : Int32).toNatClampNeg), .inr (.inl (fun _ => 0)))), (b4, .inl (cL, ((2048 : Int32).toNatClampNeg), .inr (.inl (fun _ => 0))))] := hD
  refine lv_aload_n hx hb d_Heap_init_56 rfl (lv_at hl 0 rfl) ?_
  refine lv_iconst (v := 0) hx hb d_Heap_init_57 (by decide) ?_
  obtain ⟨i5, h⟩ := dz_oi h
  obtain ⟨z, h, hG⟩ := dz_tkG h hG
  refine va_newa (D := (dC, dI)) (atype := .long) (N' := (0 : Int32).toNatClampNeg) (a0 := ((0 : Int32).toNatClampNeg, .inr (.inl (fun _ => 0)))) hx hb (hg _ k17) (ty := .long) rfl hK hP hD hS hA (fun _ => rfl) (fun q => i5 (Or.inl q)) rfl (by show _ * 8 ≤ 536870912; have := fun q => i5 (Or.inr q); omega) (dz_Gc hG) (dz_Gs hG) d_Heap_init_58 (fun b5 cA H hK hP hD hS => ?_)
  have hcc : cL = cA := Option.some.inj (((hK.2 0 _ rfl).2).symm.trans (hK.2 1 _ rfl).2)
  subst hcc
  have hK := hK.sub (tys' := [(cL, .long)]) [0] rfl
  have hP : va_P (dC, dI) classes [(o_Heap, .inr (3, [.null, .ref b1, .int 0, .ref b2, .int 0, .ref b3, .int 0, .int 0, .int 0, .int 65536, .int 1000000, .int 0, .int 0, .int 1000000, .int 0, .int 0, .ref b4, .int 0, .null, .int 0])), (b1, .inl (cL, ((2049 : Int32).toNatClampNeg), .inr (.inl (fun _ => 0)))), (b2, .inl (cL, ((512 : Int32).toNatClampNeg), .inr (.inl (fun _ => 0)))), (b3, .inl (cL, ((0 : Int32).toNatClampNeg), .inr (.inl (fun _ => 0)))), (b4, .inl (cL, ((2048 : Int32).toNatClampNeg), .inr (.inl (fun _ => 0)))), (b5, .inl (cL, ((0 : Int32).toNatClampNeg), .inr (.inl (fun _ => 0))))] H := hP
  have hD : va_D A [(o_Heap, .inr (3, [.null, .ref b1, .int 0, .ref b2, .int 0, .ref b3, .int 0, .int 0, .int 0, .int 65536, .int 1000000, .int 0, .int 0, .int 1000000, .int 0, .int 0, .ref b4, .int 0, .null, .int 0])), (b1, .inl (cL, ((2049 : Int32).toNatClampNeg), .inr (.inl (fun _ => 0)))), (b2, .inl (cL, ((512 : Int32).toNatClampNeg), .inr (.inl (fun _ => 0)))), (b3, .inl (cL, ((0 : Int32).toNatClampNeg), .inr (.inl (fun _ => 0)))), (b4, .inl (cL, ((2048 : Int32).toNatClampNeg), .inr (.inl (fun _ => 0)))), (b5, .inl (cL, ((0 : Int32).toNatClampNeg), .inr (.inl (fun _ => 0))))] := hD
  refine va_put (D := (dC, dI)) (ci := 3) (v := .ref b5) (ty := .array .long) (C := R_Heap) (T := F_Heap) (N := 20) hx hb hg i_Heap t_Heap t_Heap_ok n_Heap hown hK hP hD hS 0 rfl rfl 18 (by decide) (hg _ k154) (fun _ h9 => h9) rfl (by decide +kernel) rfl rfl (Nat.le_of_ble_eq_true rfl) d_Heap_init_60 (fun H locs hP hD hS => ?_)
  have hP : va_P (dC, dI) classes [(o_Heap, .inr (3, [.null, .ref b1, .int 0, .ref b2, .int 0, .ref b3, .int 0, .int 0, .int 0, .int 65536, .int 1000000, .int 0, .int 0, .int 1000000, .int 0, .int 0, .ref b4, .int 0, .ref b5, .int 0])), (b1, .inl (cL, ((2049 : Int32).toNatClampNeg), .inr (.inl (fun _ => 0)))), (b2, .inl (cL, ((512 : Int32).toNatClampNeg), .inr (.inl (fun _ => 0)))), (b3, .inl (cL, ((0 : Int32).toNatClampNeg), .inr (.inl (fun _ => 0)))), (b4, .inl (cL, ((2048 : Int32).toNatClampNeg), .inr (.inl (fun _ => 0)))), (b5, .inl (cL, ((0 : Int32).toNatClampNeg), .inr (.inl (fun _ => 0))))] H := hP
  have hD : va_D A [(o_Heap, .inr (3, [.null, .ref b1, .int 0, .ref b2, .int 0, .ref b3, .int 0, .int 0, .int 0, .int 65536, .int 1000000, .int 0, .int 0, .int 1000000, .int 0, .int 0, .ref b4, .int 0, .ref b5, .int 0])), (b1, .inl (cL, ((2049 : Int32).toNatClampNeg), .inr (.inl (fun _ => 0)))), (b2, .inl (cL, ((512 : Int32).toNatClampNeg), .inr (.inl (fun _ => 0)))), (b3, .inl (cL, ((0 : Int32).toNatClampNeg), .inr (.inl (fun _ => 0)))), (b4, .inl (cL, ((2048 : Int32).toNatClampNeg), .inr (.inl (fun _ => 0)))), (b5, .inl (cL, ((0 : Int32).toNatClampNeg), .inr (.inl (fun _ => 0))))] := hD
  refine lv_aload_n hx hb d_Heap_init_63 rfl (lv_at hl 0 rfl) ?_
  refine lv_aload_n hx hb d_Heap_init_64 rfl (lv_at hl 1 rfl) ?_
  refine va_putF (D := (dC, dI)) (ci := 3) (v := .ref o_Stacks) (ty := .object "CellEngine$Stacks") (C := R_Heap) (T := F_Heap) (N := 20) hx hb hg i_Heap t_Heap t_Heap_ok n_Heap hown hK hP hD hS 0 rfl rfl 0 (by decide) (hg _ k156) (fun _ h9 => h9) rfl hin rfl (by decide +kernel) rfl rfl (Nat.le_of_ble_eq_true rfl) d_Heap_init_65 (fun H locs hP hD hS => ?_)
  have hP : va_P (dC, dI) classes [(o_Heap, .inr (3, [.ref o_Stacks, .ref b1, .int 0, .ref b2, .int 0, .ref b3, .int 0, .int 0, .int 0, .int 65536, .int 1000000, .int 0, .int 0, .int 1000000, .int 0, .int 0, .ref b4, .int 0, .ref b5, .int 0])), (b1, .inl (cL, ((2049 : Int32).toNatClampNeg), .inr (.inl (fun _ => 0)))), (b2, .inl (cL, ((512 : Int32).toNatClampNeg), .inr (.inl (fun _ => 0)))), (b3, .inl (cL, ((0 : Int32).toNatClampNeg), .inr (.inl (fun _ => 0)))), (b4, .inl (cL, ((2048 : Int32).toNatClampNeg), .inr (.inl (fun _ => 0)))), (b5, .inl (cL, ((0 : Int32).toNatClampNeg), .inr (.inl (fun _ => 0))))] H := hP
  have hD : va_D A [(o_Heap, .inr (3, [.ref o_Stacks, .ref b1, .int 0, .ref b2, .int 0, .ref b3, .int 0, .int 0, .int 0, .int 65536, .int 1000000, .int 0, .int 0, .int 1000000, .int 0, .int 0, .ref b4, .int 0, .ref b5, .int 0])), (b1, .inl (cL, ((2049 : Int32).toNatClampNeg), .inr (.inl (fun _ => 0)))), (b2, .inl (cL, ((512 : Int32).toNatClampNeg), .inr (.inl (fun _ => 0)))), (b3, .inl (cL, ((0 : Int32).toNatClampNeg), .inr (.inl (fun _ => 0)))), (b4, .inl (cL, ((2048 : Int32).toNatClampNeg), .inr (.inl (fun _ => 0)))), (b5, .inl (cL, ((0 : Int32).toNatClampNeg), .inr (.inl (fun _ => 0))))] := hD
  obtain rfl := Option.some.inj h
  have hP9 := hP.sub (ws' := [(o_Heap, .inr (3, [.ref o_Stacks, .ref b1, .int 0, .ref b2, .int 0, .ref b3, .int 0, .int 0, .int 0, .int 65536, .int 1000000, .int 0, .int 0, .int 1000000, .int 0, .int 0, .ref b4, .int 0, .ref b5, .int 0])), (b1, .inl (cL, ((2049 : Int32).toNatClampNeg), .inr (.inl (fun _ => 0)))), (b2, .inl (cL, ((512 : Int32).toNatClampNeg), .inr (.inl (fun _ => 0)))), (b3, .inl (cL, ((0 : Int32).toNatClampNeg), .inr (.inl (fun _ => 0)))), (b4, .inl (cL, ((2048 : Int32).toNatClampNeg), .inr (.inl (fun _ => 0)))), (b5, .inl (cL, ((0 : Int32).toNatClampNeg), .inr (.inl (fun _ => 0))))]) [0, 1, 2, 3, 4, 5] rfl
  have hD9 := hD.sub (ws' := [(o_Heap, .inr (3, [.ref o_Stacks, .ref b1, .int 0, .ref b2, .int 0, .ref b3, .int 0, .int 0, .int 0, .int 65536, .int 1000000, .int 0, .int 0, .int 1000000, .int 0, .int 0, .ref b4, .int 0, .ref b5, .int 0])), (b1, .inl (cL, ((2049 : Int32).toNatClampNeg), .inr (.inl (fun _ => 0)))), (b2, .inl (cL, ((512 : Int32).toNatClampNeg), .inr (.inl (fun _ => 0)))), (b3, .inl (cL, ((0 : Int32).toNatClampNeg), .inr (.inl (fun _ => 0)))), (b4, .inl (cL, ((2048 : Int32).toNatClampNeg), .inr (.inl (fun _ => 0)))), (b5, .inl (cL, ((0 : Int32).toNatClampNeg), .inr (.inl (fun _ => 0))))]) [0, 1, 2, 3, 4, 5] (by decide) rfl
  have hK9 := hK.sub (tys' := [(cL, .long)]) [0] rfl
  refine W.widen (dz_Gc hG) (dz_Gs hG) ?_
  obtain ⟨rfl, -, -⟩ := hG
  exact W.vret hx hb hr (fun t ht hW => ⟨⟨(b1, b2, b3, b4, b5), rfl, trivial, by rw [ht]; exact hP9, va_K.moved hW.alike hK9, hD9⟩, hS.F ht⟩) hS.2.2 d_Heap_init_68

set_option maxHeartbeats 4000000 in
set_option maxRecDepth 100000 in
theorem c_Objects_init (l : Launch) (dC : Nat → ClassId) (dI : Nat → Nat → Nat) (N : Nat) (o_Objects : Nat) (o_Program : Nat) (o_Stacks : Nat) (o_Heap : Nat) (sz : Nat) (Z1 : Int32) (Zc Zs : Nat) (h : m_Objects_init N = some (Z1, Zc, Zs)) : Met l y_Objects_init (.code y_Objects_init b_Objects_init 4 none :: lw_g) ({ frames := 1, cells := Zc, slots := Zs, locals := 20 }) (va_Pc [.ref o_Objects, .ref o_Program, .ref o_Stacks, .ref o_Heap] (fun U => dz_N U ∧ U.heap.size = sz ∧ va_P (dC, dI) classes [(o_Objects, .inr (4, [.null, .null, .null, .int 0]))] U.heap ∧ va_K (dC, dI) classes [] U ∧ va_D (fun _ => True) [(o_Objects, .inr (4, [.null, .null, .null, .int 0]))])) (va_Qv (fun (_ : Unit) => True) (fun (u : Unit) t => va_P (dC, dI) classes [(o_Objects, .inr (4, [.ref o_Program, .ref o_Stacks, .ref o_Heap, .int Z1]))] t.heap ∧ va_K (dC, dI) classes [] t ∧ va_D (va_A [(o_Objects, .inr (4, [.null, .null, .null, .int 0]))] sz) [(o_Objects, .inr (4, [.ref o_Program, .ref o_Stacks, .ref o_Heap, .int Z1]))]) (va_A [(o_Objects, .inr (4, [.null, .null, .null, .int 0]))] sz)) Zc Zs (va_A [(o_Objects, .inr (4, [.null, .null, .null, .int 0]))] sz) := by
  refine Met.ofW (cc := b_Objects_init) (maxL := 4) (ret := none) (by decide +kernel) rfl ?_
  intro p e s m args below meth c s₁ B hml hv
  obtain ⟨rfl, hN, hsz, hP, hK, hD0⟩ := hv
  have hx := B.exec
  have hb := B.bytes
  have hr := B.returns
  have hg : ∀ w ∈ lw_g, w.before _ s = true := fun w hw => atoms_spec (ws := .code y_Objects_init b_Objects_init 4 none :: lw_g) B.pre w (List.mem_cons_of_mem _ hw)
  have hown : s.vm.findClass R_Objects = some m.cls := findClass_of_methodNamed B.named
  have hlocks := B.notSynchronized
  have hin : meth.name = "<init>" := (name_of_methodNamed B.named B.method).1
  clear B
  subst hsz
  have hD := hD0.self (sz := s.heap.size)
  generalize hAe : va_A [(o_Objects, .inr (4, [.null, .null, .null, .int 0]))] s.heap.size = A at hD ⊢
  have hA : ∀ q : Nat, s.heap.size ≤ q → A q := fun q h => by rw [← hAe]; exact Or.inr h
  have hS : va_S A s.heap s.heap [] := va_S.rf
  have hP : va_P (dC, dI) classes [(o_Objects, .inr (4, [.null, .null, .null, .int 0]))] s.heap := hP
  have hl := lv_entry ([.ref o_Objects, .ref o_Program, .ref o_Stacks, .ref o_Heap]) (n := 4) (Nat.le_of_ble_eq_true rfl)
  rw [lg_entry_eq]
  generalize (lg_sl ([.ref o_Objects, .ref o_Program, .ref o_Stacks, .ref o_Heap]) ++ List.replicate (4 - (lg_sl ([.ref o_Objects, .ref o_Program, .ref o_Stacks, .ref o_Heap])).length) Slot.unset).toArray = ls at hl ⊢
  have hl : lv_has ls 4 [(0, .ref o_Objects), (1, .ref o_Program), (2, .ref o_Stacks), (3, .ref o_Heap)] := hl
  unfold m_Objects_init at h
  have hG : dz_G Z1 Zc Zs (Z1, Zc, Zs) 0 0 := ⟨rfl, (Nat.zero_add _).symm, (Nat.zero_add _).symm⟩
  generalize (Z1, Zc, Zs) = z at h hG
  refine lv_aload_n hx hb d_Objects_init_0 rfl (lv_at hl 0 rfl) ?_
  refine W.objInit hx hb hown (hg _ k1061) (hg _ k1054) (hg _ k1055) rfl (by rw [hml]; exact hl.1) rfl d_Objects_init_1 (Nat.le_of_ble_eq_true rfl) (Nat.le_of_ble_eq_true rfl) ?_
  refine W.eq (g2 := F0 m 4 ls []) rfl ?_
  refine lv_aload_n hx hb d_Objects_init_4 rfl (lv_at hl 0 rfl) ?_
  refine lv_aload_n hx hb d_Objects_init_5 rfl (lv_at hl 1 rfl) ?_
  refine va_putF (D := (dC, dI)) (ci := 4) (v := .ref o_Program) (ty := .object "CellEngine$Program") (C := R_Objects) (T := F_Objects) (N := 4) hx hb hg i_Objects t_Objects t_Objects_ok n_Objects hown hK hP hD hS 0 rfl rfl 0 (by decide) (hg _ k181) (fun _ h9 => h9) rfl hin rfl (by decide +kernel) rfl rfl (Nat.le_of_ble_eq_true rfl) d_Objects_init_6 (fun H locs hP hD hS => ?_)
  have hP : va_P (dC, dI) classes [(o_Objects, .inr (4, [.ref o_Program, .null, .null, .int 0]))] H := hP
  have hD : va_D A [(o_Objects, .inr (4, [.ref o_Program, .null, .null, .int 0]))] := hD
  refine lv_aload_n hx hb d_Objects_init_9 rfl (lv_at hl 0 rfl) ?_
  refine lv_aload_n hx hb d_Objects_init_10 rfl (lv_at hl 2 rfl) ?_
  refine va_putF (D := (dC, dI)) (ci := 4) (v := .ref o_Stacks) (ty := .object "CellEngine$Stacks") (C := R_Objects) (T := F_Objects) (N := 4) hx hb hg i_Objects t_Objects t_Objects_ok n_Objects hown hK hP hD hS 0 rfl rfl 1 (by decide) (hg _ k184) (fun _ h9 => h9) rfl hin rfl (by decide +kernel) rfl rfl (Nat.le_of_ble_eq_true rfl) d_Objects_init_11 (fun H locs hP hD hS => ?_)
  have hP : va_P (dC, dI) classes [(o_Objects, .inr (4, [.ref o_Program, .ref o_Stacks, .null, .int 0]))] H := hP
  have hD : va_D A [(o_Objects, .inr (4, [.ref o_Program, .ref o_Stacks, .null, .int 0]))] := hD
  refine lv_aload_n hx hb d_Objects_init_14 rfl (lv_at hl 0 rfl) ?_
  refine lv_aload_n hx hb d_Objects_init_15 rfl (lv_at hl 3 rfl) ?_
  refine va_putF (D := (dC, dI)) (ci := 4) (v := .ref o_Heap) (ty := .object "CellEngine$Heap") (C := R_Objects) (T := F_Objects) (N := 4) hx hb hg i_Objects t_Objects t_Objects_ok n_Objects hown hK hP hD hS 0 rfl rfl 2 (by decide) (hg _ k185) (fun _ h9 => h9) rfl hin rfl (by decide +kernel) rfl rfl (Nat.le_of_ble_eq_true rfl) d_Objects_init_16 (fun H locs hP hD hS => ?_)
  have hP : va_P (dC, dI) classes [(o_Objects, .inr (4, [.ref o_Program, .ref o_Stacks, .ref o_Heap, .int 0]))] H := hP
  have hD : va_D A [(o_Objects, .inr (4, [.ref o_Program, .ref o_Stacks, .ref o_Heap, .int 0]))] := hD
  obtain rfl := Option.some.inj h
  have hP9 := hP.sub (ws' := [(o_Objects, .inr (4, [.ref o_Program, .ref o_Stacks, .ref o_Heap, .int 0]))]) [0] rfl
  have hD9 := hD.sub (ws' := [(o_Objects, .inr (4, [.ref o_Program, .ref o_Stacks, .ref o_Heap, .int 0]))]) [0] (by decide) rfl
  have hK9 := hK.sub (tys' := []) [] rfl
  refine W.widen (dz_Gc hG) (dz_Gs hG) ?_
  obtain ⟨rfl, -, -⟩ := hG
  exact W.vret hx hb hr (fun t ht hW => ⟨⟨(), rfl, trivial, by rw [ht]; exact hP9, va_K.moved hW.alike hK9, hD9⟩, hS.F ht⟩) hS.2.2 d_Objects_init_19

set_option maxHeartbeats 4000000 in
set_option maxRecDepth 100000 in
theorem c_Equality_init (l : Launch) (dC : Nat → ClassId) (dI : Nat → Nat → Nat) (N : Nat) (cI : ClassId) (cL : ClassId) (o_Equality : Nat) (o_Heap : Nat) (sz : Nat) (Z1 : Nat × (Nat → Int32) × Nat × (Nat → Int64) × Int32) (Zc Zs : Nat) (h : m_Equality_init N = some (Z1, Zc, Zs)) : Met l y_Equality_init (.code y_Equality_init b_Equality_init 2 none :: lw_g) ({ frames := 1, cells := Zc, slots := Zs, locals := 20 }) (va_Pc [.ref o_Equality, .ref o_Heap] (fun U => dz_N U ∧ U.heap.size = sz ∧ va_P (dC, dI) classes [(o_Equality, .inr (5, [.null, .null, .null, .int 0]))] U.heap ∧ va_K (dC, dI) classes [(cI, .int), (cL, .long)] U ∧ va_D (fun _ => True) [(o_Equality, .inr (5, [.null, .null, .null, .int 0]))])) (va_Qv (fun (_ : Nat × Nat) => True) (fun (u : Nat × Nat) t => va_P (dC, dI) classes [(o_Equality, .inr (5, [.ref o_Heap, .ref u.1, .ref u.2, .int Z1.2.2.2.2])), (u.1, .inl (cI, Z1.1, .inl Z1.2.1)), (u.2, .inl (cL, Z1.2.2.1, .inr (.inl Z1.2.2.2.1)))] t.heap ∧ va_K (dC, dI) classes [(cI, .int), (cL, .long)] t ∧ va_D (va_A [(o_Equality, .inr (5, [.null, .null, .null, .int 0]))] sz) [(o_Equality, .inr (5, [.ref o_Heap, .ref u.1, .ref u.2, .int Z1.2.2.2.2])), (u.1, .inl (cI, Z1.1, .inl Z1.2.1)), (u.2, .inl (cL, Z1.2.2.1, .inr (.inl Z1.2.2.2.1)))]) (va_A [(o_Equality, .inr (5, [.null, .null, .null, .int 0]))] sz)) Zc Zs (va_A [(o_Equality, .inr (5, [.null, .null, .null, .int 0]))] sz) := by
  refine Met.ofW (cc := b_Equality_init) (maxL := 2) (ret := none) (by decide +kernel) rfl ?_
  intro p e s m args below meth c s₁ B hml hv
  obtain ⟨rfl, hN, hsz, hP, hK, hD0⟩ := hv
  have hx := B.exec
  have hb := B.bytes
  have hr := B.returns
  have hg : ∀ w ∈ lw_g, w.before _ s = true := fun w hw => atoms_spec (ws := .code y_Equality_init b_Equality_init 2 none :: lw_g) B.pre w (List.mem_cons_of_mem _ hw)
  have hown : s.vm.findClass R_Equality = some m.cls := findClass_of_methodNamed B.named
  have hlocks := B.notSynchronized
  have hin : meth.name = "<init>" := (name_of_methodNamed B.named B.method).1
  clear B
  subst hsz
  have hD := hD0.self (sz := s.heap.size)
  generalize hAe : va_A [(o_Equality, .inr (5, [.null, .null, .null, .int 0]))] s.heap.size = A at hD ⊢
  have hA : ∀ q : Nat, s.heap.size ≤ q → A q := fun q h => by rw [← hAe]; exact Or.inr h
  have hS : va_S A s.heap s.heap [] := va_S.rf
  have hP : va_P (dC, dI) classes [(o_Equality, .inr (5, [.null, .null, .null, .int 0]))] s.heap := hP
  have hl := lv_entry ([.ref o_Equality, .ref o_Heap]) (n := 2) (Nat.le_of_ble_eq_true rfl)
  rw [lg_entry_eq]
  generalize (lg_sl ([.ref o_Equality, .ref o_Heap]) ++ List.replicate (2 - (lg_sl ([.ref o_Equality, .ref o_Heap])).length) Slot.unset).toArray = ls at hl ⊢
  have hl : lv_has ls 2 [(0, .ref o_Equality), (1, .ref o_Heap)] := hl
  unfold m_Equality_init at h
  have hG : dz_G Z1 Zc Zs (Z1, Zc, Zs) 0 0 := ⟨rfl, (Nat.zero_add _).symm, (Nat.zero_add _).symm⟩
  generalize (Z1, Zc, Zs) = z at h hG
  refine lv_aload_n hx hb d_Equality_init_0 rfl (lv_at hl 0 rfl) ?_
  refine W.objInit hx hb hown (hg _ k1062) (hg _ k1054) (hg _ k1055) rfl (by rw [hml]; exact hl.1) rfl d_Equality_init_1 (Nat.le_of_ble_eq_true rfl) (Nat.le_of_ble_eq_true rfl) ?_
  refine W.eq (g2 := F0 m 4 ls []) rfl ?_
  refine lv_aload_n hx hb d_Equality_init_4 rfl (lv_at hl 0 rfl) ?_
  refine lv_iconst (v := 0) hx hb d_Equality_init_5 (by decide) ?_
  obtain ⟨i1, h⟩ := dz_oi h
  obtain ⟨z, h, hG⟩ := dz_tkG h hG
  refine va_newa (D := (dC, dI)) (atype := .int) (N' := (0 : Int32).toNatClampNeg) (a0 := ((0 : Int32).toNatClampNeg, .inl (fun _ => 0))) hx hb (hg _ k11) (ty := .int) rfl hK hP hD hS hA (fun _ => rfl) (fun q => i1 (Or.inl q)) rfl (by show _ * 4 ≤ 536870912; have := fun q => i1 (Or.inr q); omega) (dz_Gc hG) (dz_Gs hG) d_Equality_init_6 (fun b1 cA H hK hP hD hS => ?_)
  have hcc : cI = cA := Option.some.inj (((hK.2 0 _ rfl).2).symm.trans (hK.2 2 _ rfl).2)
  subst hcc
  have hK := hK.sub (tys' := [(cI, .int), (cL, .long)]) [0, 1] rfl
  have hP : va_P (dC, dI) classes [(o_Equality, .inr (5, [.null, .null, .null, .int 0])), (b1, .inl (cI, ((0 : Int32).toNatClampNeg), .inl (fun _ => 0)))] H := hP
  have hD : va_D A [(o_Equality, .inr (5, [.null, .null, .null, .int 0])), (b1, .inl (cI, ((0 : Int32).toNatClampNeg), .inl (fun _ => 0)))] := hD
  refine va_put (D := (dC, dI)) (ci := 5) (v := .ref b1) (ty := .array .int) (C := R_Equality) (T := F_Equality) (N := 4) hx hb hg i_Equality t_Equality t_Equality_ok n_Equality hown hK hP hD hS 0 rfl rfl 1 (by decide) (hg _ k262) (fun _ h9 => h9) rfl (by decide +kernel) rfl rfl (Nat.le_of_ble_eq_true rfl) d_Equality_init_8 (fun H locs hP hD hS => ?_)
  have hP : va_P (dC, dI) classes [(o_Equality, .inr (5, [.null, .ref b1, .null, .int 0])), (b1, .inl (cI, ((0 : Int32).toNatClampNeg), .inl (fun _ => 0)))] H := hP
  have hD : va_D A [(o_Equality, .inr (5, [.null, .ref b1, .null, .int 0])), (b1, .inl (cI, ((0 : Int32).toNatClampNeg), .inl (fun _ => 0)))] := hD
  refine lv_aload_n hx hb d_Equality_init_11 rfl (lv_at hl 0 rfl) ?_
  refine lv_bipush (v := 16) hx hb d_Equality_init_12 (by decide) ?_
  obtain ⟨i2, h⟩ := dz_oi h
  obtain ⟨z, h, hG⟩ := dz_tkG h hG
  refine va_newa (D := (dC, dI)) (atype := .long) (N' := (16 : Int32).toNatClampNeg) (a0 := ((16 : Int32).toNatClampNeg, .inr (.inl (fun _ => 0)))) hx hb (hg _ k17) (ty := .long) rfl hK hP hD hS hA (fun _ => rfl) (fun q => i2 (Or.inl q)) rfl (by show _ * 8 ≤ 536870912; have := fun q => i2 (Or.inr q); omega) (dz_Gc hG) (dz_Gs hG) d_Equality_init_14 (fun b2 cA H hK hP hD hS => ?_)
  have hcc : cL = cA := Option.some.inj (((hK.2 1 _ rfl).2).symm.trans (hK.2 2 _ rfl).2)
  subst hcc
  have hK := hK.sub (tys' := [(cI, .int), (cL, .long)]) [0, 1] rfl
  have hP : va_P (dC, dI) classes [(o_Equality, .inr (5, [.null, .ref b1, .null, .int 0])), (b1, .inl (cI, ((0 : Int32).toNatClampNeg), .inl (fun _ => 0))), (b2, .inl (cL, ((16 : Int32).toNatClampNeg), .inr (.inl (fun _ => 0))))] H := hP
  have hD : va_D A [(o_Equality, .inr (5, [.null, .ref b1, .null, .int 0])), (b1, .inl (cI, ((0 : Int32).toNatClampNeg), .inl (fun _ => 0))), (b2, .inl (cL, ((16 : Int32).toNatClampNeg), .inr (.inl (fun _ => 0))))] := hD
  refine va_put (D := (dC, dI)) (ci := 5) (v := .ref b2) (ty := .array .long) (C := R_Equality) (T := F_Equality) (N := 4) hx hb hg i_Equality t_Equality t_Equality_ok n_Equality hown hK hP hD hS 0 rfl rfl 2 (by decide) (hg _ k264) (fun _ h9 => h9) rfl (by decide +kernel) rfl rfl (Nat.le_of_ble_eq_true rfl) d_Equality_init_16 (fun H locs hP hD hS => ?_)
  have hP : va_P (dC, dI) classes [(o_Equality, .inr (5, [.null, .ref b1, .ref b2, .int 0])), (b1, .inl (cI, ((0 : Int32).toNatClampNeg), .inl (fun _ => 0))), (b2, .inl (cL, ((16 : Int32).toNatClampNeg), .inr (.inl (fun _ => 0))))] H := hP
  have hD : va_D A [(o_Equality, .inr (5, [.null, .ref b1, .ref b2, .int 0])), (b1, .inl (cI, ((0 : Int32).toNatClampNeg), .inl (fun _ => 0))), (b2, .inl (cL, ((16 : Int32).toNatClampNeg), .inr (.inl (fun _ => 0))))] := hD
  refine lv_aload_n hx hb d_Equality_init_19 rfl (lv_at hl 0 rfl) ?_
  refine lv_aload_n hx hb d_Equality_init_20 rfl (lv_at hl 1 rfl) ?_
  refine va_putF (D := (dC, dI)) (ci := 5) (v := .ref o_Heap) (ty := .object "CellEngine$Heap") (C := R_Equality) (T := F_Equality) (N := 4) hx hb hg i_Equality t_Equality t_Equality_ok n_Equality hown hK hP hD hS 0 rfl rfl 0 (by decide) (hg _ k266) (fun _ h9 => h9) rfl hin rfl (by decide +kernel) rfl rfl (Nat.le_of_ble_eq_true rfl) d_Equality_init_21 (fun H locs hP hD hS => ?_)
  have hP : va_P (dC, dI) classes [(o_Equality, .inr (5, [.ref o_Heap, .ref b1, .ref b2, .int 0])), (b1, .inl (cI, ((0 : Int32).toNatClampNeg), .inl (fun _ => 0))), (b2, .inl (cL, ((16 : Int32).toNatClampNeg), .inr (.inl (fun _ => 0))))] H := hP
  have hD : va_D A [(o_Equality, .inr (5, [.ref o_Heap, .ref b1, .ref b2, .int 0])), (b1, .inl (cI, ((0 : Int32).toNatClampNeg), .inl (fun _ => 0))), (b2, .inl (cL, ((16 : Int32).toNatClampNeg), .inr (.inl (fun _ => 0))))] := hD
  obtain rfl := Option.some.inj h
  have hP9 := hP.sub (ws' := [(o_Equality, .inr (5, [.ref o_Heap, .ref b1, .ref b2, .int 0])), (b1, .inl (cI, ((0 : Int32).toNatClampNeg), .inl (fun _ => 0))), (b2, .inl (cL, ((16 : Int32).toNatClampNeg), .inr (.inl (fun _ => 0))))]) [0, 1, 2] rfl
  have hD9 := hD.sub (ws' := [(o_Equality, .inr (5, [.ref o_Heap, .ref b1, .ref b2, .int 0])), (b1, .inl (cI, ((0 : Int32).toNatClampNeg), .inl (fun _ => 0))), (b2, .inl (cL, ((16 : Int32).toNatClampNeg), .inr (.inl (fun _ => 0))))]) [0, 1, 2] (by decide) rfl
  have hK9 := hK.sub (tys' := [(cI, .int), (cL, .long)]) [0, 1] rfl
  refine W.widen (dz_Gc hG) (dz_Gs hG) ?_
  obtain ⟨rfl, -, -⟩ := hG
  exact W.vret hx hb hr (fun t ht hW => ⟨⟨(b1, b2), rfl, trivial, by rw [ht]; exact hP9, va_K.moved hW.alike hK9, hD9⟩, hS.F ht⟩) hS.2.2 d_Equality_init_24

set_option maxHeartbeats 4000000 in
set_option maxRecDepth 100000 in
theorem c_Numbers_init (l : Launch) (dC : Nat → ClassId) (dI : Nat → Nat → Nat) (N : Nat) (o_Numbers : Nat) (o_Stacks : Nat) (sz : Nat) (Z1 : Unit) (Zc Zs : Nat) (h : m_Numbers_init N = some (Z1, Zc, Zs)) : Met l y_Numbers_init (.code y_Numbers_init b_Numbers_init 2 none :: lw_g) ({ frames := 1, cells := Zc, slots := Zs, locals := 20 }) (va_Pc [.ref o_Numbers, .ref o_Stacks] (fun U => dz_N U ∧ U.heap.size = sz ∧ va_P (dC, dI) classes [(o_Numbers, .inr (6, [.null]))] U.heap ∧ va_K (dC, dI) classes [] U ∧ va_D (fun _ => True) [(o_Numbers, .inr (6, [.null]))])) (va_Qv (fun (_ : Unit) => True) (fun (u : Unit) t => va_P (dC, dI) classes [(o_Numbers, .inr (6, [.ref o_Stacks]))] t.heap ∧ va_K (dC, dI) classes [] t ∧ va_D (va_A [(o_Numbers, .inr (6, [.null]))] sz) [(o_Numbers, .inr (6, [.ref o_Stacks]))]) (va_A [(o_Numbers, .inr (6, [.null]))] sz)) Zc Zs (va_A [(o_Numbers, .inr (6, [.null]))] sz) := by
  refine Met.ofW (cc := b_Numbers_init) (maxL := 2) (ret := none) (by decide +kernel) rfl ?_
  intro p e s m args below meth c s₁ B hml hv
  obtain ⟨rfl, hN, hsz, hP, hK, hD0⟩ := hv
  have hx := B.exec
  have hb := B.bytes
  have hr := B.returns
  have hg : ∀ w ∈ lw_g, w.before _ s = true := fun w hw => atoms_spec (ws := .code y_Numbers_init b_Numbers_init 2 none :: lw_g) B.pre w (List.mem_cons_of_mem _ hw)
  have hown : s.vm.findClass R_Numbers = some m.cls := findClass_of_methodNamed B.named
  have hlocks := B.notSynchronized
  have hin : meth.name = "<init>" := (name_of_methodNamed B.named B.method).1
  clear B
  subst hsz
  have hD := hD0.self (sz := s.heap.size)
  generalize hAe : va_A [(o_Numbers, .inr (6, [.null]))] s.heap.size = A at hD ⊢
  have hA : ∀ q : Nat, s.heap.size ≤ q → A q := fun q h => by rw [← hAe]; exact Or.inr h
  have hS : va_S A s.heap s.heap [] := va_S.rf
  have hP : va_P (dC, dI) classes [(o_Numbers, .inr (6, [.null]))] s.heap := hP
  have hl := lv_entry ([.ref o_Numbers, .ref o_Stacks]) (n := 2) (Nat.le_of_ble_eq_true rfl)
  rw [lg_entry_eq]
  generalize (lg_sl ([.ref o_Numbers, .ref o_Stacks]) ++ List.replicate (2 - (lg_sl ([.ref o_Numbers, .ref o_Stacks])).length) Slot.unset).toArray = ls at hl ⊢
  have hl : lv_has ls 2 [(0, .ref o_Numbers), (1, .ref o_Stacks)] := hl
  unfold m_Numbers_init at h
  have hG : dz_G Z1 Zc Zs (Z1, Zc, Zs) 0 0 := ⟨rfl, (Nat.zero_add _).symm, (Nat.zero_add _).symm⟩
  generalize (Z1, Zc, Zs) = z at h hG
  refine lv_aload_n hx hb d_Numbers_init_0 rfl (lv_at hl 0 rfl) ?_
  refine W.objInit hx hb hown (hg _ k1063) (hg _ k1054) (hg _ k1055) rfl (by rw [hml]; exact hl.1) rfl d_Numbers_init_1 (Nat.le_of_ble_eq_true rfl) (Nat.le_of_ble_eq_true rfl) ?_
  refine W.eq (g2 := F0 m 4 ls []) rfl ?_
  refine lv_aload_n hx hb d_Numbers_init_4 rfl (lv_at hl 0 rfl) ?_
  refine lv_aload_n hx hb d_Numbers_init_5 rfl (lv_at hl 1 rfl) ?_
  refine va_putF (D := (dC, dI)) (ci := 6) (v := .ref o_Stacks) (ty := .object "CellEngine$Stacks") (C := R_Numbers) (T := F_Numbers) (N := 1) hx hb hg i_Numbers t_Numbers t_Numbers_ok n_Numbers hown hK hP hD hS 0 rfl rfl 0 (by decide) (hg _ k294) (fun _ h9 => h9) rfl hin rfl (by decide +kernel) rfl rfl (Nat.le_of_ble_eq_true rfl) d_Numbers_init_6 (fun H locs hP hD hS => ?_)
  have hP : va_P (dC, dI) classes [(o_Numbers, .inr (6, [.ref o_Stacks]))] H := hP
  have hD : va_D A [(o_Numbers, .inr (6, [.ref o_Stacks]))] := hD
  obtain rfl := Option.some.inj h
  have hP9 := hP.sub (ws' := [(o_Numbers, .inr (6, [.ref o_Stacks]))]) [0] rfl
  have hD9 := hD.sub (ws' := [(o_Numbers, .inr (6, [.ref o_Stacks]))]) [0] (by decide) rfl
  have hK9 := hK.sub (tys' := []) [] rfl
  refine W.widen (dz_Gc hG) (dz_Gs hG) ?_
  obtain ⟨rfl, -, -⟩ := hG
  exact W.vret hx hb hr (fun t ht hW => ⟨⟨(), rfl, trivial, by rw [ht]; exact hP9, va_K.moved hW.alike hK9, hD9⟩, hS.F ht⟩) hS.2.2 d_Numbers_init_9

set_option maxHeartbeats 4000000 in
set_option maxRecDepth 100000 in
theorem c_Strings_init (l : Launch) (dC : Nat → ClassId) (dI : Nat → Nat → Nat) (N : Nat) (o_Strings : Nat) (o_Stacks : Nat) (o_Heap : Nat) (o_Output : Nat) (sz : Nat) (Z1 : Unit) (Zc Zs : Nat) (h : m_Strings_init N = some (Z1, Zc, Zs)) : Met l y_Strings_init (.code y_Strings_init b_Strings_init 4 none :: lw_g) ({ frames := 1, cells := Zc, slots := Zs, locals := 20 }) (va_Pc [.ref o_Strings, .ref o_Stacks, .ref o_Heap, .ref o_Output] (fun U => dz_N U ∧ U.heap.size = sz ∧ va_P (dC, dI) classes [(o_Strings, .inr (7, [.null, .null, .null]))] U.heap ∧ va_K (dC, dI) classes [] U ∧ va_D (fun _ => True) [(o_Strings, .inr (7, [.null, .null, .null]))])) (va_Qv (fun (_ : Unit) => True) (fun (u : Unit) t => va_P (dC, dI) classes [(o_Strings, .inr (7, [.ref o_Stacks, .ref o_Heap, .ref o_Output]))] t.heap ∧ va_K (dC, dI) classes [] t ∧ va_D (va_A [(o_Strings, .inr (7, [.null, .null, .null]))] sz) [(o_Strings, .inr (7, [.ref o_Stacks, .ref o_Heap, .ref o_Output]))]) (va_A [(o_Strings, .inr (7, [.null, .null, .null]))] sz)) Zc Zs (va_A [(o_Strings, .inr (7, [.null, .null, .null]))] sz) := by
  refine Met.ofW (cc := b_Strings_init) (maxL := 4) (ret := none) (by decide +kernel) rfl ?_
  intro p e s m args below meth c s₁ B hml hv
  obtain ⟨rfl, hN, hsz, hP, hK, hD0⟩ := hv
  have hx := B.exec
  have hb := B.bytes
  have hr := B.returns
  have hg : ∀ w ∈ lw_g, w.before _ s = true := fun w hw => atoms_spec (ws := .code y_Strings_init b_Strings_init 4 none :: lw_g) B.pre w (List.mem_cons_of_mem _ hw)
  have hown : s.vm.findClass R_Strings = some m.cls := findClass_of_methodNamed B.named
  have hlocks := B.notSynchronized
  have hin : meth.name = "<init>" := (name_of_methodNamed B.named B.method).1
  clear B
  subst hsz
  have hD := hD0.self (sz := s.heap.size)
  generalize hAe : va_A [(o_Strings, .inr (7, [.null, .null, .null]))] s.heap.size = A at hD ⊢
  have hA : ∀ q : Nat, s.heap.size ≤ q → A q := fun q h => by rw [← hAe]; exact Or.inr h
  have hS : va_S A s.heap s.heap [] := va_S.rf
  have hP : va_P (dC, dI) classes [(o_Strings, .inr (7, [.null, .null, .null]))] s.heap := hP
  have hl := lv_entry ([.ref o_Strings, .ref o_Stacks, .ref o_Heap, .ref o_Output]) (n := 4) (Nat.le_of_ble_eq_true rfl)
  rw [lg_entry_eq]
  generalize (lg_sl ([.ref o_Strings, .ref o_Stacks, .ref o_Heap, .ref o_Output]) ++ List.replicate (4 - (lg_sl ([.ref o_Strings, .ref o_Stacks, .ref o_Heap, .ref o_Output])).length) Slot.unset).toArray = ls at hl ⊢
  have hl : lv_has ls 4 [(0, .ref o_Strings), (1, .ref o_Stacks), (2, .ref o_Heap), (3, .ref o_Output)] := hl
  unfold m_Strings_init at h
  have hG : dz_G Z1 Zc Zs (Z1, Zc, Zs) 0 0 := ⟨rfl, (Nat.zero_add _).symm, (Nat.zero_add _).symm⟩
  generalize (Z1, Zc, Zs) = z at h hG
  refine lv_aload_n hx hb d_Strings_init_0 rfl (lv_at hl 0 rfl) ?_
  refine W.objInit hx hb hown (hg _ k1064) (hg _ k1054) (hg _ k1055) rfl (by rw [hml]; exact hl.1) rfl d_Strings_init_1 (Nat.le_of_ble_eq_true rfl) (Nat.le_of_ble_eq_true rfl) ?_
  refine W.eq (g2 := F0 m 4 ls []) rfl ?_
  refine lv_aload_n hx hb d_Strings_init_4 rfl (lv_at hl 0 rfl) ?_
  refine lv_aload_n hx hb d_Strings_init_5 rfl (lv_at hl 1 rfl) ?_
  refine va_putF (D := (dC, dI)) (ci := 7) (v := .ref o_Stacks) (ty := .object "CellEngine$Stacks") (C := R_Strings) (T := F_Strings) (N := 3) hx hb hg i_Strings t_Strings t_Strings_ok n_Strings hown hK hP hD hS 0 rfl rfl 0 (by decide) (hg _ k316) (fun _ h9 => h9) rfl hin rfl (by decide +kernel) rfl rfl (Nat.le_of_ble_eq_true rfl) d_Strings_init_6 (fun H locs hP hD hS => ?_)
  have hP : va_P (dC, dI) classes [(o_Strings, .inr (7, [.ref o_Stacks, .null, .null]))] H := hP
  have hD : va_D A [(o_Strings, .inr (7, [.ref o_Stacks, .null, .null]))] := hD
  refine lv_aload_n hx hb d_Strings_init_9 rfl (lv_at hl 0 rfl) ?_
  refine lv_aload_n hx hb d_Strings_init_10 rfl (lv_at hl 2 rfl) ?_
  refine va_putF (D := (dC, dI)) (ci := 7) (v := .ref o_Heap) (ty := .object "CellEngine$Heap") (C := R_Strings) (T := F_Strings) (N := 3) hx hb hg i_Strings t_Strings t_Strings_ok n_Strings hown hK hP hD hS 0 rfl rfl 1 (by decide) (hg _ k310) (fun _ h9 => h9) rfl hin rfl (by decide +kernel) rfl rfl (Nat.le_of_ble_eq_true rfl) d_Strings_init_11 (fun H locs hP hD hS => ?_)
  have hP : va_P (dC, dI) classes [(o_Strings, .inr (7, [.ref o_Stacks, .ref o_Heap, .null]))] H := hP
  have hD : va_D A [(o_Strings, .inr (7, [.ref o_Stacks, .ref o_Heap, .null]))] := hD
  refine lv_aload_n hx hb d_Strings_init_14 rfl (lv_at hl 0 rfl) ?_
  refine lv_aload_n hx hb d_Strings_init_15 rfl (lv_at hl 3 rfl) ?_
  refine va_putF (D := (dC, dI)) (ci := 7) (v := .ref o_Output) (ty := .object "CellEngine$Output") (C := R_Strings) (T := F_Strings) (N := 3) hx hb hg i_Strings t_Strings t_Strings_ok n_Strings hown hK hP hD hS 0 rfl rfl 2 (by decide) (hg _ k338) (fun _ h9 => h9) rfl hin rfl (by decide +kernel) rfl rfl (Nat.le_of_ble_eq_true rfl) d_Strings_init_16 (fun H locs hP hD hS => ?_)
  have hP : va_P (dC, dI) classes [(o_Strings, .inr (7, [.ref o_Stacks, .ref o_Heap, .ref o_Output]))] H := hP
  have hD : va_D A [(o_Strings, .inr (7, [.ref o_Stacks, .ref o_Heap, .ref o_Output]))] := hD
  obtain rfl := Option.some.inj h
  have hP9 := hP.sub (ws' := [(o_Strings, .inr (7, [.ref o_Stacks, .ref o_Heap, .ref o_Output]))]) [0] rfl
  have hD9 := hD.sub (ws' := [(o_Strings, .inr (7, [.ref o_Stacks, .ref o_Heap, .ref o_Output]))]) [0] (by decide) rfl
  have hK9 := hK.sub (tys' := []) [] rfl
  refine W.widen (dz_Gc hG) (dz_Gs hG) ?_
  obtain ⟨rfl, -, -⟩ := hG
  exact W.vret hx hb hr (fun t ht hW => ⟨⟨(), rfl, trivial, by rw [ht]; exact hP9, va_K.moved hW.alike hK9, hD9⟩, hS.F ht⟩) hS.2.2 d_Strings_init_19

set_option maxHeartbeats 4000000 in
set_option maxRecDepth 100000 in
theorem c_Machine_init (l : Launch) (dC : Nat → ClassId) (dI : Nat → Nat → Nat) (N : Nat) (cI : ClassId) (cL : ClassId) (o_Machine : Nat) (o_Program : Nat) (o_Stacks : Nat) (o_Heap : Nat) (o_Output : Nat) (sz : Nat) (Z1 : Int32 × Int32 × Int32 × Int32 × Int32 × Int32 × Int32 × Int32 × Int32 × Nat × (Nat → Int32) × Nat × (Nat → Int64) × Int32) (Zc Zs : Nat) (h : m_Machine_init N = some (Z1, Zc, Zs)) : Met l y_Machine_init (.code y_Machine_init b_Machine_init 5 none :: lw_g) ({ frames := 2, cells := Zc, slots := Zs, locals := 43 }) (va_Pc [.ref o_Machine, .ref o_Program, .ref o_Stacks, .ref o_Heap, .ref o_Output] (fun U => dz_N U ∧ U.heap.size = sz ∧ va_P (dC, dI) classes [(o_Machine, .inr (8, [.null, .null, .null, .null, .null, .null, .null, .int 0, .int 0, .int 0, .int 0, .int 0, .int 0, .int 0, .int 0]))] U.heap ∧ va_K (dC, dI) classes [(cI, .int), (cL, .long)] U ∧ va_D (fun _ => True) [(o_Machine, .inr (8, [.null, .null, .null, .null, .null, .null, .null, .int 0, .int 0, .int 0, .int 0, .int 0, .int 0, .int 0, .int 0]))])) (va_Qv (fun (_ : Nat × Nat × Nat × Nat × Nat × Nat) => True) (fun (u : Nat × Nat × Nat × Nat × Nat × Nat) t => va_P (dC, dI) classes [(o_Machine, .inr (8, [.ref o_Program, .ref o_Stacks, .ref o_Heap, .ref u.1, .ref u.2.1, .ref u.2.2.1, .ref u.2.2.2.1, .int Z1.1, .int Z1.2.1, .int Z1.2.2.1, .int Z1.2.2.2.1, .int Z1.2.2.2.2.1, .int Z1.2.2.2.2.2.1, .int Z1.2.2.2.2.2.2.1, .int Z1.2.2.2.2.2.2.2.1])), (u.1, .inr (4, [.ref o_Program, .ref o_Stacks, .ref o_Heap, .int Z1.2.2.2.2.2.2.2.2.1])), (u.2.1, .inr (5, [.ref o_Heap, .ref u.2.2.2.2.1, .ref u.2.2.2.2.2, .int Z1.2.2.2.2.2.2.2.2.2.2.2.2.2])), (u.2.2.1, .inr (6, [.ref o_Stacks])), (u.2.2.2.1, .inr (7, [.ref o_Stacks, .ref o_Heap, .ref o_Output])), (u.2.2.2.2.1, .inl (cI, Z1.2.2.2.2.2.2.2.2.2.1, .inl Z1.2.2.2.2.2.2.2.2.2.2.1)), (u.2.2.2.2.2, .inl (cL, Z1.2.2.2.2.2.2.2.2.2.2.2.1, .inr (.inl Z1.2.2.2.2.2.2.2.2.2.2.2.2.1)))] t.heap ∧ va_K (dC, dI) classes [(cI, .int), (cL, .long)] t ∧ va_D (va_A [(o_Machine, .inr (8, [.null, .null, .null, .null, .null, .null, .null, .int 0, .int 0, .int 0, .int 0, .int 0, .int 0, .int 0, .int 0]))] sz) [(o_Machine, .inr (8, [.ref o_Program, .ref o_Stacks, .ref o_Heap, .ref u.1, .ref u.2.1, .ref u.2.2.1, .ref u.2.2.2.1, .int Z1.1, .int Z1.2.1, .int Z1.2.2.1, .int Z1.2.2.2.1, .int Z1.2.2.2.2.1, .int Z1.2.2.2.2.2.1, .int Z1.2.2.2.2.2.2.1, .int Z1.2.2.2.2.2.2.2.1])), (u.1, .inr (4, [.ref o_Program, .ref o_Stacks, .ref o_Heap, .int Z1.2.2.2.2.2.2.2.2.1])), (u.2.1, .inr (5, [.ref o_Heap, .ref u.2.2.2.2.1, .ref u.2.2.2.2.2, .int Z1.2.2.2.2.2.2.2.2.2.2.2.2.2])), (u.2.2.1, .inr (6, [.ref o_Stacks])), (u.2.2.2.1, .inr (7, [.ref o_Stacks, .ref o_Heap, .ref o_Output])), (u.2.2.2.2.1, .inl (cI, Z1.2.2.2.2.2.2.2.2.2.1, .inl Z1.2.2.2.2.2.2.2.2.2.2.1)), (u.2.2.2.2.2, .inl (cL, Z1.2.2.2.2.2.2.2.2.2.2.2.1, .inr (.inl Z1.2.2.2.2.2.2.2.2.2.2.2.2.1)))]) (va_A [(o_Machine, .inr (8, [.null, .null, .null, .null, .null, .null, .null, .int 0, .int 0, .int 0, .int 0, .int 0, .int 0, .int 0, .int 0]))] sz)) Zc Zs (va_A [(o_Machine, .inr (8, [.null, .null, .null, .null, .null, .null, .null, .int 0, .int 0, .int 0, .int 0, .int 0, .int 0, .int 0, .int 0]))] sz) := by
  refine Met.ofW (cc := b_Machine_init) (maxL := 5) (ret := none) (by decide +kernel) rfl ?_
  intro p e s m args below meth c s₁ B hml hv
  obtain ⟨rfl, hN, hsz, hP, hK, hD0⟩ := hv
  have hx := B.exec
  have hb := B.bytes
  have hr := B.returns
  have hg : ∀ w ∈ lw_g, w.before _ s = true := fun w hw => atoms_spec (ws := .code y_Machine_init b_Machine_init 5 none :: lw_g) B.pre w (List.mem_cons_of_mem _ hw)
  have hown : s.vm.findClass R_Machine = some m.cls := findClass_of_methodNamed B.named
  have hlocks := B.notSynchronized
  have hin : meth.name = "<init>" := (name_of_methodNamed B.named B.method).1
  clear B
  subst hsz
  have hD := hD0.self (sz := s.heap.size)
  generalize hAe : va_A [(o_Machine, .inr (8, [.null, .null, .null, .null, .null, .null, .null, .int 0, .int 0, .int 0, .int 0, .int 0, .int 0, .int 0, .int 0]))] s.heap.size = A at hD ⊢
  have hA : ∀ q : Nat, s.heap.size ≤ q → A q := fun q h => by rw [← hAe]; exact Or.inr h
  have hS : va_S A s.heap s.heap [] := va_S.rf
  have hP : va_P (dC, dI) classes [(o_Machine, .inr (8, [.null, .null, .null, .null, .null, .null, .null, .int 0, .int 0, .int 0, .int 0, .int 0, .int 0, .int 0, .int 0]))] s.heap := hP
  have hl := lv_entry ([.ref o_Machine, .ref o_Program, .ref o_Stacks, .ref o_Heap, .ref o_Output]) (n := 5) (Nat.le_of_ble_eq_true rfl)
  rw [lg_entry_eq]
  generalize (lg_sl ([.ref o_Machine, .ref o_Program, .ref o_Stacks, .ref o_Heap, .ref o_Output]) ++ List.replicate (5 - (lg_sl ([.ref o_Machine, .ref o_Program, .ref o_Stacks, .ref o_Heap, .ref o_Output])).length) Slot.unset).toArray = ls at hl ⊢
  have hl : lv_has ls 5 [(0, .ref o_Machine), (1, .ref o_Program), (2, .ref o_Stacks), (3, .ref o_Heap), (4, .ref o_Output)] := hl
  unfold m_Machine_init at h
  have hG : dz_G Z1 Zc Zs (Z1, Zc, Zs) 0 0 := ⟨rfl, (Nat.zero_add _).symm, (Nat.zero_add _).symm⟩
  generalize (Z1, Zc, Zs) = z at h hG
  refine lv_aload_n hx hb d_Machine_init_0 rfl (lv_at hl 0 rfl) ?_
  refine W.objInit hx hb hown (hg _ k1065) (hg _ k1054) (hg _ k1055) rfl (by rw [hml]; exact hl.1) rfl d_Machine_init_1 (Nat.le_of_ble_eq_true rfl) (Nat.le_of_ble_eq_true rfl) ?_
  refine W.eq (g2 := F0 m 4 ls []) rfl ?_
  refine lv_aload_n hx hb d_Machine_init_4 rfl (lv_at hl 0 rfl) ?_
  refine lv_iconst (v := (-1)) hx hb d_Machine_init_5 (by decide) ?_
  refine va_put (D := (dC, dI)) (ci := 8) (v := .int (-1)) (ty := .int) (C := R_Machine) (T := F_Machine) (N := 15) hx hb hg i_Machine t_Machine t_Machine_ok n_Machine hown hK hP hD hS 0 rfl rfl 7 (by decide) (hg _ k395) (fun _ h9 => h9) rfl (by decide +kernel) rfl rfl (Nat.le_of_ble_eq_true rfl) d_Machine_init_6 (fun H locs hP hD hS => ?_)
  have hP : va_P (dC, dI) classes [(o_Machine, .inr (8, [.null, .null, .null, .null, .null, .null, .null, .int (-1), .int 0, .int 0, .int 0, .int 0, .int 0, .int 0, .int 0]))] H := hP
  have hD : va_D A [(o_Machine, .inr (8, [.null, .null, .null, .null, .null, .null, .null, .int (-1), .int 0, .int 0, .int 0, .int 0, .int 0, .int 0, .int 0]))] := hD
  refine lv_aload_n hx hb d_Machine_init_9 rfl (lv_at hl 0 rfl) ?_
  refine lv_sipush (v := 2000) hx hb d_Machine_init_10 (by decide) ?_
  refine va_put (D := (dC, dI)) (ci := 8) (v := .int 2000) (ty := .int) (C := R_Machine) (T := F_Machine) (N := 15) hx hb hg i_Machine t_Machine t_Machine_ok n_Machine hown hK hP hD hS 0 rfl rfl 13 (by decide) (hg _ k458) (fun _ h9 => h9) rfl (by decide +kernel) rfl rfl (Nat.le_of_ble_eq_true rfl) d_Machine_init_13 (fun H locs hP hD hS => ?_)
  have hP : va_P (dC, dI) classes [(o_Machine, .inr (8, [.null, .null, .null, .null, .null, .null, .null, .int (-1), .int 0, .int 0, .int 0, .int 0, .int 0, .int 2000, .int 0]))] H := hP
  have hD : va_D A [(o_Machine, .inr (8, [.null, .null, .null, .null, .null, .null, .null, .int (-1), .int 0, .int 0, .int 0, .int 0, .int 0, .int 2000, .int 0]))] := hD
  refine lv_aload_n hx hb d_Machine_init_16 rfl (lv_at hl 0 rfl) ?_
  refine lv_aload_n hx hb d_Machine_init_17 rfl (lv_at hl 1 rfl) ?_
  refine va_putF (D := (dC, dI)) (ci := 8) (v := .ref o_Program) (ty := .object "CellEngine$Program") (C := R_Machine) (T := F_Machine) (N := 15) hx hb hg i_Machine t_Machine t_Machine_ok n_Machine hown hK hP hD hS 0 rfl rfl 0 (by decide) (hg _ k409) (fun _ h9 => h9) rfl hin rfl (by decide +kernel) rfl rfl (Nat.le_of_ble_eq_true rfl) d_Machine_init_18 (fun H locs hP hD hS => ?_)
  have hP : va_P (dC, dI) classes [(o_Machine, .inr (8, [.ref o_Program, .null, .null, .null, .null, .null, .null, .int (-1), .int 0, .int 0, .int 0, .int 0, .int 0, .int 2000, .int 0]))] H := hP
  have hD : va_D A [(o_Machine, .inr (8, [.ref o_Program, .null, .null, .null, .null, .null, .null, .int (-1), .int 0, .int 0, .int 0, .int 0, .int 0, .int 2000, .int 0]))] := hD
  refine lv_aload_n hx hb d_Machine_init_21 rfl (lv_at hl 0 rfl) ?_
  refine lv_aload_n hx hb d_Machine_init_22 rfl (lv_at hl 2 rfl) ?_
  refine va_putF (D := (dC, dI)) (ci := 8) (v := .ref o_Stacks) (ty := .object "CellEngine$Stacks") (C := R_Machine) (T := F_Machine) (N := 15) hx hb hg i_Machine t_Machine t_Machine_ok n_Machine hown hK hP hD hS 0 rfl rfl 1 (by decide) (hg _ k404) (fun _ h9 => h9) rfl hin rfl (by decide +kernel) rfl rfl (Nat.le_of_ble_eq_true rfl) d_Machine_init_23 (fun H locs hP hD hS => ?_)
  have hP : va_P (dC, dI) classes [(o_Machine, .inr (8, [.ref o_Program, .ref o_Stacks, .null, .null, .null, .null, .null, .int (-1), .int 0, .int 0, .int 0, .int 0, .int 0, .int 2000, .int 0]))] H := hP
  have hD : va_D A [(o_Machine, .inr (8, [.ref o_Program, .ref o_Stacks, .null, .null, .null, .null, .null, .int (-1), .int 0, .int 0, .int 0, .int 0, .int 0, .int 2000, .int 0]))] := hD
  refine lv_aload_n hx hb d_Machine_init_26 rfl (lv_at hl 0 rfl) ?_
  refine lv_aload_n hx hb d_Machine_init_27 rfl (lv_at hl 3 rfl) ?_
  refine va_putF (D := (dC, dI)) (ci := 8) (v := .ref o_Heap) (ty := .object "CellEngine$Heap") (C := R_Machine) (T := F_Machine) (N := 15) hx hb hg i_Machine t_Machine t_Machine_ok n_Machine hown hK hP hD hS 0 rfl rfl 2 (by decide) (hg _ k401) (fun _ h9 => h9) rfl hin rfl (by decide +kernel) rfl rfl (Nat.le_of_ble_eq_true rfl) d_Machine_init_28 (fun H locs hP hD hS => ?_)
  have hP : va_P (dC, dI) classes [(o_Machine, .inr (8, [.ref o_Program, .ref o_Stacks, .ref o_Heap, .null, .null, .null, .null, .int (-1), .int 0, .int 0, .int 0, .int 0, .int 0, .int 2000, .int 0]))] H := hP
  have hD : va_D A [(o_Machine, .inr (8, [.ref o_Program, .ref o_Stacks, .ref o_Heap, .null, .null, .null, .null, .int (-1), .int 0, .int 0, .int 0, .int 0, .int 0, .int 2000, .int 0]))] := hD
  refine lv_aload_n hx hb d_Machine_init_31 rfl (lv_at hl 0 rfl) ?_
  obtain ⟨z, h, hG⟩ := dz_tkG h hG
  refine va_new (D := (dC, dI)) (ci := 4) (fs := [.null, .null, .null, .int 0]) (C := R_Objects) (T := F_Objects) (N := 4) hx hb hg i_Objects t_Objects t_Objects_ok hown (hg _ k1066) (hg _ k1067) (hg _ k239) hK hP hD hS hA rfl (fun j hj => by rcases (show j = 0 ∨ j = 1 ∨ j = 2 ∨ j = 3 by omega) with rfl | rfl | rfl | rfl <;> rfl) (dz_Gc hG) (dz_Gs hG) d_Machine_init_32 (fun b1 H hP hD hS => ?_)
  have hP : va_P (dC, dI) classes [(o_Machine, .inr (8, [.ref o_Program, .ref o_Stacks, .ref o_Heap, .null, .null, .null, .null, .int (-1), .int 0, .int 0, .int 0, .int 0, .int 0, .int 2000, .int 0])), (b1, .inr (4, [.null, .null, .null, .int 0]))] H := hP
  have hD : va_D A [(o_Machine, .inr (8, [.ref o_Program, .ref o_Stacks, .ref o_Heap, .null, .null, .null, .null, .int (-1), .int 0, .int 0, .int 0, .int 0, .int 0, .int 2000, .int 0])), (b1, .inr (4, [.null, .null, .null, .int 0]))] := hD
  refine lv_dup hx hb d_Machine_init_35 rfl ?_
  refine lv_aload_n hx hb d_Machine_init_36 rfl (lv_at hl 1 rfl) ?_
  refine lv_aload_n hx hb d_Machine_init_37 rfl (lv_at hl 2 rfl) ?_
  refine lv_aload_n hx hb d_Machine_init_38 rfl (lv_at hl 3 rfl) ?_
  obtain ⟨⟨z2_1, zc2, zs2⟩, hc2, h⟩ := dz_ob h
  try dsimp only at h
  obtain ⟨z, h, hG⟩ := dz_tkG h hG
  have hPc := hP.sub (ws' := [(b1, .inr (4, [.null, .null, .null, .int 0]))]) [1] rfl
  have hKc := hK.sub (tys' := []) [] rfl
  have hDc := hD.sub (ws' := [(b1, .inr (4, [.null, .null, .null, .int 0]))]) [1] (by decide) rfl
  have hFc := va_free (wc := [(b1, .inr (4, [.null, .null, .null, .int 0]))]) hD hS hA [1] rfl
  refine va_callv (va_runI (As := [.ref o_Program, .ref o_Stacks, .ref o_Heap]) (rest := [.ref b1, .ref o_Machine]) ⟨hx, hb, hml, hown, hg⟩ (c_Objects_init l dC dI N  b1 o_Program o_Stacks o_Heap H.size z2_1 zc2 zs2 hc2) (cwI 3 hg (gd_N k1068) rfl rfl rfl (hg _ k239) (hg _ k1069) (hg _ k1070) rfl (by decide +kernel) ⟨Nat.le_of_ble_eq_true rfl, Nat.le_of_ble_eq_true rfl⟩) ⟨dz_blind, fun U hU hW => ⟨rfl, dz_Nw hW hN, by rw [hU], by rw [hU]; exact hPc, va_K.moved hW.alike hKc, hDc.weaken (fun _ _ _ _ => trivial)⟩⟩ rfl rfl hl.1 rfl (lv_room (Nat.le_of_ble_eq_true rfl)) d_Machine_init_39 ⟨dz_Gc hG, dz_Gs hG⟩) hS (fun q _ h => hFc q h) hFc (fun u2 t2 H1 locs ht hvm hw hB hz1 hk1 hS => ?_)
  obtain ⟨hP1, hK1, hD1⟩ := hB
  rw [ht] at hP1
  obtain ⟨hP, hD⟩ := va_join (wr := [(o_Machine, .inr (8, [.ref o_Program, .ref o_Stacks, .ref o_Heap, .null, .null, .null, .null, .int (-1), .int 0, .int 0, .int 0, .int 0, .int 0, .int 2000, .int 0]))]) (w1 := [(b1, .inr (4, [.ref o_Program, .ref o_Stacks, .ref o_Heap, .int z2_1]))]) hP hD [1] [0] rfl rfl (by decide) (by decide) hk1 hFc hP1 hD1
  generalize H1 = H at hP hS ⊢
  have hP : va_P (dC, dI) classes [(o_Machine, .inr (8, [.ref o_Program, .ref o_Stacks, .ref o_Heap, .null, .null, .null, .null, .int (-1), .int 0, .int 0, .int 0, .int 0, .int 0, .int 2000, .int 0])), (b1, .inr (4, [.ref o_Program, .ref o_Stacks, .ref o_Heap, .int z2_1]))] H := hP
  have hD : va_D A [(o_Machine, .inr (8, [.ref o_Program, .ref o_Stacks, .ref o_Heap, .null, .null, .null, .null, .int (-1), .int 0, .int 0, .int 0, .int 0, .int 0, .int 2000, .int 0])), (b1, .inr (4, [.ref o_Program, .ref o_Stacks, .ref o_Heap, .int z2_1]))] := hD
  refine va_putF (D := (dC, dI)) (ci := 8) (v := .ref b1) (ty := .object "CellEngine$Objects") (C := R_Machine) (T := F_Machine) (N := 15) hx hb hg i_Machine t_Machine t_Machine_ok n_Machine hown hK hP hD hS 0 rfl rfl 3 (by decide) (hg _ k460) (fun _ h9 => h9) rfl hin rfl (by decide +kernel) rfl rfl (Nat.le_of_ble_eq_true rfl) d_Machine_init_42 (fun H locs hP hD hS => ?_)
  have hP : va_P (dC, dI) classes [(o_Machine, .inr (8, [.ref o_Program, .ref o_Stacks, .ref o_Heap, .ref b1, .null, .null, .null, .int (-1), .int 0, .int 0, .int 0, .int 0, .int 0, .int 2000, .int 0])), (b1, .inr (4, [.ref o_Program, .ref o_Stacks, .ref o_Heap, .int z2_1]))] H := hP
  have hD : va_D A [(o_Machine, .inr (8, [.ref o_Program, .ref o_Stacks, .ref o_Heap, .ref b1, .null, .null, .null, .int (-1), .int 0, .int 0, .int 0, .int 0, .int 0, .int 2000, .int 0])), (b1, .inr (4, [.ref o_Program, .ref o_Stacks, .ref o_Heap, .int z2_1]))] := hD
  refine lv_aload_n hx hb d_Machine_init_45 rfl (lv_at hl 0 rfl) ?_
  obtain ⟨z, h, hG⟩ := dz_tkG h hG
  refine va_new (D := (dC, dI)) (ci := 5) (fs := [.null, .null, .null, .int 0]) (C := R_Equality) (T := F_Equality) (N := 4) hx hb hg i_Equality t_Equality t_Equality_ok hown (hg _ k1071) (hg _ k1072) (hg _ k274) hK hP hD hS hA rfl (fun j hj => by rcases (show j = 0 ∨ j = 1 ∨ j = 2 ∨ j = 3 by omega) with rfl | rfl | rfl | rfl <;> rfl) (dz_Gc hG) (dz_Gs hG) d_Machine_init_46 (fun b3 H hP hD hS => ?_)
  have hP : va_P (dC, dI) classes [(o_Machine, .inr (8, [.ref o_Program, .ref o_Stacks, .ref o_Heap, .ref b1, .null, .null, .null, .int (-1), .int 0, .int 0, .int 0, .int 0, .int 0, .int 2000, .int 0])), (b1, .inr (4, [.ref o_Program, .ref o_Stacks, .ref o_Heap, .int z2_1])), (b3, .inr (5, [.null, .null, .null, .int 0]))] H := hP
  have hD : va_D A [(o_Machine, .inr (8, [.ref o_Program, .ref o_Stacks, .ref o_Heap, .ref b1, .null, .null, .null, .int (-1), .int 0, .int 0, .int 0, .int 0, .int 0, .int 2000, .int 0])), (b1, .inr (4, [.ref o_Program, .ref o_Stacks, .ref o_Heap, .int z2_1])), (b3, .inr (5, [.null, .null, .null, .int 0]))] := hD
  refine lv_dup hx hb d_Machine_init_49 rfl ?_
  refine lv_aload_n hx hb d_Machine_init_50 rfl (lv_at hl 3 rfl) ?_
  obtain ⟨⟨⟨z4_1, z4_2, z4_3, z4_4, z4_5⟩, zc4, zs4⟩, hc4, h⟩ := dz_ob h
  try dsimp only at h
  obtain ⟨z, h, hG⟩ := dz_tkG h hG
  have hPc := hP.sub (ws' := [(b3, .inr (5, [.null, .null, .null, .int 0]))]) [2] rfl
  have hKc := hK.sub (tys' := [(cI, .int), (cL, .long)]) [0, 1] rfl
  have hDc := hD.sub (ws' := [(b3, .inr (5, [.null, .null, .null, .int 0]))]) [2] (by decide) rfl
  have hFc := va_free (wc := [(b3, .inr (5, [.null, .null, .null, .int 0]))]) hD hS hA [2] rfl
  refine va_callv (va_runI (As := [.ref o_Heap]) (rest := [.ref b3, .ref o_Machine]) ⟨hx, hb, hml, hown, hg⟩ (c_Equality_init l dC dI N cI cL b3 o_Heap H.size (z4_1, z4_2, z4_3, z4_4, z4_5) zc4 zs4 hc4) (cwI 1 hg (gd_N k1073) rfl rfl rfl (hg _ k274) (hg _ k1074) (hg _ k1075) rfl (by decide +kernel) ⟨Nat.le_of_ble_eq_true rfl, Nat.le_of_ble_eq_true rfl⟩) ⟨dz_blind, fun U hU hW => ⟨rfl, dz_Nw hW hN, by rw [hU], by rw [hU]; exact hPc, va_K.moved hW.alike hKc, hDc.weaken (fun _ _ _ _ => trivial)⟩⟩ rfl rfl hl.1 rfl (lv_room (Nat.le_of_ble_eq_true rfl)) d_Machine_init_51 ⟨dz_Gc hG, dz_Gs hG⟩) hS (fun q _ h => hFc q h) hFc (fun u4 t4 H1 locs ht hvm hw hB hz1 hk1 hS => ?_)
  obtain ⟨a4_0, a4_1⟩ := u4
  obtain ⟨hP1, hK1, hD1⟩ := hB
  rw [ht] at hP1
  obtain ⟨hP, hD⟩ := va_join (wr := [(o_Machine, .inr (8, [.ref o_Program, .ref o_Stacks, .ref o_Heap, .ref b1, .null, .null, .null, .int (-1), .int 0, .int 0, .int 0, .int 0, .int 0, .int 2000, .int 0])), (b1, .inr (4, [.ref o_Program, .ref o_Stacks, .ref o_Heap, .int z2_1]))]) (w1 := [(b3, .inr (5, [.ref o_Heap, .ref a4_0, .ref a4_1, .int z4_5])), (a4_0, .inl (cI, z4_1, .inl z4_2)), (a4_1, .inl (cL, z4_3, .inr (.inl z4_4)))]) hP hD [2] [0, 1] rfl rfl (by decide) (by decide) hk1 hFc hP1 hD1
  generalize H1 = H at hP hS ⊢
  have hP : va_P (dC, dI) classes [(o_Machine, .inr (8, [.ref o_Program, .ref o_Stacks, .ref o_Heap, .ref b1, .null, .null, .null, .int (-1), .int 0, .int 0, .int 0, .int 0, .int 0, .int 2000, .int 0])), (b1, .inr (4, [.ref o_Program, .ref o_Stacks, .ref o_Heap, .int z2_1])), (b3, .inr (5, [.ref o_Heap, .ref a4_0, .ref a4_1, .int z4_5])), (a4_0, .inl (cI, z4_1, .inl z4_2)), (a4_1, .inl (cL, z4_3, .inr (.inl z4_4)))] H := hP
  have hD : va_D A [(o_Machine, .inr (8, [.ref o_Program, .ref o_Stacks, .ref o_Heap, .ref b1, .null, .null, .null, .int (-1), .int 0, .int 0, .int 0, .int 0, .int 0, .int 2000, .int 0])), (b1, .inr (4, [.ref o_Program, .ref o_Stacks, .ref o_Heap, .int z2_1])), (b3, .inr (5, [.ref o_Heap, .ref a4_0, .ref a4_1, .int z4_5])), (a4_0, .inl (cI, z4_1, .inl z4_2)), (a4_1, .inl (cL, z4_3, .inr (.inl z4_4)))] := hD
  refine va_putF (D := (dC, dI)) (ci := 8) (v := .ref b3) (ty := .object "CellEngine$Equality") (C := R_Machine) (T := F_Machine) (N := 15) hx hb hg i_Machine t_Machine t_Machine_ok n_Machine hown hK hP hD hS 0 rfl rfl 4 (by decide) (hg _ k461) (fun _ h9 => h9) rfl hin rfl (by decide +kernel) rfl rfl (Nat.le_of_ble_eq_true rfl) d_Machine_init_54 (fun H locs hP hD hS => ?_)
  have hP : va_P (dC, dI) classes [(o_Machine, .inr (8, [.ref o_Program, .ref o_Stacks, .ref o_Heap, .ref b1, .ref b3, .null, .null, .int (-1), .int 0, .int 0, .int 0, .int 0, .int 0, .int 2000, .int 0])), (b1, .inr (4, [.ref o_Program, .ref o_Stacks, .ref o_Heap, .int z2_1])), (b3, .inr (5, [.ref o_Heap, .ref a4_0, .ref a4_1, .int z4_5])), (a4_0, .inl (cI, z4_1, .inl z4_2)), (a4_1, .inl (cL, z4_3, .inr (.inl z4_4)))] H := hP
  have hD : va_D A [(o_Machine, .inr (8, [.ref o_Program, .ref o_Stacks, .ref o_Heap, .ref b1, .ref b3, .null, .null, .int (-1), .int 0, .int 0, .int 0, .int 0, .int 0, .int 2000, .int 0])), (b1, .inr (4, [.ref o_Program, .ref o_Stacks, .ref o_Heap, .int z2_1])), (b3, .inr (5, [.ref o_Heap, .ref a4_0, .ref a4_1, .int z4_5])), (a4_0, .inl (cI, z4_1, .inl z4_2)), (a4_1, .inl (cL, z4_3, .inr (.inl z4_4)))] := hD
  refine lv_aload_n hx hb d_Machine_init_57 rfl (lv_at hl 0 rfl) ?_
  obtain ⟨z, h, hG⟩ := dz_tkG h hG
  refine va_new (D := (dC, dI)) (ci := 6) (fs := [.null]) (C := R_Numbers) (T := F_Numbers) (N := 1) hx hb hg i_Numbers t_Numbers t_Numbers_ok hown (hg _ k1076) (hg _ k1077) (hg _ k301) hK hP hD hS hA rfl (fun j hj => by rcases (show j = 0 by omega) with rfl <;> rfl) (dz_Gc hG) (dz_Gs hG) d_Machine_init_58 (fun b5 H hP hD hS => ?_)
  have hP : va_P (dC, dI) classes [(o_Machine, .inr (8, [.ref o_Program, .ref o_Stacks, .ref o_Heap, .ref b1, .ref b3, .null, .null, .int (-1), .int 0, .int 0, .int 0, .int 0, .int 0, .int 2000, .int 0])), (b1, .inr (4, [.ref o_Program, .ref o_Stacks, .ref o_Heap, .int z2_1])), (b3, .inr (5, [.ref o_Heap, .ref a4_0, .ref a4_1, .int z4_5])), (a4_0, .inl (cI, z4_1, .inl z4_2)), (a4_1, .inl (cL, z4_3, .inr (.inl z4_4))), (b5, .inr (6, [.null]))] H := hP
  have hD : va_D A [(o_Machine, .inr (8, [.ref o_Program, .ref o_Stacks, .ref o_Heap, .ref b1, .ref b3, .null, .null, .int (-1), .int 0, .int 0, .int 0, .int 0, .int 0, .int 2000, .int 0])), (b1, .inr (4, [.ref o_Program, .ref o_Stacks, .ref o_Heap, .int z2_1])), (b3, .inr (5, [.ref o_Heap, .ref a4_0, .ref a4_1, .int z4_5])), (a4_0, .inl (cI, z4_1, .inl z4_2)), (a4_1, .inl (cL, z4_3, .inr (.inl z4_4))), (b5, .inr (6, [.null]))] := hD
  refine lv_dup hx hb d_Machine_init_61 rfl ?_
  refine lv_aload_n hx hb d_Machine_init_62 rfl (lv_at hl 2 rfl) ?_
  obtain ⟨⟨⟨⟩, zc6, zs6⟩, hc6, h⟩ := dz_ob h
  try dsimp only at h
  obtain ⟨z, h, hG⟩ := dz_tkG h hG
  have hPc := hP.sub (ws' := [(b5, .inr (6, [.null]))]) [5] rfl
  have hKc := hK.sub (tys' := []) [] rfl
  have hDc := hD.sub (ws' := [(b5, .inr (6, [.null]))]) [5] (by decide) rfl
  have hFc := va_free (wc := [(b5, .inr (6, [.null]))]) hD hS hA [5] rfl
  refine va_callv (va_runI (As := [.ref o_Stacks]) (rest := [.ref b5, .ref o_Machine]) ⟨hx, hb, hml, hown, hg⟩ (c_Numbers_init l dC dI N  b5 o_Stacks H.size () zc6 zs6 hc6) (cwI 1 hg (gd_N k1078) rfl rfl rfl (hg _ k301) (hg _ k1079) (hg _ k1080) rfl (by decide +kernel) ⟨Nat.le_of_ble_eq_true rfl, Nat.le_of_ble_eq_true rfl⟩) ⟨dz_blind, fun U hU hW => ⟨rfl, dz_Nw hW hN, by rw [hU], by rw [hU]; exact hPc, va_K.moved hW.alike hKc, hDc.weaken (fun _ _ _ _ => trivial)⟩⟩ rfl rfl hl.1 rfl (lv_room (Nat.le_of_ble_eq_true rfl)) d_Machine_init_63 ⟨dz_Gc hG, dz_Gs hG⟩) hS (fun q _ h => hFc q h) hFc (fun u6 t6 H1 locs ht hvm hw hB hz1 hk1 hS => ?_)
  obtain ⟨hP1, hK1, hD1⟩ := hB
  rw [ht] at hP1
  obtain ⟨hP, hD⟩ := va_join (wr := [(o_Machine, .inr (8, [.ref o_Program, .ref o_Stacks, .ref o_Heap, .ref b1, .ref b3, .null, .null, .int (-1), .int 0, .int 0, .int 0, .int 0, .int 0, .int 2000, .int 0])), (b1, .inr (4, [.ref o_Program, .ref o_Stacks, .ref o_Heap, .int z2_1])), (b3, .inr (5, [.ref o_Heap, .ref a4_0, .ref a4_1, .int z4_5])), (a4_0, .inl (cI, z4_1, .inl z4_2)), (a4_1, .inl (cL, z4_3, .inr (.inl z4_4)))]) (w1 := [(b5, .inr (6, [.ref o_Stacks]))]) hP hD [5] [0, 1, 2, 3, 4] rfl rfl (by decide) (by decide) hk1 hFc hP1 hD1
  generalize H1 = H at hP hS ⊢
  have hP : va_P (dC, dI) classes [(o_Machine, .inr (8, [.ref o_Program, .ref o_Stacks, .ref o_Heap, .ref b1, .ref b3, .null, .null, .int (-1), .int 0, .int 0, .int 0, .int 0, .int 0, .int 2000, .int 0])), (b1, .inr (4, [.ref o_Program, .ref o_Stacks, .ref o_Heap, .int z2_1])), (b3, .inr (5, [.ref o_Heap, .ref a4_0, .ref a4_1, .int z4_5])), (a4_0, .inl (cI, z4_1, .inl z4_2)), (a4_1, .inl (cL, z4_3, .inr (.inl z4_4))), (b5, .inr (6, [.ref o_Stacks]))] H := hP
  have hD : va_D A [(o_Machine, .inr (8, [.ref o_Program, .ref o_Stacks, .ref o_Heap, .ref b1, .ref b3, .null, .null, .int (-1), .int 0, .int 0, .int 0, .int 0, .int 0, .int 2000, .int 0])), (b1, .inr (4, [.ref o_Program, .ref o_Stacks, .ref o_Heap, .int z2_1])), (b3, .inr (5, [.ref o_Heap, .ref a4_0, .ref a4_1, .int z4_5])), (a4_0, .inl (cI, z4_1, .inl z4_2)), (a4_1, .inl (cL, z4_3, .inr (.inl z4_4))), (b5, .inr (6, [.ref o_Stacks]))] := hD
  refine va_putF (D := (dC, dI)) (ci := 8) (v := .ref b5) (ty := .object "CellEngine$Numbers") (C := R_Machine) (T := F_Machine) (N := 15) hx hb hg i_Machine t_Machine t_Machine_ok n_Machine hown hK hP hD hS 0 rfl rfl 5 (by decide) (hg _ k463) (fun _ h9 => h9) rfl hin rfl (by decide +kernel) rfl rfl (Nat.le_of_ble_eq_true rfl) d_Machine_init_66 (fun H locs hP hD hS => ?_)
  have hP : va_P (dC, dI) classes [(o_Machine, .inr (8, [.ref o_Program, .ref o_Stacks, .ref o_Heap, .ref b1, .ref b3, .ref b5, .null, .int (-1), .int 0, .int 0, .int 0, .int 0, .int 0, .int 2000, .int 0])), (b1, .inr (4, [.ref o_Program, .ref o_Stacks, .ref o_Heap, .int z2_1])), (b3, .inr (5, [.ref o_Heap, .ref a4_0, .ref a4_1, .int z4_5])), (a4_0, .inl (cI, z4_1, .inl z4_2)), (a4_1, .inl (cL, z4_3, .inr (.inl z4_4))), (b5, .inr (6, [.ref o_Stacks]))] H := hP
  have hD : va_D A [(o_Machine, .inr (8, [.ref o_Program, .ref o_Stacks, .ref o_Heap, .ref b1, .ref b3, .ref b5, .null, .int (-1), .int 0, .int 0, .int 0, .int 0, .int 0, .int 2000, .int 0])), (b1, .inr (4, [.ref o_Program, .ref o_Stacks, .ref o_Heap, .int z2_1])), (b3, .inr (5, [.ref o_Heap, .ref a4_0, .ref a4_1, .int z4_5])), (a4_0, .inl (cI, z4_1, .inl z4_2)), (a4_1, .inl (cL, z4_3, .inr (.inl z4_4))), (b5, .inr (6, [.ref o_Stacks]))] := hD
  refine lv_aload_n hx hb d_Machine_init_69 rfl (lv_at hl 0 rfl) ?_
  obtain ⟨z, h, hG⟩ := dz_tkG h hG
  refine va_new (D := (dC, dI)) (ci := 7) (fs := [.null, .null, .null]) (C := R_Strings) (T := F_Strings) (N := 3) hx hb hg i_Strings t_Strings t_Strings_ok hown (hg _ k1081) (hg _ k1082) (hg _ k328) hK hP hD hS hA rfl (fun j hj => by rcases (show j = 0 ∨ j = 1 ∨ j = 2 by omega) with rfl | rfl | rfl <;> rfl) (dz_Gc hG) (dz_Gs hG) d_Machine_init_70 (fun b7 H hP hD hS => ?_)
  have hP : va_P (dC, dI) classes [(o_Machine, .inr (8, [.ref o_Program, .ref o_Stacks, .ref o_Heap, .ref b1, .ref b3, .ref b5, .null, .int (-1), .int 0, .int 0, .int 0, .int 0, .int 0, .int 2000, .int 0])), (b1, .inr (4, [.ref o_Program, .ref o_Stacks, .ref o_Heap, .int z2_1])), (b3, .inr (5, [.ref o_Heap, .ref a4_0, .ref a4_1, .int z4_5])), (a4_0, .inl (cI, z4_1, .inl z4_2)), (a4_1, .inl (cL, z4_3, .inr (.inl z4_4))), (b5, .inr (6, [.ref o_Stacks])), (b7, .inr (7, [.null, .null, .null]))] H := hP
  have hD : va_D A [(o_Machine, .inr (8, [.ref o_Program, .ref o_Stacks, .ref o_Heap, .ref b1, .ref b3, .ref b5, .null, .int (-1), .int 0, .int 0, .int 0, .int 0, .int 0, .int 2000, .int 0])), (b1, .inr (4, [.ref o_Program, .ref o_Stacks, .ref o_Heap, .int z2_1])), (b3, .inr (5, [.ref o_Heap, .ref a4_0, .ref a4_1, .int z4_5])), (a4_0, .inl (cI, z4_1, .inl z4_2)), (a4_1, .inl (cL, z4_3, .inr (.inl z4_4))), (b5, .inr (6, [.ref o_Stacks])), (b7, .inr (7, [.null, .null, .null]))] := hD
  refine lv_dup hx hb d_Machine_init_73 rfl ?_
  refine lv_aload_n hx hb d_Machine_init_74 rfl (lv_at hl 2 rfl) ?_
  refine lv_aload_n hx hb d_Machine_init_75 rfl (lv_at hl 3 rfl) ?_
  refine lv_aload hx hb d_Machine_init_76 (lv_at hl 4 rfl) ?_
  obtain ⟨⟨⟨⟩, zc8, zs8⟩, hc8, h⟩ := dz_ob h
  try dsimp only at h
  obtain ⟨z, h, hG⟩ := dz_tkG h hG
  have hPc := hP.sub (ws' := [(b7, .inr (7, [.null, .null, .null]))]) [6] rfl
  have hKc := hK.sub (tys' := []) [] rfl
  have hDc := hD.sub (ws' := [(b7, .inr (7, [.null, .null, .null]))]) [6] (by decide) rfl
  have hFc := va_free (wc := [(b7, .inr (7, [.null, .null, .null]))]) hD hS hA [6] rfl
  refine va_callv (va_runI (As := [.ref o_Stacks, .ref o_Heap, .ref o_Output]) (rest := [.ref b7, .ref o_Machine]) ⟨hx, hb, hml, hown, hg⟩ (c_Strings_init l dC dI N  b7 o_Stacks o_Heap o_Output H.size () zc8 zs8 hc8) (cwI 3 hg (gd_N k1083) rfl rfl rfl (hg _ k328) (hg _ k1084) (hg _ k1085) rfl (by decide +kernel) ⟨Nat.le_of_ble_eq_true rfl, Nat.le_of_ble_eq_true rfl⟩) ⟨dz_blind, fun U hU hW => ⟨rfl, dz_Nw hW hN, by rw [hU], by rw [hU]; exact hPc, va_K.moved hW.alike hKc, hDc.weaken (fun _ _ _ _ => trivial)⟩⟩ rfl rfl hl.1 rfl (lv_room (Nat.le_of_ble_eq_true rfl)) d_Machine_init_78 ⟨dz_Gc hG, dz_Gs hG⟩) hS (fun q _ h => hFc q h) hFc (fun u8 t8 H1 locs ht hvm hw hB hz1 hk1 hS => ?_)
  obtain ⟨hP1, hK1, hD1⟩ := hB
  rw [ht] at hP1
  obtain ⟨hP, hD⟩ := va_join (wr := [(o_Machine, .inr (8, [.ref o_Program, .ref o_Stacks, .ref o_Heap, .ref b1, .ref b3, .ref b5, .null, .int (-1), .int 0, .int 0, .int 0, .int 0, .int 0, .int 2000, .int 0])), (b1, .inr (4, [.ref o_Program, .ref o_Stacks, .ref o_Heap, .int z2_1])), (b3, .inr (5, [.ref o_Heap, .ref a4_0, .ref a4_1, .int z4_5])), (a4_0, .inl (cI, z4_1, .inl z4_2)), (a4_1, .inl (cL, z4_3, .inr (.inl z4_4))), (b5, .inr (6, [.ref o_Stacks]))]) (w1 := [(b7, .inr (7, [.ref o_Stacks, .ref o_Heap, .ref o_Output]))]) hP hD [6] [0, 1, 2, 3, 4, 5] rfl rfl (by decide) (by decide) hk1 hFc hP1 hD1
  generalize H1 = H at hP hS ⊢
  have hP : va_P (dC, dI) classes [(o_Machine, .inr (8, [.ref o_Program, .ref o_Stacks, .ref o_Heap, .ref b1, .ref b3, .ref b5, .null, .int (-1), .int 0, .int 0, .int 0, .int 0, .int 0, .int 2000, .int 0])), (b1, .inr (4, [.ref o_Program, .ref o_Stacks, .ref o_Heap, .int z2_1])), (b3, .inr (5, [.ref o_Heap, .ref a4_0, .ref a4_1, .int z4_5])), (a4_0, .inl (cI, z4_1, .inl z4_2)), (a4_1, .inl (cL, z4_3, .inr (.inl z4_4))), (b5, .inr (6, [.ref o_Stacks])), (b7, .inr (7, [.ref o_Stacks, .ref o_Heap, .ref o_Output]))] H := hP
  have hD : va_D A [(o_Machine, .inr (8, [.ref o_Program, .ref o_Stacks, .ref o_Heap, .ref b1, .ref b3, .ref b5, .null, .int (-1), .int 0, .int 0, .int 0, .int 0, .int 0, .int 2000, .int 0])), (b1, .inr (4, [.ref o_Program, .ref o_Stacks, .ref o_Heap, .int z2_1])), (b3, .inr (5, [.ref o_Heap, .ref a4_0, .ref a4_1, .int z4_5])), (a4_0, .inl (cI, z4_1, .inl z4_2)), (a4_1, .inl (cL, z4_3, .inr (.inl z4_4))), (b5, .inr (6, [.ref o_Stacks])), (b7, .inr (7, [.ref o_Stacks, .ref o_Heap, .ref o_Output]))] := hD
  refine va_putF (D := (dC, dI)) (ci := 8) (v := .ref b7) (ty := .object "CellEngine$Strings") (C := R_Machine) (T := F_Machine) (N := 15) hx hb hg i_Machine t_Machine t_Machine_ok n_Machine hown hK hP hD hS 0 rfl rfl 6 (by decide) (hg _ k462) (fun _ h9 => h9) rfl hin rfl (by decide +kernel) rfl rfl (Nat.le_of_ble_eq_true rfl) d_Machine_init_81 (fun H locs hP hD hS => ?_)
  have hP : va_P (dC, dI) classes [(o_Machine, .inr (8, [.ref o_Program, .ref o_Stacks, .ref o_Heap, .ref b1, .ref b3, .ref b5, .ref b7, .int (-1), .int 0, .int 0, .int 0, .int 0, .int 0, .int 2000, .int 0])), (b1, .inr (4, [.ref o_Program, .ref o_Stacks, .ref o_Heap, .int z2_1])), (b3, .inr (5, [.ref o_Heap, .ref a4_0, .ref a4_1, .int z4_5])), (a4_0, .inl (cI, z4_1, .inl z4_2)), (a4_1, .inl (cL, z4_3, .inr (.inl z4_4))), (b5, .inr (6, [.ref o_Stacks])), (b7, .inr (7, [.ref o_Stacks, .ref o_Heap, .ref o_Output]))] H := hP
  have hD : va_D A [(o_Machine, .inr (8, [.ref o_Program, .ref o_Stacks, .ref o_Heap, .ref b1, .ref b3, .ref b5, .ref b7, .int (-1), .int 0, .int 0, .int 0, .int 0, .int 0, .int 2000, .int 0])), (b1, .inr (4, [.ref o_Program, .ref o_Stacks, .ref o_Heap, .int z2_1])), (b3, .inr (5, [.ref o_Heap, .ref a4_0, .ref a4_1, .int z4_5])), (a4_0, .inl (cI, z4_1, .inl z4_2)), (a4_1, .inl (cL, z4_3, .inr (.inl z4_4))), (b5, .inr (6, [.ref o_Stacks])), (b7, .inr (7, [.ref o_Stacks, .ref o_Heap, .ref o_Output]))] := hD
  obtain rfl := Option.some.inj h
  have hP9 := hP.sub (ws' := [(o_Machine, .inr (8, [.ref o_Program, .ref o_Stacks, .ref o_Heap, .ref b1, .ref b3, .ref b5, .ref b7, .int (-1), .int 0, .int 0, .int 0, .int 0, .int 0, .int 2000, .int 0])), (b1, .inr (4, [.ref o_Program, .ref o_Stacks, .ref o_Heap, .int z2_1])), (b3, .inr (5, [.ref o_Heap, .ref a4_0, .ref a4_1, .int z4_5])), (b5, .inr (6, [.ref o_Stacks])), (b7, .inr (7, [.ref o_Stacks, .ref o_Heap, .ref o_Output])), (a4_0, .inl (cI, z4_1, .inl z4_2)), (a4_1, .inl (cL, z4_3, .inr (.inl z4_4)))]) [0, 1, 2, 5, 6, 3, 4] rfl
  have hD9 := hD.sub (ws' := [(o_Machine, .inr (8, [.ref o_Program, .ref o_Stacks, .ref o_Heap, .ref b1, .ref b3, .ref b5, .ref b7, .int (-1), .int 0, .int 0, .int 0, .int 0, .int 0, .int 2000, .int 0])), (b1, .inr (4, [.ref o_Program, .ref o_Stacks, .ref o_Heap, .int z2_1])), (b3, .inr (5, [.ref o_Heap, .ref a4_0, .ref a4_1, .int z4_5])), (b5, .inr (6, [.ref o_Stacks])), (b7, .inr (7, [.ref o_Stacks, .ref o_Heap, .ref o_Output])), (a4_0, .inl (cI, z4_1, .inl z4_2)), (a4_1, .inl (cL, z4_3, .inr (.inl z4_4)))]) [0, 1, 2, 5, 6, 3, 4] (by decide) rfl
  have hK9 := hK.sub (tys' := [(cI, .int), (cL, .long)]) [0, 1] rfl
  refine W.widen (dz_Gc hG) (dz_Gs hG) ?_
  obtain ⟨rfl, -, -⟩ := hG
  exact W.vret hx hb hr (fun t ht hW => ⟨⟨(b1, b3, b5, b7, a4_0, a4_1), rfl, trivial, by rw [ht]; exact hP9, va_K.moved hW.alike hK9, hD9⟩, hS.F ht⟩) hS.2.2 d_Machine_init_84

set_option maxHeartbeats 4000000 in
set_option maxRecDepth 100000 in
theorem c_Engine_init (l : Launch) (dC : Nat → ClassId) (dI : Nat → Nat → Nat) (N : Nat) (cB : ClassId) (cI : ClassId) (cL : ClassId) (o_Engine : Nat) (sz : Nat) (Z1 : Nat × (Nat → Int32) × Int32 × Nat × (Nat → Int32) × Nat × (Nat → Int32) × Int32 × Int32 × Int32 × Nat × (Nat → Int32) × Int32 × Nat × (Nat → Int64) × Int32 × Nat × (Nat → Int32) × Nat × (Nat → Int32) × Nat × (Nat → Int32) × Nat × (Nat → Int64) × Int32 × Nat × (Nat → Int32) × Nat × (Nat → Int32) × Nat × (Nat → Int32) × Nat × (Nat → Int32) × Int32 × Nat × (Nat → Int64) × Int32 × Nat × (Nat → Int64) × Int32 × Nat × (Nat → Int64) × Int32 × Int32 × Int32 × Int32 × Int32 × Int32 × Int32 × Int32 × Int32 × Int32 × Nat × (Nat → Int64) × Int32 × Nat × (Nat → Int64) × Int32 × Int32 × Nat × (Nat → Int32) × Nat × (Nat → Int64) × Int32 × Int32 × Int32 × Int32 × Int32 × Int32 × Int32 × Int32 × Int32) (Zc Zs : Nat) (h : m_Engine_init N = some (Z1, Zc, Zs)) : Met l y_Engine_init (.code y_Engine_init b_Engine_init 2 none :: lw_g) ({ frames := 3, cells := Zc, slots := Zs, locals := 67 }) (va_Pc [.ref o_Engine] (fun U => dz_N U ∧ dz_N2 U ∧ U.heap.size = sz ∧ va_P (dC, dI) classes [(o_Engine, .inr (9, [.null, .null, .null, .null]))] U.heap ∧ va_K (dC, dI) classes [(cB, .byte), (cI, .int), (cL, .long)] U ∧ va_D (fun _ => True) [(o_Engine, .inr (9, [.null, .null, .null, .null]))])) (va_Qv (fun (_ : Nat × Nat × Nat × Nat × Nat × Nat × Nat × Nat × Nat × Nat × Nat × Nat × Nat × Nat × Nat × Nat × Nat × Nat × Nat × Nat × Nat × Nat × Nat × Nat × Nat × Nat × Nat × Nat × Nat) => True) (fun (u : Nat × Nat × Nat × Nat × Nat × Nat × Nat × Nat × Nat × Nat × Nat × Nat × Nat × Nat × Nat × Nat × Nat × Nat × Nat × Nat × Nat × Nat × Nat × Nat × Nat × Nat × Nat × Nat × Nat) t => va_P (dC, dI) classes [(o_Engine, .inr (9, [.ref u.1, .ref u.2.2.2.1, .ref u.2.1, .ref u.2.2.2.2.2.2.2.2.1])), (u.1, .inr (0, [.ref u.2.2.2.2.2.2.2.2.2.1, .int Z1.2.2.1, .ref u.2.2.2.2.2.2.2.2.2.2.1, .ref u.2.2.2.2.2.2.2.2.2.2.2.1, .int Z1.2.2.2.2.2.2.2.1, .int Z1.2.2.2.2.2.2.2.2.1, .int Z1.2.2.2.2.2.2.2.2.2.1])), (u.2.1, .inr (1, [.ref u.2.2.2.2.2.2.2.2.2.2.2.2.1, .int Z1.2.2.2.2.2.2.2.2.2.2.2.2.1])), (u.2.2.1, .inr (2, [.ref u.2.2.2.2.2.2.2.2.2.2.2.2.2.1, .int Z1.2.2.2.2.2.2.2.2.2.2.2.2.2.2.2.1, .ref u.2.2.2.2.2.2.2.2.2.2.2.2.2.2.1, .ref u.2.2.2.2.2.2.2.2.2.2.2.2.2.2.2.1, .ref u.2.2.2.2.2.2.2.2.2.2.2.2.2.2.2.2.1, .ref u.2.2.2.2.2.2.2.2.2.2.2.2.2.2.2.2.2.1, .int Z1.2.2.2.2.2.2.2.2.2.2.2.2.2.2.2.2.2.2.2.2.2.2.2.2.1, .ref u.2.2.2.2.2.2.2.2.2.2.2.2.2.2.2.2.2.2.1, .ref u.2.2.2.2.2.2.2.2.2.2.2.2.2.2.2.2.2.2.2.1, .ref u.2.2.2.2.2.2.2.2.2.2.2.2.2.2.2.2.2.2.2.2.1, .ref u.2.2.2.2.2.2.2.2.2.2.2.2.2.2.2.2.2.2.2.2.2.1, .int Z1.2.2.2.2.2.2.2.2.2.2.2.2.2.2.2.2.2.2.2.2.2.2.2.2.2.2.2.2.2.2.2.2.2.1])), (u.2.2.2.1, .inr (3, [.ref u.2.2.1, .ref u.2.2.2.2.2.2.2.2.2.2.2.2.2.2.2.2.2.2.2.2.2.2.1, .int Z1.2.2.2.2.2.2.2.2.2.2.2.2.2.2.2.2.2.2.2.2.2.2.2.2.2.2.2.2.2.2.2.2.2.2.2.2.1, .ref u.2.2.2.2.2.2.2.2.2.2.2.2.2.2.2.2.2.2.2.2.2.2.2.1, .int Z1.2.2.2.2.2.2.2.2.2.2.2.2.2.2.2.2.2.2.2.2.2.2.2.2.2.2.2.2.2.2.2.2.2.2.2.2.2.2.2.1, .ref u.2.2.2.2.2.2.2.2.2.2.2.2.2.2.2.2.2.2.2.2.2.2.2.2.1, .int Z1.2.2.2.2.2.2.2.2.2.2.2.2.2.2.2.2.2.2.2.2.2.2.2.2.2.2.2.2.2.2.2.2.2.2.2.2.2.2.2.2.2.2.1, .int Z1.2.2.2.2.2.2.2.2.2.2.2.2.2.2.2.2.2.2.2.2.2.2.2.2.2.2.2.2.2.2.2.2.2.2.2.2.2.2.2.2.2.2.2.1, .int Z1.2.2.2.2.2.2.2.2.2.2.2.2.2.2.2.2.2.2.2.2.2.2.2.2.2.2.2.2.2.2.2.2.2.2.2.2.2.2.2.2.2.2.2.2.1, .int Z1.2.2.2.2.2.2.2.2.2.2.2.2.2.2.2.2.2.2.2.2.2.2.2.2.2.2.2.2.2.2.2.2.2.2.2.2.2.2.2.2.2.2.2.2.2.1, .int Z1.2.2.2.2.2.2.2.2.2.2.2.2.2.2.2.2.2.2.2.2.2.2.2.2.2.2.2.2.2.2.2.2.2.2.2.2.2.2.2.2.2.2.2.2.2.2.1, .int Z1.2.2.2.2.2.2.2.2.2.2.2.2.2.2.2.2.2.2.2.2.2.2.2.2.2.2.2.2.2.2.2.2.2.2.2.2.2.2.2.2.2.2.2.2.2.2.2.1, .int Z1.2.2.2.2.2.2.2.2.2.2.2.2.2.2.2.2.2.2.2.2.2.2.2.2.2.2.2.2.2.2.2.2.2.2.2.2.2.2.2.2.2.2.2.2.2.2.2.2.1, .int Z1.2.2.2.2.2.2.2.2.2.2.2.2.2.2.2.2.2.2.2.2.2.2.2.2.2.2.2.2.2.2.2.2.2.2.2.2.2.2.2.2.2.2.2.2.2.2.2.2.2.1, .int Z1.2.2.2.2.2.2.2.2.2.2.2.2.2.2.2.2.2.2.2.2.2.2.2.2.2.2.2.2.2.2.2.2.2.2.2.2.2.2.2.2.2.2.2.2.2.2.2.2.2.2.1, .int Z1.2.2.2.2.2.2.2.2.2.2.2.2.2.2.2.2.2.2.2.2.2.2.2.2.2.2.2.2.2.2.2.2.2.2.2.2.2.2.2.2.2.2.2.2.2.2.2.2.2.2.2.1, .ref u.2.2.2.2.2.2.2.2.2.2.2.2.2.2.2.2.2.2.2.2.2.2.2.2.2.1, .int Z1.2.2.2.2.2.2.2.2.2.2.2.2.2.2.2.2.2.2.2.2.2.2.2.2.2.2.2.2.2.2.2.2.2.2.2.2.2.2.2.2.2.2.2.2.2.2.2.2.2.2.2.2.2.2.1, .ref u.2.2.2.2.2.2.2.2.2.2.2.2.2.2.2.2.2.2.2.2.2.2.2.2.2.2.1, .int Z1.2.2.2.2.2.2.2.2.2.2.2.2.2.2.2.2.2.2.2.2.2.2.2.2.2.2.2.2.2.2.2.2.2.2.2.2.2.2.2.2.2.2.2.2.2.2.2.2.2.2.2.2.2.2.2.2.2.1])), (u.2.2.2.2.1, .inr (4, [.ref u.1, .ref u.2.2.1, .ref u.2.2.2.1, .int Z1.2.2.2.2.2.2.2.2.2.2.2.2.2.2.2.2.2.2.2.2.2.2.2.2.2.2.2.2.2.2.2.2.2.2.2.2.2.2.2.2.2.2.2.2.2.2.2.2.2.2.2.2.2.2.2.2.2.2.1])), (u.2.2.2.2.2.1, .inr (5, [.ref u.2.2.2.1, .ref u.2.2.2.2.2.2.2.2.2.2.2.2.2.2.2.2.2.2.2.2.2.2.2.2.2.2.2.1, .ref u.2.2.2.2.2.2.2.2.2.2.2.2.2.2.2.2.2.2.2.2.2.2.2.2.2.2.2.2, .int Z1.2.2.2.2.2.2.2.2.2.2.2.2.2.2.2.2.2.2.2.2.2.2.2.2.2.2.2.2.2.2.2.2.2.2.2.2.2.2.2.2.2.2.2.2.2.2.2.2.2.2.2.2.2.2.2.2.2.2.2.2.2.2.2.1])), (u.2.2.2.2.2.2.1, .inr (6, [.ref u.2.2.1])), (u.2.2.2.2.2.2.2.1, .inr (7, [.ref u.2.2.1, .ref u.2.2.2.1, .ref u.2.1])), (u.2.2.2.2.2.2.2.2.1, .inr (8, [.ref u.1, .ref u.2.2.1, .ref u.2.2.2.1, .ref u.2.2.2.2.1, .ref u.2.2.2.2.2.1, .ref u.2.2.2.2.2.2.1, .ref u.2.2.2.2.2.2.2.1, .int Z1.2.2.2.2.2.2.2.2.2.2.2.2.2.2.2.2.2.2.2.2.2.2.2.2.2.2.2.2.2.2.2.2.2.2.2.2.2.2.2.2.2.2.2.2.2.2.2.2.2.2.2.2.2.2.2.2.2.2.2.2.2.2.2.2.1, .int Z1.2.2.2.2.2.2.2.2.2.2.2.2.2.2.2.2.2.2.2.2.2.2.2.2.2.2.2.2.2.2.2.2.2.2.2.2.2.2.2.2.2.2.2.2.2.2.2.2.2.2.2.2.2.2.2.2.2.2.2.2.2.2.2.2.2.1, .int Z1.2.2.2.2.2.2.2.2.2.2.2.2.2.2.2.2.2.2.2.2.2.2.2.2.2.2.2.2.2.2.2.2.2.2.2.2.2.2.2.2.2.2.2.2.2.2.2.2.2.2.2.2.2.2.2.2.2.2.2.2.2.2.2.2.2.2.1, .int Z1.2.2.2.2.2.2.2.2.2.2.2.2.2.2.2.2.2.2.2.2.2.2.2.2.2.2.2.2.2.2.2.2.2.2.2.2.2.2.2.2.2.2.2.2.2.2.2.2.2.2.2.2.2.2.2.2.2.2.2.2.2.2.2.2.2.2.2.1, .int Z1.2.2.2.2.2.2.2.2.2.2.2.2.2.2.2.2.2.2.2.2.2.2.2.2.2.2.2.2.2.2.2.2.2.2.2.2.2.2.2.2.2.2.2.2.2.2.2.2.2.2.2.2.2.2.2.2.2.2.2.2.2.2.2.2.2.2.2.2.1, .int Z1.2.2.2.2.2.2.2.2.2.2.2.2.2.2.2.2.2.2.2.2.2.2.2.2.2.2.2.2.2.2.2.2.2.2.2.2.2.2.2.2.2.2.2.2.2.2.2.2.2.2.2.2.2.2.2.2.2.2.2.2.2.2.2.2.2.2.2.2.2.1, .int Z1.2.2.2.2.2.2.2.2.2.2.2.2.2.2.2.2.2.2.2.2.2.2.2.2.2.2.2.2.2.2.2.2.2.2.2.2.2.2.2.2.2.2.2.2.2.2.2.2.2.2.2.2.2.2.2.2.2.2.2.2.2.2.2.2.2.2.2.2.2.2.1, .int Z1.2.2.2.2.2.2.2.2.2.2.2.2.2.2.2.2.2.2.2.2.2.2.2.2.2.2.2.2.2.2.2.2.2.2.2.2.2.2.2.2.2.2.2.2.2.2.2.2.2.2.2.2.2.2.2.2.2.2.2.2.2.2.2.2.2.2.2.2.2.2.2])), (u.2.2.2.2.2.2.2.2.2.1, .inl (cI, Z1.1, .inl Z1.2.1)), (u.2.2.2.2.2.2.2.2.2.2.1, .inl (cB, Z1.2.2.2.1, .inl Z1.2.2.2.2.1)), (u.2.2.2.2.2.2.2.2.2.2.2.1, .inl (cI, Z1.2.2.2.2.2.1, .inl Z1.2.2.2.2.2.2.1)), (u.2.2.2.2.2.2.2.2.2.2.2.2.1, .inl (cB, Z1.2.2.2.2.2.2.2.2.2.2.1, .inl Z1.2.2.2.2.2.2.2.2.2.2.2.1)), (u.2.2.2.2.2.2.2.2.2.2.2.2.2.1, .inl (cL, Z1.2.2.2.2.2.2.2.2.2.2.2.2.2.1, .inr (.inl Z1.2.2.2.2.2.2.2.2.2.2.2.2.2.2.1))), (u.2.2.2.2.2.2.2.2.2.2.2.2.2.2.1, .inl (cI, Z1.2.2.2.2.2.2.2.2.2.2.2.2.2.2.2.2.1, .inl Z1.2.2.2.2.2.2.2.2.2.2.2.2.2.2.2.2.2.1)), (u.2.2.2.2.2.2.2.2.2.2.2.2.2.2.2.1, .inl (cI, Z1.2.2.2.2.2.2.2.2.2.2.2.2.2.2.2.2.2.2.1, .inl Z1.2.2.2.2.2.2.2.2.2.2.2.2.2.2.2.2.2.2.2.1)), (u.2.2.2.2.2.2.2.2.2.2.2.2.2.2.2.2.1, .inl (cI, Z1.2.2.2.2.2.2.2.2.2.2.2.2.2.2.2.2.2.2.2.2.1, .inl Z1.2.2.2.2.2.2.2.2.2.2.2.2.2.2.2.2.2.2.2.2.2.1)), (u.2.2.2.2.2.2.2.2.2.2.2.2.2.2.2.2.2.1, .inl (cL, Z1.2.2.2.2.2.2.2.2.2.2.2.2.2.2.2.2.2.2.2.2.2.2.1, .inr (.inl Z1.2.2.2.2.2.2.2.2.2.2.2.2.2.2.2.2.2.2.2.2.2.2.2.1))), (u.2.2.2.2.2.2.2.2.2.2.2.2.2.2.2.2.2.2.1, .inl (cI, Z1.2.2.2.2.2.2.2.2.2.2.2.2.2.2.2.2.2.2.2.2.2.2.2.2.2.1, .inl Z1.2.2.2.2.2.2.2.2.2.2.2.2.2.2.2.2.2.2.2.2.2.2.2.2.2.2.1)), (u.2.2.2.2.2.2.2.2.2.2.2.2.2.2.2.2.2.2.2.1, .inl (cI, Z1.2.2.2.2.2.2.2.2.2.2.2.2.2.2.2.2.2.2.2.2.2.2.2.2.2.2.2.1, .inl Z1.2.2.2.2.2.2.2.2.2.2.2.2.2.2.2.2.2.2.2.2.2.2.2.2.2.2.2.2.1)), (u.2.2.2.2.2.2.2.2.2.2.2.2.2.2.2.2.2.2.2.2.1, .inl (cI, Z1.2.2.2.2.2.2.2.2.2.2.2.2.2.2.2.2.2.2.2.2.2.2.2.2.2.2.2.2.2.1, .inl Z1.2.2.2.2.2.2.2.2.2.2.2.2.2.2.2.2.2.2.2.2.2.2.2.2.2.2.2.2.2.2.1)), (u.2.2.2.2.2.2.2.2.2.2.2.2.2.2.2.2.2.2.2.2.2.1, .inl (cI, Z1.2.2.2.2.2.2.2.2.2.2.2.2.2.2.2.2.2.2.2.2.2.2.2.2.2.2.2.2.2.2.2.1, .inl Z1.2.2.2.2.2.2.2.2.2.2.2.2.2.2.2.2.2.2.2.2.2.2.2.2.2.2.2.2.2.2.2.2.1)), (u.2.2.2.2.2.2.2.2.2.2.2.2.2.2.2.2.2.2.2.2.2.2.1, .inl (cL, Z1.2.2.2.2.2.2.2.2.2.2.2.2.2.2.2.2.2.2.2.2.2.2.2.2.2.2.2.2.2.2.2.2.2.2.1, .inr (.inl Z1.2.2.2.2.2.2.2.2.2.2.2.2.2.2.2.2.2.2.2.2.2.2.2.2.2.2.2.2.2.2.2.2.2.2.2.1))), (u.2.2.2.2.2.2.2.2.2.2.2.2.2.2.2.2.2.2.2.2.2.2.2.1, .inl (cL, Z1.2.2.2.2.2.2.2.2.2.2.2.2.2.2.2.2.2.2.2.2.2.2.2.2.2.2.2.2.2.2.2.2.2.2.2.2.2.1, .inr (.inl Z1.2.2.2.2.2.2.2.2.2.2.2.2.2.2.2.2.2.2.2.2.2.2.2.2.2.2.2.2.2.2.2.2.2.2.2.2.2.2.1))), (u.2.2.2.2.2.2.2.2.2.2.2.2.2.2.2.2.2.2.2.2.2.2.2.2.1, .inl (cL, Z1.2.2.2.2.2.2.2.2.2.2.2.2.2.2.2.2.2.2.2.2.2.2.2.2.2.2.2.2.2.2.2.2.2.2.2.2.2.2.2.2.1, .inr (.inl Z1.2.2.2.2.2.2.2.2.2.2.2.2.2.2.2.2.2.2.2.2.2.2.2.2.2.2.2.2.2.2.2.2.2.2.2.2.2.2.2.2.2.1))), (u.2.2.2.2.2.2.2.2.2.2.2.2.2.2.2.2.2.2.2.2.2.2.2.2.2.1, .inl (cL, Z1.2.2.2.2.2.2.2.2.2.2.2.2.2.2.2.2.2.2.2.2.2.2.2.2.2.2.2.2.2.2.2.2.2.2.2.2.2.2.2.2.2.2.2.2.2.2.2.2.2.2.2.2.1, .inr (.inl Z1.2.2.2.2.2.2.2.2.2.2.2.2.2.2.2.2.2.2.2.2.2.2.2.2.2.2.2.2.2.2.2.2.2.2.2.2.2.2.2.2.2.2.2.2.2.2.2.2.2.2.2.2.2.1))), (u.2.2.2.2.2.2.2.2.2.2.2.2.2.2.2.2.2.2.2.2.2.2.2.2.2.2.1, .inl (cL, Z1.2.2.2.2.2.2.2.2.2.2.2.2.2.2.2.2.2.2.2.2.2.2.2.2.2.2.2.2.2.2.2.2.2.2.2.2.2.2.2.2.2.2.2.2.2.2.2.2.2.2.2.2.2.2.2.1, .inr (.inl Z1.2.2.2.2.2.2.2.2.2.2.2.2.2.2.2.2.2.2.2.2.2.2.2.2.2.2.2.2.2.2.2.2.2.2.2.2.2.2.2.2.2.2.2.2.2.2.2.2.2.2.2.2.2.2.2.2.1))), (u.2.2.2.2.2.2.2.2.2.2.2.2.2.2.2.2.2.2.2.2.2.2.2.2.2.2.2.1, .inl (cI, Z1.2.2.2.2.2.2.2.2.2.2.2.2.2.2.2.2.2.2.2.2.2.2.2.2.2.2.2.2.2.2.2.2.2.2.2.2.2.2.2.2.2.2.2.2.2.2.2.2.2.2.2.2.2.2.2.2.2.2.2.1, .inl Z1.2.2.2.2.2.2.2.2.2.2.2.2.2.2.2.2.2.2.2.2.2.2.2.2.2.2.2.2.2.2.2.2.2.2.2.2.2.2.2.2.2.2.2.2.2.2.2.2.2.2.2.2.2.2.2.2.2.2.2.2.1)), (u.2.2.2.2.2.2.2.2.2.2.2.2.2.2.2.2.2.2.2.2.2.2.2.2.2.2.2.2, .inl (cL, Z1.2.2.2.2.2.2.2.2.2.2.2.2.2.2.2.2.2.2.2.2.2.2.2.2.2.2.2.2.2.2.2.2.2.2.2.2.2.2.2.2.2.2.2.2.2.2.2.2.2.2.2.2.2.2.2.2.2.2.2.2.2.1, .inr (.inl Z1.2.2.2.2.2.2.2.2.2.2.2.2.2.2.2.2.2.2.2.2.2.2.2.2.2.2.2.2.2.2.2.2.2.2.2.2.2.2.2.2.2.2.2.2.2.2.2.2.2.2.2.2.2.2.2.2.2.2.2.2.2.2.1)))] t.heap ∧ va_K (dC, dI) classes [(cB, .byte), (cI, .int), (cL, .long)] t ∧ va_D (va_A [(o_Engine, .inr (9, [.null, .null, .null, .null]))] sz) [(o_Engine, .inr (9, [.ref u.1, .ref u.2.2.2.1, .ref u.2.1, .ref u.2.2.2.2.2.2.2.2.1])), (u.1, .inr (0, [.ref u.2.2.2.2.2.2.2.2.2.1, .int Z1.2.2.1, .ref u.2.2.2.2.2.2.2.2.2.2.1, .ref u.2.2.2.2.2.2.2.2.2.2.2.1, .int Z1.2.2.2.2.2.2.2.1, .int Z1.2.2.2.2.2.2.2.2.1, .int Z1.2.2.2.2.2.2.2.2.2.1])), (u.2.1, .inr (1, [.ref u.2.2.2.2.2.2.2.2.2.2.2.2.1, .int Z1.2.2.2.2.2.2.2.2.2.2.2.2.1])), (u.2.2.1, .inr (2, [.ref u.2.2.2.2.2.2.2.2.2.2.2.2.2.1, .int Z1.2.2.2.2.2.2.2.2.2.2.2.2.2.2.2.1, .ref u.2.2.2.2.2.2.2.2.2.2.2.2.2.2.1, .ref u.2.2.2.2.2.2.2.2.2.2.2.2.2.2.2.1, .ref u.2.2.2.2.2.2.2.2.2.2.2.2.2.2.2.2.1, .ref u.2.2.2.2.2.2.2.2.2.2.2.2.2.2.2.2.2.1, .int Z1.2.2.2.2.2.2.2.2.2.2.2.2.2.2.2.2.2.2.2.2.2.2.2.2.1, .ref u.2.2.2.2.2.2.2.2.2.2.2.2.2.2.2.2.2.2.1, .ref u.2.2.2.2.2.2.2.2.2.2.2.2.2.2.2.2.2.2.2.1, .ref u.2.2.2.2.2.2.2.2.2.2.2.2.2.2.2.2.2.2.2.2.1, .ref u.2.2.2.2.2.2.2.2.2.2.2.2.2.2.2.2.2.2.2.2.2.1, .int Z1.2.2.2.2.2.2.2.2.2.2.2.2.2.2.2.2.2.2.2.2.2.2.2.2.2.2.2.2.2.2.2.2.2.1])), (u.2.2.2.1, .inr (3, [.ref u.2.2.1, .ref u.2.2.2.2.2.2.2.2.2.2.2.2.2.2.2.2.2.2.2.2.2.2.1, .int Z1.2.2.2.2.2.2.2.2.2.2.2.2.2.2.2.2.2.2.2.2.2.2.2.2.2.2.2.2.2.2.2.2.2.2.2.2.1, .ref u.2.2.2.2.2.2.2.2.2.2.2.2.2.2.2.2.2.2.2.2.2.2.2.1, .int Z1.2.2.2.2.2.2.2.2.2.2.2.2.2.2.2.2.2.2.2.2.2.2.2.2.2.2.2.2.2.2.2.2.2.2.2.2.2.2.2.1, .ref u.2.2.2.2.2.2.2.2.2.2.2.2.2.2.2.2.2.2.2.2.2.2.2.2.1, .int Z1.2.2.2.2.2.2.2.2.2.2.2.2.2.2.2.2.2.2.2.2.2.2.2.2.2.2.2.2.2.2.2.2.2.2.2.2.2.2.2.2.2.2.1, .int Z1.2.2.2.2.2.2.2.2.2.2.2.2.2.2.2.2.2.2.2.2.2.2.2.2.2.2.2.2.2.2.2.2.2.2.2.2.2.2.2.2.2.2.2.1, .int Z1.2.2.2.2.2.2.2.2.2.2.2.2.2.2.2.2.2.2.2.2.2.2.2.2.2.2.2.2.2.2.2.2.2.2.2.2.2.2.2.2.2.2.2.2.1, .int Z1.2.2.2.2.2.2.2.2.2.2.2.2.2.2.2.2.2.2.2.2.2.2.2.2.2.2.2.2.2.2.2.2.2.2.2.2.2.2.2.2.2.2.2.2.2.1, .int Z1.2.2.2.2.2.2.2.2.2.2.2.2.2.2.2.2.2.2.2.2.2.2.2.2.2.2.2.2.2.2.2.2.2.2.2.2.2.2.2.2.2.2.2.2.2.2.1, .int Z1.2.2.2.2.2.2.2.2.2.2.2.2.2.2.2.2.2.2.2.2.2.2.2.2.2.2.2.2.2.2.2.2.2.2.2.2.2.2.2.2.2.2.2.2.2.2.2.1, .int Z1.2.2.2.2.2.2.2.2.2.2.2.2.2.2.2.2.2.2.2.2.2.2.2.2.2.2.2.2.2.2.2.2.2.2.2.2.2.2.2.2.2.2.2.2.2.2.2.2.1, .int Z1.2.2.2.2.2.2.2.2.2.2.2.2.2.2.2.2.2.2.2.2.2.2.2.2.2.2.2.2.2.2.2.2.2.2.2.2.2.2.2.2.2.2.2.2.2.2.2.2.2.1, .int Z1.2.2.2.2.2.2.2.2.2.2.2.2.2.2.2.2.2.2.2.2.2.2.2.2.2.2.2.2.2.2.2.2.2.2.2.2.2.2.2.2.2.2.2.2.2.2.2.2.2.2.1, .int Z1.2.2.2.2.2.2.2.2.2.2.2.2.2.2.2.2.2.2.2.2.2.2.2.2.2.2.2.2.2.2.2.2.2.2.2.2.2.2.2.2.2.2.2.2.2.2.2.2.2.2.2.1, .ref u.2.2.2.2.2.2.2.2.2.2.2.2.2.2.2.2.2.2.2.2.2.2.2.2.2.1, .int Z1.2.2.2.2.2.2.2.2.2.2.2.2.2.2.2.2.2.2.2.2.2.2.2.2.2.2.2.2.2.2.2.2.2.2.2.2.2.2.2.2.2.2.2.2.2.2.2.2.2.2.2.2.2.2.1, .ref u.2.2.2.2.2.2.2.2.2.2.2.2.2.2.2.2.2.2.2.2.2.2.2.2.2.2.1, .int Z1.2.2.2.2.2.2.2.2.2.2.2.2.2.2.2.2.2.2.2.2.2.2.2.2.2.2.2.2.2.2.2.2.2.2.2.2.2.2.2.2.2.2.2.2.2.2.2.2.2.2.2.2.2.2.2.2.2.1])), (u.2.2.2.2.1, .inr (4, [.ref u.1, .ref u.2.2.1, .ref u.2.2.2.1, .int Z1.2.2.2.2.2.2.2.2.2.2.2.2.2.2.2.2.2.2.2.2.2.2.2.2.2.2.2.2.2.2.2.2.2.2.2.2.2.2.2.2.2.2.2.2.2.2.2.2.2.2.2.2.2.2.2.2.2.2.1])), (u.2.2.2.2.2.1, .inr (5, [.ref u.2.2.2.1, .ref u.2.2.2.2.2.2.2.2.2.2.2.2.2.2.2.2.2.2.2.2.2.2.2.2.2.2.2.1, .ref u.2.2.2.2.2.2.2.2.2.2.2.2.2.2.2.2.2.2.2.2.2.2.2.2.2.2.2.2, .int Z1.2.2.2.2.2.2.2.2.2.2.2.2.2.2.2.2.2.2.2.2.2.2.2.2.2.2.2.2.2.2.2.2.2.2.2.2.2.2.2.2.2.2.2.2.2.2.2.2.2.2.2.2.2.2.2.2.2.2.2.2.2.2.2.1])), (u.2.2.2.2.2.2.1, .inr (6, [.ref u.2.2.1])), (u.2.2.2.2.2.2.2.1, .inr (7, [.ref u.2.2.1, .ref u.2.2.2.1, .ref u.2.1])), (u.2.2.2.2.2.2.2.2.1, .inr (8, [.ref u.1, .ref u.2.2.1, .ref u.2.2.2.1, .ref u.2.2.2.2.1, .ref u.2.2.2.2.2.1, .ref u.2.2.2.2.2.2.1, .ref u.2.2.2.2.2.2.2.1, .int Z1.2.2.2.2.2.2.2.2.2.2.2.2.2.2.2.2.2.2.2.2.2.2.2.2.2.2.2.2.2.2.2.2.2.2.2.2.2.2.2.2.2.2.2.2.2.2.2.2.2.2.2.2.2.2.2.2.2.2.2.2.2.2.2.2.1, .int Z1.2.2.2.2.2.2.2.2.2.2.2.2.2.2.2.2.2.2.2.2.2.2.2.2.2.2.2.2.2.2.2.2.2.2.2.2.2.2.2.2.2.2.2.2.2.2.2.2.2.2.2.2.2.2.2.2.2.2.2.2.2.2.2.2.2.1, .int Z1.2.2.2.2.2.2.2.2.2.2.2.2.2.2.2.2.2.2.2.2.2.2.2.2.2.2.2.2.2.2.2.2.2.2.2.2.2.2.2.2.2.2.2.2.2.2.2.2.2.2.2.2.2.2.2.2.2.2.2.2.2.2.2.2.2.2.1, .int Z1.2.2.2.2.2.2.2.2.2.2.2.2.2.2.2.2.2.2.2.2.2.2.2.2.2.2.2.2.2.2.2.2.2.2.2.2.2.2.2.2.2.2.2.2.2.2.2.2.2.2.2.2.2.2.2.2.2.2.2.2.2.2.2.2.2.2.2.1, .int Z1.2.2.2.2.2.2.2.2.2.2.2.2.2.2.2.2.2.2.2.2.2.2.2.2.2.2.2.2.2.2.2.2.2.2.2.2.2.2.2.2.2.2.2.2.2.2.2.2.2.2.2.2.2.2.2.2.2.2.2.2.2.2.2.2.2.2.2.2.1, .int Z1.2.2.2.2.2.2.2.2.2.2.2.2.2.2.2.2.2.2.2.2.2.2.2.2.2.2.2.2.2.2.2.2.2.2.2.2.2.2.2.2.2.2.2.2.2.2.2.2.2.2.2.2.2.2.2.2.2.2.2.2.2.2.2.2.2.2.2.2.2.1, .int Z1.2.2.2.2.2.2.2.2.2.2.2.2.2.2.2.2.2.2.2.2.2.2.2.2.2.2.2.2.2.2.2.2.2.2.2.2.2.2.2.2.2.2.2.2.2.2.2.2.2.2.2.2.2.2.2.2.2.2.2.2.2.2.2.2.2.2.2.2.2.2.1, .int Z1.2.2.2.2.2.2.2.2.2.2.2.2.2.2.2.2.2.2.2.2.2.2.2.2.2.2.2.2.2.2.2.2.2.2.2.2.2.2.2.2.2.2.2.2.2.2.2.2.2.2.2.2.2.2.2.2.2.2.2.2.2.2.2.2.2.2.2.2.2.2.2])), (u.2.2.2.2.2.2.2.2.2.1, .inl (cI, Z1.1, .inl Z1.2.1)), (u.2.2.2.2.2.2.2.2.2.2.1, .inl (cB, Z1.2.2.2.1, .inl Z1.2.2.2.2.1)), (u.2.2.2.2.2.2.2.2.2.2.2.1, .inl (cI, Z1.2.2.2.2.2.1, .inl Z1.2.2.2.2.2.2.1)), (u.2.2.2.2.2.2.2.2.2.2.2.2.1, .inl (cB, Z1.2.2.2.2.2.2.2.2.2.2.1, .inl Z1.2.2.2.2.2.2.2.2.2.2.2.1)), (u.2.2.2.2.2.2.2.2.2.2.2.2.2.1, .inl (cL, Z1.2.2.2.2.2.2.2.2.2.2.2.2.2.1, .inr (.inl Z1.2.2.2.2.2.2.2.2.2.2.2.2.2.2.1))), (u.2.2.2.2.2.2.2.2.2.2.2.2.2.2.1, .inl (cI, Z1.2.2.2.2.2.2.2.2.2.2.2.2.2.2.2.2.1, .inl Z1.2.2.2.2.2.2.2.2.2.2.2.2.2.2.2.2.2.1)), (u.2.2.2.2.2.2.2.2.2.2.2.2.2.2.2.1, .inl (cI, Z1.2.2.2.2.2.2.2.2.2.2.2.2.2.2.2.2.2.2.1, .inl Z1.2.2.2.2.2.2.2.2.2.2.2.2.2.2.2.2.2.2.2.1)), (u.2.2.2.2.2.2.2.2.2.2.2.2.2.2.2.2.1, .inl (cI, Z1.2.2.2.2.2.2.2.2.2.2.2.2.2.2.2.2.2.2.2.2.1, .inl Z1.2.2.2.2.2.2.2.2.2.2.2.2.2.2.2.2.2.2.2.2.2.1)), (u.2.2.2.2.2.2.2.2.2.2.2.2.2.2.2.2.2.1, .inl (cL, Z1.2.2.2.2.2.2.2.2.2.2.2.2.2.2.2.2.2.2.2.2.2.2.1, .inr (.inl Z1.2.2.2.2.2.2.2.2.2.2.2.2.2.2.2.2.2.2.2.2.2.2.2.1))), (u.2.2.2.2.2.2.2.2.2.2.2.2.2.2.2.2.2.2.1, .inl (cI, Z1.2.2.2.2.2.2.2.2.2.2.2.2.2.2.2.2.2.2.2.2.2.2.2.2.2.1, .inl Z1.2.2.2.2.2.2.2.2.2.2.2.2.2.2.2.2.2.2.2.2.2.2.2.2.2.2.1)), (u.2.2.2.2.2.2.2.2.2.2.2.2.2.2.2.2.2.2.2.1, .inl (cI, Z1.2.2.2.2.2.2.2.2.2.2.2.2.2.2.2.2.2.2.2.2.2.2.2.2.2.2.2.1, .inl Z1.2.2.2.2.2.2.2.2.2.2.2.2.2.2.2.2.2.2.2.2.2.2.2.2.2.2.2.2.1)), (u.2.2.2.2.2.2.2.2.2.2.2.2.2.2.2.2.2.2.2.2.1, .inl (cI, Z1.2.2.2.2.2.2.2.2.2.2.2.2.2.2.2.2.2.2.2.2.2.2.2.2.2.2.2.2.2.1, .inl Z1.2.2.2.2.2.2.2.2.2.2.2.2.2.2.2.2.2.2.2.2.2.2.2.2.2.2.2.2.2.2.1)), (u.2.2.2.2.2.2.2.2.2.2.2.2.2.2.2.2.2.2.2.2.2.1, .inl (cI, Z1.2.2.2.2.2.2.2.2.2.2.2.2.2.2.2.2.2.2.2.2.2.2.2.2.2.2.2.2.2.2.2.1, .inl Z1.2.2.2.2.2.2.2.2.2.2.2.2.2.2.2.2.2.2.2.2.2.2.2.2.2.2.2.2.2.2.2.2.1)), (u.2.2.2.2.2.2.2.2.2.2.2.2.2.2.2.2.2.2.2.2.2.2.1, .inl (cL, Z1.2.2.2.2.2.2.2.2.2.2.2.2.2.2.2.2.2.2.2.2.2.2.2.2.2.2.2.2.2.2.2.2.2.2.1, .inr (.inl Z1.2.2.2.2.2.2.2.2.2.2.2.2.2.2.2.2.2.2.2.2.2.2.2.2.2.2.2.2.2.2.2.2.2.2.2.1))), (u.2.2.2.2.2.2.2.2.2.2.2.2.2.2.2.2.2.2.2.2.2.2.2.1, .inl (cL, Z1.2.2.2.2.2.2.2.2.2.2.2.2.2.2.2.2.2.2.2.2.2.2.2.2.2.2.2.2.2.2.2.2.2.2.2.2.2.1, .inr (.inl Z1.2.2.2.2.2.2.2.2.2.2.2.2.2.2.2.2.2.2.2.2.2.2.2.2.2.2.2.2.2.2.2.2.2.2.2.2.2.2.1))), (u.2.2.2.2.2.2.2.2.2.2.2.2.2.2.2.2.2.2.2.2.2.2.2.2.1, .inl (cL, Z1.2.2.2.2.2.2.2.2.2.2.2.2.2.2.2.2.2.2.2.2.2.2.2.2.2.2.2.2.2.2.2.2.2.2.2.2.2.2.2.2.1, .inr (.inl Z1.2.2.2.2.2.2.2.2.2.2.2.2.2.2.2.2.2.2.2.2.2.2.2.2.2.2.2.2.2.2.2.2.2.2.2.2.2.2.2.2.2.1))), (u.2.2.2.2.2.2.2.2.2.2.2.2.2.2.2.2.2.2.2.2.2.2.2.2.2.1, .inl (cL, Z1.2.2.2.2.2.2.2.2.2.2.2.2.2.2.2.2.2.2.2.2.2.2.2.2.2.2.2.2.2.2.2.2.2.2.2.2.2.2.2.2.2.2.2.2.2.2.2.2.2.2.2.2.1, .inr (.inl Z1.2.2.2.2.2.2.2.2.2.2.2.2.2.2.2.2.2.2.2.2.2.2.2.2.2.2.2.2.2.2.2.2.2.2.2.2.2.2.2.2.2.2.2.2.2.2.2.2.2.2.2.2.2.1))), (u.2.2.2.2.2.2.2.2.2.2.2.2.2.2.2.2.2.2.2.2.2.2.2.2.2.2.1, .inl (cL, Z1.2.2.2.2.2.2.2.2.2.2.2.2.2.2.2.2.2.2.2.2.2.2.2.2.2.2.2.2.2.2.2.2.2.2.2.2.2.2.2.2.2.2.2.2.2.2.2.2.2.2.2.2.2.2.2.1, .inr (.inl Z1.2.2.2.2.2.2.2.2.2.2.2.2.2.2.2.2.2.2.2.2.2.2.2.2.2.2.2.2.2.2.2.2.2.2.2.2.2.2.2.2.2.2.2.2.2.2.2.2.2.2.2.2.2.2.2.2.1))), (u.2.2.2.2.2.2.2.2.2.2.2.2.2.2.2.2.2.2.2.2.2.2.2.2.2.2.2.1, .inl (cI, Z1.2.2.2.2.2.2.2.2.2.2.2.2.2.2.2.2.2.2.2.2.2.2.2.2.2.2.2.2.2.2.2.2.2.2.2.2.2.2.2.2.2.2.2.2.2.2.2.2.2.2.2.2.2.2.2.2.2.2.2.1, .inl Z1.2.2.2.2.2.2.2.2.2.2.2.2.2.2.2.2.2.2.2.2.2.2.2.2.2.2.2.2.2.2.2.2.2.2.2.2.2.2.2.2.2.2.2.2.2.2.2.2.2.2.2.2.2.2.2.2.2.2.2.2.1)), (u.2.2.2.2.2.2.2.2.2.2.2.2.2.2.2.2.2.2.2.2.2.2.2.2.2.2.2.2, .inl (cL, Z1.2.2.2.2.2.2.2.2.2.2.2.2.2.2.2.2.2.2.2.2.2.2.2.2.2.2.2.2.2.2.2.2.2.2.2.2.2.2.2.2.2.2.2.2.2.2.2.2.2.2.2.2.2.2.2.2.2.2.2.2.2.1, .inr (.inl Z1.2.2.2.2.2.2.2.2.2.2.2.2.2.2.2.2.2.2.2.2.2.2.2.2.2.2.2.2.2.2.2.2.2.2.2.2.2.2.2.2.2.2.2.2.2.2.2.2.2.2.2.2.2.2.2.2.2.2.2.2.2.2.1)))]) (va_A [(o_Engine, .inr (9, [.null, .null, .null, .null]))] sz)) Zc Zs (va_A [(o_Engine, .inr (9, [.null, .null, .null, .null]))] sz) := by
  refine Met.ofW (cc := b_Engine_init) (maxL := 2) (ret := none) (by decide +kernel) rfl ?_
  intro p e s m args below meth c s₁ B hml hv
  obtain ⟨rfl, hN, hN2, hsz, hP, hK, hD0⟩ := hv
  have hx := B.exec
  have hb := B.bytes
  have hr := B.returns
  have hg : ∀ w ∈ lw_g, w.before _ s = true := fun w hw => atoms_spec (ws := .code y_Engine_init b_Engine_init 2 none :: lw_g) B.pre w (List.mem_cons_of_mem _ hw)
  have hown : s.vm.findClass R_Engine = some m.cls := findClass_of_methodNamed B.named
  have hlocks := B.notSynchronized
  have hin : meth.name = "<init>" := (name_of_methodNamed B.named B.method).1
  clear B
  subst hsz
  have hD := hD0.self (sz := s.heap.size)
  generalize hAe : va_A [(o_Engine, .inr (9, [.null, .null, .null, .null]))] s.heap.size = A at hD ⊢
  have hA : ∀ q : Nat, s.heap.size ≤ q → A q := fun q h => by rw [← hAe]; exact Or.inr h
  have hS : va_S A s.heap s.heap [] := va_S.rf
  have hP : va_P (dC, dI) classes [(o_Engine, .inr (9, [.null, .null, .null, .null]))] s.heap := hP
  have hl := lv_entry ([.ref o_Engine]) (n := 2) (Nat.le_of_ble_eq_true rfl)
  rw [lg_entry_eq]
  generalize (lg_sl ([.ref o_Engine]) ++ List.replicate (2 - (lg_sl ([.ref o_Engine])).length) Slot.unset).toArray = ls at hl ⊢
  have hl : lv_has ls 2 [(0, .ref o_Engine)] := hl
  unfold m_Engine_init at h
  have hG : dz_G Z1 Zc Zs (Z1, Zc, Zs) 0 0 := ⟨rfl, (Nat.zero_add _).symm, (Nat.zero_add _).symm⟩
  generalize (Z1, Zc, Zs) = z at h hG
  refine lv_aload_n hx hb d_Engine_init_0 rfl (lv_at hl 0 rfl) ?_
  refine W.objInit hx hb hown (hg _ k1086) (hg _ k1054) (hg _ k1055) rfl (by rw [hml]; exact hl.1) rfl d_Engine_init_1 (Nat.le_of_ble_eq_true rfl) (Nat.le_of_ble_eq_true rfl) ?_
  refine W.eq (g2 := F0 m 4 ls []) rfl ?_
  obtain ⟨z, h, hG⟩ := dz_tkG h hG
  refine va_new (D := (dC, dI)) (ci := 2) (fs := [.null, .int 0, .null, .null, .null, .null, .int 0, .null, .null, .null, .null, .int 0]) (C := R_Stacks) (T := F_Stacks) (N := 12) hx hb hg i_Stacks t_Stacks t_Stacks_ok hown (hg _ k1087) (hg _ k1088) (hg _ k64) hK hP hD hS hA rfl (fun j hj => by rcases (show j = 0 ∨ j = 1 ∨ j = 2 ∨ j = 3 ∨ j = 4 ∨ j = 5 ∨ j = 6 ∨ j = 7 ∨ j = 8 ∨ j = 9 ∨ j = 10 ∨ j = 11 by omega) with rfl | rfl | rfl | rfl | rfl | rfl | rfl | rfl | rfl | rfl | rfl | rfl <;> rfl) (dz_Gc hG) (dz_Gs hG) d_Engine_init_4 (fun b1 H hP hD hS => ?_)
  have hP : va_P (dC, dI) classes [(o_Engine, .inr (9, [.null, .null, .null, .null])), (b1, .inr (2, [.null, .int 0, .null, .null, .null, .null, .int 0, .null, .null, .null, .null, .int 0]))] H := hP
  have hD : va_D A [(o_Engine, .inr (9, [.null, .null, .null, .null])), (b1, .inr (2, [.null, .int 0, .null, .null, .null, .null, .int 0, .null, .null, .null, .null, .int 0]))] := hD
  refine lv_dup hx hb d_Engine_init_7 rfl ?_
  obtain ⟨⟨⟨z2_1, z2_2, z2_3, z2_4, z2_5, z2_6, z2_7, z2_8, z2_9, z2_10, z2_11, z2_12, z2_13, z2_14, z2_15, z2_16, z2_17, z2_18, z2_19, z2_20, z2_21⟩, zc2, zs2⟩, hc2, h⟩ := dz_ob h
  try dsimp only at h
  obtain ⟨z, h, hG⟩ := dz_tkG h hG
  have hPc := hP.sub (ws' := [(b1, .inr (2, [.null, .int 0, .null, .null, .null, .null, .int 0, .null, .null, .null, .null, .int 0]))]) [1] rfl
  have hKc := hK.sub (tys' := [(cI, .int), (cL, .long)]) [1, 2] rfl
  have hDc := hD.sub (ws' := [(b1, .inr (2, [.null, .int 0, .null, .null, .null, .null, .int 0, .null, .null, .null, .null, .int 0]))]) [1] (by decide) rfl
  have hFc := va_free (wc := [(b1, .inr (2, [.null, .int 0, .null, .null, .null, .null, .int 0, .null, .null, .null, .null, .int 0]))]) hD hS hA [1] rfl
  refine va_callv (va_runIN (As := []) (rest := [.ref b1]) ⟨hx, hb, hml, hown, hg⟩ (c_Stacks_init l dC dI N cI cL b1 H.size (z2_1, z2_2, z2_3, z2_4, z2_5, z2_6, z2_7, z2_8, z2_9, z2_10, z2_11, z2_12, z2_13, z2_14, z2_15, z2_16, z2_17, z2_18, z2_19, z2_20, z2_21) zc2 zs2 hc2) ⟨va_cnB 0 hg (gd_N k1089) rfl rfl rfl hN2.1 (hg _ k64) (by decide +kernel) ⟨Nat.le_of_ble_eq_true rfl, Nat.le_of_ble_eq_true rfl⟩, rfl, hg _ k1090⟩ ⟨dz_blind, fun U hU hW => ⟨rfl, dz_Nw hW hN, by rw [hU], by rw [hU]; exact hPc, va_K.moved hW.alike hKc, hDc.weaken (fun _ _ _ _ => trivial)⟩⟩ rfl rfl hl.1 rfl (lv_room (Nat.le_of_ble_eq_true rfl)) d_Engine_init_8 ⟨dz_Gc hG, dz_Gs hG⟩) hS (fun q _ h => hFc q h) hFc (fun u2 t2 H1 locs ht hvm hw hB hz1 hk1 hS => ?_)
  obtain ⟨a2_0, a2_1, a2_2, a2_3, a2_4, a2_5, a2_6, a2_7, a2_8⟩ := u2
  obtain ⟨hP1, hK1, hD1⟩ := hB
  rw [ht] at hP1
  obtain ⟨hP, hD⟩ := va_join (wr := [(o_Engine, .inr (9, [.null, .null, .null, .null]))]) (w1 := [(b1, .inr (2, [.ref a2_0, .int z2_3, .ref a2_1, .ref a2_2, .ref a2_3, .ref a2_4, .int z2_12, .ref a2_5, .ref a2_6, .ref a2_7, .ref a2_8, .int z2_21])), (a2_0, .inl (cL, z2_1, .inr (.inl z2_2))), (a2_1, .inl (cI, z2_4, .inl z2_5)), (a2_2, .inl (cI, z2_6, .inl z2_7)), (a2_3, .inl (cI, z2_8, .inl z2_9)), (a2_4, .inl (cL, z2_10, .inr (.inl z2_11))), (a2_5, .inl (cI, z2_13, .inl z2_14)), (a2_6, .inl (cI, z2_15, .inl z2_16)), (a2_7, .inl (cI, z2_17, .inl z2_18)), (a2_8, .inl (cI, z2_19, .inl z2_20))]) hP hD [1] [0] rfl rfl (by decide) (by decide) hk1 hFc hP1 hD1
  generalize H1 = H at hP hS ⊢
  have hP : va_P (dC, dI) classes [(o_Engine, .inr (9, [.null, .null, .null, .null])), (b1, .inr (2, [.ref a2_0, .int z2_3, .ref a2_1, .ref a2_2, .ref a2_3, .ref a2_4, .int z2_12, .ref a2_5, .ref a2_6, .ref a2_7, .ref a2_8, .int z2_21])), (a2_0, .inl (cL, z2_1, .inr (.inl z2_2))), (a2_1, .inl (cI, z2_4, .inl z2_5)), (a2_2, .inl (cI, z2_6, .inl z2_7)), (a2_3, .inl (cI, z2_8, .inl z2_9)), (a2_4, .inl (cL, z2_10, .inr (.inl z2_11))), (a2_5, .inl (cI, z2_13, .inl z2_14)), (a2_6, .inl (cI, z2_15, .inl z2_16)), (a2_7, .inl (cI, z2_17, .inl z2_18)), (a2_8, .inl (cI, z2_19, .inl z2_20))] H := hP
  have hD : va_D A [(o_Engine, .inr (9, [.null, .null, .null, .null])), (b1, .inr (2, [.ref a2_0, .int z2_3, .ref a2_1, .ref a2_2, .ref a2_3, .ref a2_4, .int z2_12, .ref a2_5, .ref a2_6, .ref a2_7, .ref a2_8, .int z2_21])), (a2_0, .inl (cL, z2_1, .inr (.inl z2_2))), (a2_1, .inl (cI, z2_4, .inl z2_5)), (a2_2, .inl (cI, z2_6, .inl z2_7)), (a2_3, .inl (cI, z2_8, .inl z2_9)), (a2_4, .inl (cL, z2_10, .inr (.inl z2_11))), (a2_5, .inl (cI, z2_13, .inl z2_14)), (a2_6, .inl (cI, z2_15, .inl z2_16)), (a2_7, .inl (cI, z2_17, .inl z2_18)), (a2_8, .inl (cI, z2_19, .inl z2_20))] := hD
  refine lv_astore_n (lv' := [(1, .ref b1), (0, .ref o_Engine)]) hx hb d_Engine_init_11 rfl hl (by decide) rfl (fun ls hl => ?_)
  refine lv_aload_n hx hb d_Engine_init_12 rfl (lv_at hl 1 rfl) ?_
  obtain ⟨z, h, hG⟩ := dz_tkG h hG
  refine va_new (D := (dC, dI)) (ci := 0) (fs := [.null, .int 0, .null, .null, .int 0, .int 0, .int 0]) (C := R_Program) (T := F_Program) (N := 7) hx hb hg i_Program t_Program t_Program_ok hown (hg _ k1091) (hg _ k1092) (hg _ k41) hK hP hD hS hA rfl (fun j hj => by rcases (show j = 0 ∨ j = 1 ∨ j = 2 ∨ j = 3 ∨ j = 4 ∨ j = 5 ∨ j = 6 by omega) with rfl | rfl | rfl | rfl | rfl | rfl | rfl <;> rfl) (dz_Gc hG) (dz_Gs hG) d_Engine_init_13 (fun b3 H hP hD hS => ?_)
  have hP : va_P (dC, dI) classes [(o_Engine, .inr (9, [.null, .null, .null, .null])), (b1, .inr (2, [.ref a2_0, .int z2_3, .ref a2_1, .ref a2_2, .ref a2_3, .ref a2_4, .int z2_12, .ref a2_5, .ref a2_6, .ref a2_7, .ref a2_8, .int z2_21])), (a2_0, .inl (cL, z2_1, .inr (.inl z2_2))), (a2_1, .inl (cI, z2_4, .inl z2_5)), (a2_2, .inl (cI, z2_6, .inl z2_7)), (a2_3, .inl (cI, z2_8, .inl z2_9)), (a2_4, .inl (cL, z2_10, .inr (.inl z2_11))), (a2_5, .inl (cI, z2_13, .inl z2_14)), (a2_6, .inl (cI, z2_15, .inl z2_16)), (a2_7, .inl (cI, z2_17, .inl z2_18)), (a2_8, .inl (cI, z2_19, .inl z2_20)), (b3, .inr (0, [.null, .int 0, .null, .null, .int 0, .int 0, .int 0]))] H := hP
  have hD : va_D A [(o_Engine, .inr (9, [.null, .null, .null, .null])), (b1, .inr (2, [.ref a2_0, .int z2_3, .ref a2_1, .ref a2_2, .ref a2_3, .ref a2_4, .int z2_12, .ref a2_5, .ref a2_6, .ref a2_7, .ref a2_8, .int z2_21])), (a2_0, .inl (cL, z2_1, .inr (.inl z2_2))), (a2_1, .inl (cI, z2_4, .inl z2_5)), (a2_2, .inl (cI, z2_6, .inl z2_7)), (a2_3, .inl (cI, z2_8, .inl z2_9)), (a2_4, .inl (cL, z2_10, .inr (.inl z2_11))), (a2_5, .inl (cI, z2_13, .inl z2_14)), (a2_6, .inl (cI, z2_15, .inl z2_16)), (a2_7, .inl (cI, z2_17, .inl z2_18)), (a2_8, .inl (cI, z2_19, .inl z2_20)), (b3, .inr (0, [.null, .int 0, .null, .null, .int 0, .int 0, .int 0]))] := hD
  refine lv_dup hx hb d_Engine_init_16 rfl ?_
  obtain ⟨⟨⟨z4_1, z4_2, z4_3, z4_4, z4_5, z4_6, z4_7, z4_8, z4_9, z4_10⟩, zc4, zs4⟩, hc4, h⟩ := dz_ob h
  try dsimp only at h
  obtain ⟨z, h, hG⟩ := dz_tkG h hG
  have hPc := hP.sub (ws' := [(b3, .inr (0, [.null, .int 0, .null, .null, .int 0, .int 0, .int 0]))]) [11] rfl
  have hKc := hK.sub (tys' := [(cB, .byte), (cI, .int)]) [0, 1] rfl
  have hDc := hD.sub (ws' := [(b3, .inr (0, [.null, .int 0, .null, .null, .int 0, .int 0, .int 0]))]) [11] (by decide) rfl
  have hFc := va_free (wc := [(b3, .inr (0, [.null, .int 0, .null, .null, .int 0, .int 0, .int 0]))]) hD hS hA [11] rfl
  refine va_callv (va_runIN (As := []) (rest := [.ref b3, .ref o_Engine]) ⟨hx, hb, hml, hown, hg⟩ (c_Program_init l dC dI N cB cI b3 H.size (z4_1, z4_2, z4_3, z4_4, z4_5, z4_6, z4_7, z4_8, z4_9, z4_10) zc4 zs4 hc4) ⟨va_cnB 0 hg (gd_N k1093) rfl rfl rfl hN2.2.1 (hg _ k41) (by decide +kernel) ⟨Nat.le_of_ble_eq_true rfl, Nat.le_of_ble_eq_true rfl⟩, rfl, hg _ k1094⟩ ⟨dz_blind, fun U hU hW => ⟨rfl, dz_Nw hW hN, by rw [hU], by rw [hU]; exact hPc, va_K.moved hW.alike hKc, hDc.weaken (fun _ _ _ _ => trivial)⟩⟩ rfl rfl hl.1 rfl (lv_room (Nat.le_of_ble_eq_true rfl)) d_Engine_init_17 ⟨dz_Gc hG, dz_Gs hG⟩) hS (fun q _ h => hFc q h) hFc (fun u4 t4 H1 locs ht hvm hw hB hz1 hk1 hS => ?_)
  obtain ⟨a4_0, a4_1, a4_2⟩ := u4
  obtain ⟨hP1, hK1, hD1⟩ := hB
  rw [ht] at hP1
  obtain ⟨hP, hD⟩ := va_join (wr := [(o_Engine, .inr (9, [.null, .null, .null, .null])), (b1, .inr (2, [.ref a2_0, .int z2_3, .ref a2_1, .ref a2_2, .ref a2_3, .ref a2_4, .int z2_12, .ref a2_5, .ref a2_6, .ref a2_7, .ref a2_8, .int z2_21])), (a2_0, .inl (cL, z2_1, .inr (.inl z2_2))), (a2_1, .inl (cI, z2_4, .inl z2_5)), (a2_2, .inl (cI, z2_6, .inl z2_7)), (a2_3, .inl (cI, z2_8, .inl z2_9)), (a2_4, .inl (cL, z2_10, .inr (.inl z2_11))), (a2_5, .inl (cI, z2_13, .inl z2_14)), (a2_6, .inl (cI, z2_15, .inl z2_16)), (a2_7, .inl (cI, z2_17, .inl z2_18)), (a2_8, .inl (cI, z2_19, .inl z2_20))]) (w1 := [(b3, .inr (0, [.ref a4_0, .int z4_3, .ref a4_1, .ref a4_2, .int z4_8, .int z4_9, .int z4_10])), (a4_0, .inl (cI, z4_1, .inl z4_2)), (a4_1, .inl (cB, z4_4, .inl z4_5)), (a4_2, .inl (cI, z4_6, .inl z4_7))]) hP hD [11] [0, 1, 2, 3, 4, 5, 6, 7, 8, 9, 10] rfl rfl (by decide) (by decide) hk1 hFc hP1 hD1
  generalize H1 = H at hP hS ⊢
  have hP : va_P (dC, dI) classes [(o_Engine, .inr (9, [.null, .null, .null, .null])), (b1, .inr (2, [.ref a2_0, .int z2_3, .ref a2_1, .ref a2_2, .ref a2_3, .ref a2_4, .int z2_12, .ref a2_5, .ref a2_6, .ref a2_7, .ref a2_8, .int z2_21])), (a2_0, .inl (cL, z2_1, .inr (.inl z2_2))), (a2_1, .inl (cI, z2_4, .inl z2_5)), (a2_2, .inl (cI, z2_6, .inl z2_7)), (a2_3, .inl (cI, z2_8, .inl z2_9)), (a2_4, .inl (cL, z2_10, .inr (.inl z2_11))), (a2_5, .inl (cI, z2_13, .inl z2_14)), (a2_6, .inl (cI, z2_15, .inl z2_16)), (a2_7, .inl (cI, z2_17, .inl z2_18)), (a2_8, .inl (cI, z2_19, .inl z2_20)), (b3, .inr (0, [.ref a4_0, .int z4_3, .ref a4_1, .ref a4_2, .int z4_8, .int z4_9, .int z4_10])), (a4_0, .inl (cI, z4_1, .inl z4_2)), (a4_1, .inl (cB, z4_4, .inl z4_5)), (a4_2, .inl (cI, z4_6, .inl z4_7))] H := hP
  have hD : va_D A [(o_Engine, .inr (9, [.null, .null, .null, .null])), (b1, .inr (2, [.ref a2_0, .int z2_3, .ref a2_1, .ref a2_2, .ref a2_3, .ref a2_4, .int z2_12, .ref a2_5, .ref a2_6, .ref a2_7, .ref a2_8, .int z2_21])), (a2_0, .inl (cL, z2_1, .inr (.inl z2_2))), (a2_1, .inl (cI, z2_4, .inl z2_5)), (a2_2, .inl (cI, z2_6, .inl z2_7)), (a2_3, .inl (cI, z2_8, .inl z2_9)), (a2_4, .inl (cL, z2_10, .inr (.inl z2_11))), (a2_5, .inl (cI, z2_13, .inl z2_14)), (a2_6, .inl (cI, z2_15, .inl z2_16)), (a2_7, .inl (cI, z2_17, .inl z2_18)), (a2_8, .inl (cI, z2_19, .inl z2_20)), (b3, .inr (0, [.ref a4_0, .int z4_3, .ref a4_1, .ref a4_2, .int z4_8, .int z4_9, .int z4_10])), (a4_0, .inl (cI, z4_1, .inl z4_2)), (a4_1, .inl (cB, z4_4, .inl z4_5)), (a4_2, .inl (cI, z4_6, .inl z4_7))] := hD
  refine va_putF (D := (dC, dI)) (ci := 9) (v := .ref b3) (ty := .object "CellEngine$Program") (C := R_Engine) (T := F_Engine) (N := 4) hx hb hg i_Engine t_Engine t_Engine_ok n_Engine hown hK hP hD hS 0 rfl rfl 0 (by decide) (hg _ k629) (fun _ h9 => h9) rfl hin rfl (by decide +kernel) rfl rfl (Nat.le_of_ble_eq_true rfl) d_Engine_init_20 (fun H locs hP hD hS => ?_)
  have hP : va_P (dC, dI) classes [(o_Engine, .inr (9, [.ref b3, .null, .null, .null])), (b1, .inr (2, [.ref a2_0, .int z2_3, .ref a2_1, .ref a2_2, .ref a2_3, .ref a2_4, .int z2_12, .ref a2_5, .ref a2_6, .ref a2_7, .ref a2_8, .int z2_21])), (a2_0, .inl (cL, z2_1, .inr (.inl z2_2))), (a2_1, .inl (cI, z2_4, .inl z2_5)), (a2_2, .inl (cI, z2_6, .inl z2_7)), (a2_3, .inl (cI, z2_8, .inl z2_9)), (a2_4, .inl (cL, z2_10, .inr (.inl z2_11))), (a2_5, .inl (cI, z2_13, .inl z2_14)), (a2_6, .inl (cI, z2_15, .inl z2_16)), (a2_7, .inl (cI, z2_17, .inl z2_18)), (a2_8, .inl (cI, z2_19, .inl z2_20)), (b3, .inr (0, [.ref a4_0, .int z4_3, .ref a4_1, .ref a4_2, .int z4_8, .int z4_9, .int z4_10])), (a4_0, .inl (cI, z4_1, .inl z4_2)), (a4_1, .inl (cB, z4_4, .inl z4_5)), (a4_2, .inl (cI, z4_6, .inl z4_7))] H := hP
  have hD : va_D A [(o_Engine, .inr (9, [.ref b3, .null, .null, .null])), (b1, .inr (2, [.ref a2_0, .int z2_3, .ref a2_1, .ref a2_2, .ref a2_3, .ref a2_4, .int z2_12, .ref a2_5, .ref a2_6, .ref a2_7, .ref a2_8, .int z2_21])), (a2_0, .inl (cL, z2_1, .inr (.inl z2_2))), (a2_1, .inl (cI, z2_4, .inl z2_5)), (a2_2, .inl (cI, z2_6, .inl z2_7)), (a2_3, .inl (cI, z2_8, .inl z2_9)), (a2_4, .inl (cL, z2_10, .inr (.inl z2_11))), (a2_5, .inl (cI, z2_13, .inl z2_14)), (a2_6, .inl (cI, z2_15, .inl z2_16)), (a2_7, .inl (cI, z2_17, .inl z2_18)), (a2_8, .inl (cI, z2_19, .inl z2_20)), (b3, .inr (0, [.ref a4_0, .int z4_3, .ref a4_1, .ref a4_2, .int z4_8, .int z4_9, .int z4_10])), (a4_0, .inl (cI, z4_1, .inl z4_2)), (a4_1, .inl (cB, z4_4, .inl z4_5)), (a4_2, .inl (cI, z4_6, .inl z4_7))] := hD
  refine lv_aload_n hx hb d_Engine_init_23 rfl (lv_at hl 1 rfl) ?_
  obtain ⟨z, h, hG⟩ := dz_tkG h hG
  refine va_new (D := (dC, dI)) (ci := 1) (fs := [.null, .int 0]) (C := R_Output) (T := F_Output) (N := 2) hx hb hg i_Output t_Output t_Output_ok hown (hg _ k1095) (hg _ k1096) (hg _ k343) hK hP hD hS hA rfl (fun j hj => by rcases (show j = 0 ∨ j = 1 by omega) with rfl | rfl <;> rfl) (dz_Gc hG) (dz_Gs hG) d_Engine_init_24 (fun b5 H hP hD hS => ?_)
  have hP : va_P (dC, dI) classes [(o_Engine, .inr (9, [.ref b3, .null, .null, .null])), (b1, .inr (2, [.ref a2_0, .int z2_3, .ref a2_1, .ref a2_2, .ref a2_3, .ref a2_4, .int z2_12, .ref a2_5, .ref a2_6, .ref a2_7, .ref a2_8, .int z2_21])), (a2_0, .inl (cL, z2_1, .inr (.inl z2_2))), (a2_1, .inl (cI, z2_4, .inl z2_5)), (a2_2, .inl (cI, z2_6, .inl z2_7)), (a2_3, .inl (cI, z2_8, .inl z2_9)), (a2_4, .inl (cL, z2_10, .inr (.inl z2_11))), (a2_5, .inl (cI, z2_13, .inl z2_14)), (a2_6, .inl (cI, z2_15, .inl z2_16)), (a2_7, .inl (cI, z2_17, .inl z2_18)), (a2_8, .inl (cI, z2_19, .inl z2_20)), (b3, .inr (0, [.ref a4_0, .int z4_3, .ref a4_1, .ref a4_2, .int z4_8, .int z4_9, .int z4_10])), (a4_0, .inl (cI, z4_1, .inl z4_2)), (a4_1, .inl (cB, z4_4, .inl z4_5)), (a4_2, .inl (cI, z4_6, .inl z4_7)), (b5, .inr (1, [.null, .int 0]))] H := hP
  have hD : va_D A [(o_Engine, .inr (9, [.ref b3, .null, .null, .null])), (b1, .inr (2, [.ref a2_0, .int z2_3, .ref a2_1, .ref a2_2, .ref a2_3, .ref a2_4, .int z2_12, .ref a2_5, .ref a2_6, .ref a2_7, .ref a2_8, .int z2_21])), (a2_0, .inl (cL, z2_1, .inr (.inl z2_2))), (a2_1, .inl (cI, z2_4, .inl z2_5)), (a2_2, .inl (cI, z2_6, .inl z2_7)), (a2_3, .inl (cI, z2_8, .inl z2_9)), (a2_4, .inl (cL, z2_10, .inr (.inl z2_11))), (a2_5, .inl (cI, z2_13, .inl z2_14)), (a2_6, .inl (cI, z2_15, .inl z2_16)), (a2_7, .inl (cI, z2_17, .inl z2_18)), (a2_8, .inl (cI, z2_19, .inl z2_20)), (b3, .inr (0, [.ref a4_0, .int z4_3, .ref a4_1, .ref a4_2, .int z4_8, .int z4_9, .int z4_10])), (a4_0, .inl (cI, z4_1, .inl z4_2)), (a4_1, .inl (cB, z4_4, .inl z4_5)), (a4_2, .inl (cI, z4_6, .inl z4_7)), (b5, .inr (1, [.null, .int 0]))] := hD
  refine lv_dup hx hb d_Engine_init_27 rfl ?_
  obtain ⟨⟨⟨z6_1, z6_2, z6_3⟩, zc6, zs6⟩, hc6, h⟩ := dz_ob h
  try dsimp only at h
  obtain ⟨z, h, hG⟩ := dz_tkG h hG
  have hPc := hP.sub (ws' := [(b5, .inr (1, [.null, .int 0]))]) [15] rfl
  have hKc := hK.sub (tys' := [(cB, .byte)]) [0] rfl
  have hDc := hD.sub (ws' := [(b5, .inr (1, [.null, .int 0]))]) [15] (by decide) rfl
  have hFc := va_free (wc := [(b5, .inr (1, [.null, .int 0]))]) hD hS hA [15] rfl
  refine va_callv (va_runIN (As := []) (rest := [.ref b5, .ref o_Engine]) ⟨hx, hb, hml, hown, hg⟩ (c_Output_init l dC dI N cB b5 H.size (z6_1, z6_2, z6_3) zc6 zs6 hc6) ⟨va_cnB 0 hg (gd_N k1097) rfl rfl rfl hN2.2.2 (hg _ k343) (by decide +kernel) ⟨Nat.le_of_ble_eq_true rfl, Nat.le_of_ble_eq_true rfl⟩, rfl, hg _ k1098⟩ ⟨dz_blind, fun U hU hW => ⟨rfl, dz_Nw hW hN, by rw [hU], by rw [hU]; exact hPc, va_K.moved hW.alike hKc, hDc.weaken (fun _ _ _ _ => trivial)⟩⟩ rfl rfl hl.1 rfl (lv_room (Nat.le_of_ble_eq_true rfl)) d_Engine_init_28 ⟨dz_Gc hG, dz_Gs hG⟩) hS (fun q _ h => hFc q h) hFc (fun u6 t6 H1 locs ht hvm hw hB hz1 hk1 hS => ?_)
  obtain ⟨a6_0, rfl⟩ : ∃ z, z = u6 := ⟨_, rfl⟩
  obtain ⟨hP1, hK1, hD1⟩ := hB
  rw [ht] at hP1
  obtain ⟨hP, hD⟩ := va_join (wr := [(o_Engine, .inr (9, [.ref b3, .null, .null, .null])), (b1, .inr (2, [.ref a2_0, .int z2_3, .ref a2_1, .ref a2_2, .ref a2_3, .ref a2_4, .int z2_12, .ref a2_5, .ref a2_6, .ref a2_7, .ref a2_8, .int z2_21])), (a2_0, .inl (cL, z2_1, .inr (.inl z2_2))), (a2_1, .inl (cI, z2_4, .inl z2_5)), (a2_2, .inl (cI, z2_6, .inl z2_7)), (a2_3, .inl (cI, z2_8, .inl z2_9)), (a2_4, .inl (cL, z2_10, .inr (.inl z2_11))), (a2_5, .inl (cI, z2_13, .inl z2_14)), (a2_6, .inl (cI, z2_15, .inl z2_16)), (a2_7, .inl (cI, z2_17, .inl z2_18)), (a2_8, .inl (cI, z2_19, .inl z2_20)), (b3, .inr (0, [.ref a4_0, .int z4_3, .ref a4_1, .ref a4_2, .int z4_8, .int z4_9, .int z4_10])), (a4_0, .inl (cI, z4_1, .inl z4_2)), (a4_1, .inl (cB, z4_4, .inl z4_5)), (a4_2, .inl (cI, z4_6, .inl z4_7))]) (w1 := [(b5, .inr (1, [.ref a6_0, .int z6_3])), (a6_0, .inl (cB, z6_1, .inl z6_2))]) hP hD [15] [0, 1, 2, 3, 4, 5, 6, 7, 8, 9, 10, 11, 12, 13, 14] rfl rfl (by decide) (by decide) hk1 hFc hP1 hD1
  generalize H1 = H at hP hS ⊢
  have hP : va_P (dC, dI) classes [(o_Engine, .inr (9, [.ref b3, .null, .null, .null])), (b1, .inr (2, [.ref a2_0, .int z2_3, .ref a2_1, .ref a2_2, .ref a2_3, .ref a2_4, .int z2_12, .ref a2_5, .ref a2_6, .ref a2_7, .ref a2_8, .int z2_21])), (a2_0, .inl (cL, z2_1, .inr (.inl z2_2))), (a2_1, .inl (cI, z2_4, .inl z2_5)), (a2_2, .inl (cI, z2_6, .inl z2_7)), (a2_3, .inl (cI, z2_8, .inl z2_9)), (a2_4, .inl (cL, z2_10, .inr (.inl z2_11))), (a2_5, .inl (cI, z2_13, .inl z2_14)), (a2_6, .inl (cI, z2_15, .inl z2_16)), (a2_7, .inl (cI, z2_17, .inl z2_18)), (a2_8, .inl (cI, z2_19, .inl z2_20)), (b3, .inr (0, [.ref a4_0, .int z4_3, .ref a4_1, .ref a4_2, .int z4_8, .int z4_9, .int z4_10])), (a4_0, .inl (cI, z4_1, .inl z4_2)), (a4_1, .inl (cB, z4_4, .inl z4_5)), (a4_2, .inl (cI, z4_6, .inl z4_7)), (b5, .inr (1, [.ref a6_0, .int z6_3])), (a6_0, .inl (cB, z6_1, .inl z6_2))] H := hP
  have hD : va_D A [(o_Engine, .inr (9, [.ref b3, .null, .null, .null])), (b1, .inr (2, [.ref a2_0, .int z2_3, .ref a2_1, .ref a2_2, .ref a2_3, .ref a2_4, .int z2_12, .ref a2_5, .ref a2_6, .ref a2_7, .ref a2_8, .int z2_21])), (a2_0, .inl (cL, z2_1, .inr (.inl z2_2))), (a2_1, .inl (cI, z2_4, .inl z2_5)), (a2_2, .inl (cI, z2_6, .inl z2_7)), (a2_3, .inl (cI, z2_8, .inl z2_9)), (a2_4, .inl (cL, z2_10, .inr (.inl z2_11))), (a2_5, .inl (cI, z2_13, .inl z2_14)), (a2_6, .inl (cI, z2_15, .inl z2_16)), (a2_7, .inl (cI, z2_17, .inl z2_18)), (a2_8, .inl (cI, z2_19, .inl z2_20)), (b3, .inr (0, [.ref a4_0, .int z4_3, .ref a4_1, .ref a4_2, .int z4_8, .int z4_9, .int z4_10])), (a4_0, .inl (cI, z4_1, .inl z4_2)), (a4_1, .inl (cB, z4_4, .inl z4_5)), (a4_2, .inl (cI, z4_6, .inl z4_7)), (b5, .inr (1, [.ref a6_0, .int z6_3])), (a6_0, .inl (cB, z6_1, .inl z6_2))] := hD
  refine va_putF (D := (dC, dI)) (ci := 9) (v := .ref b5) (ty := .object "CellEngine$Output") (C := R_Engine) (T := F_Engine) (N := 4) hx hb hg i_Engine t_Engine t_Engine_ok n_Engine hown hK hP hD hS 0 rfl rfl 2 (by decide) (hg _ k649) (fun _ h9 => h9) rfl hin rfl (by decide +kernel) rfl rfl (Nat.le_of_ble_eq_true rfl) d_Engine_init_31 (fun H locs hP hD hS => ?_)
  have hP : va_P (dC, dI) classes [(o_Engine, .inr (9, [.ref b3, .null, .ref b5, .null])), (b1, .inr (2, [.ref a2_0, .int z2_3, .ref a2_1, .ref a2_2, .ref a2_3, .ref a2_4, .int z2_12, .ref a2_5, .ref a2_6, .ref a2_7, .ref a2_8, .int z2_21])), (a2_0, .inl (cL, z2_1, .inr (.inl z2_2))), (a2_1, .inl (cI, z2_4, .inl z2_5)), (a2_2, .inl (cI, z2_6, .inl z2_7)), (a2_3, .inl (cI, z2_8, .inl z2_9)), (a2_4, .inl (cL, z2_10, .inr (.inl z2_11))), (a2_5, .inl (cI, z2_13, .inl z2_14)), (a2_6, .inl (cI, z2_15, .inl z2_16)), (a2_7, .inl (cI, z2_17, .inl z2_18)), (a2_8, .inl (cI, z2_19, .inl z2_20)), (b3, .inr (0, [.ref a4_0, .int z4_3, .ref a4_1, .ref a4_2, .int z4_8, .int z4_9, .int z4_10])), (a4_0, .inl (cI, z4_1, .inl z4_2)), (a4_1, .inl (cB, z4_4, .inl z4_5)), (a4_2, .inl (cI, z4_6, .inl z4_7)), (b5, .inr (1, [.ref a6_0, .int z6_3])), (a6_0, .inl (cB, z6_1, .inl z6_2))] H := hP
  have hD : va_D A [(o_Engine, .inr (9, [.ref b3, .null, .ref b5, .null])), (b1, .inr (2, [.ref a2_0, .int z2_3, .ref a2_1, .ref a2_2, .ref a2_3, .ref a2_4, .int z2_12, .ref a2_5, .ref a2_6, .ref a2_7, .ref a2_8, .int z2_21])), (a2_0, .inl (cL, z2_1, .inr (.inl z2_2))), (a2_1, .inl (cI, z2_4, .inl z2_5)), (a2_2, .inl (cI, z2_6, .inl z2_7)), (a2_3, .inl (cI, z2_8, .inl z2_9)), (a2_4, .inl (cL, z2_10, .inr (.inl z2_11))), (a2_5, .inl (cI, z2_13, .inl z2_14)), (a2_6, .inl (cI, z2_15, .inl z2_16)), (a2_7, .inl (cI, z2_17, .inl z2_18)), (a2_8, .inl (cI, z2_19, .inl z2_20)), (b3, .inr (0, [.ref a4_0, .int z4_3, .ref a4_1, .ref a4_2, .int z4_8, .int z4_9, .int z4_10])), (a4_0, .inl (cI, z4_1, .inl z4_2)), (a4_1, .inl (cB, z4_4, .inl z4_5)), (a4_2, .inl (cI, z4_6, .inl z4_7)), (b5, .inr (1, [.ref a6_0, .int z6_3])), (a6_0, .inl (cB, z6_1, .inl z6_2))] := hD
  refine lv_aload_n hx hb d_Engine_init_34 rfl (lv_at hl 1 rfl) ?_
  obtain ⟨z, h, hG⟩ := dz_tkG h hG
  refine va_new (D := (dC, dI)) (ci := 3) (fs := [.null, .null, .int 0, .null, .int 0, .null, .int 0, .int 0, .int 0, .int 0, .int 0, .int 0, .int 0, .int 0, .int 0, .int 0, .null, .int 0, .null, .int 0]) (C := R_Heap) (T := F_Heap) (N := 20) hx hb hg i_Heap t_Heap t_Heap_ok hown (hg _ k1099) (hg _ k1100) (hg _ k130) hK hP hD hS hA rfl (fun j hj => by rcases (show j = 0 ∨ j = 1 ∨ j = 2 ∨ j = 3 ∨ j = 4 ∨ j = 5 ∨ j = 6 ∨ j = 7 ∨ j = 8 ∨ j = 9 ∨ j = 10 ∨ j = 11 ∨ j = 12 ∨ j = 13 ∨ j = 14 ∨ j = 15 ∨ j = 16 ∨ j = 17 ∨ j = 18 ∨ j = 19 by omega) with rfl | rfl | rfl | rfl | rfl | rfl | rfl | rfl | rfl | rfl | rfl | rfl | rfl | rfl | rfl | rfl | rfl | rfl | rfl | rfl <;> rfl) (dz_Gc hG) (dz_Gs hG) d_Engine_init_35 (fun b7 H hP hD hS => ?_)
  have hP : va_P (dC, dI) classes [(o_Engine, .inr (9, [.ref b3, .null, .ref b5, .null])), (b1, .inr (2, [.ref a2_0, .int z2_3, .ref a2_1, .ref a2_2, .ref a2_3, .ref a2_4, .int z2_12, .ref a2_5, .ref a2_6, .ref a2_7, .ref a2_8, .int z2_21])), (a2_0, .inl (cL, z2_1, .inr (.inl z2_2))), (a2_1, .inl (cI, z2_4, .inl z2_5)), (a2_2, .inl (cI, z2_6, .inl z2_7)), (a2_3, .inl (cI, z2_8, .inl z2_9)), (a2_4, .inl (cL, z2_10, .inr (.inl z2_11))), (a2_5, .inl (cI, z2_13, .inl z2_14)), (a2_6, .inl (cI, z2_15, .inl z2_16)), (a2_7, .inl (cI, z2_17, .inl z2_18)), (a2_8, .inl (cI, z2_19, .inl z2_20)), (b3, .inr (0, [.ref a4_0, .int z4_3, .ref a4_1, .ref a4_2, .int z4_8, .int z4_9, .int z4_10])), (a4_0, .inl (cI, z4_1, .inl z4_2)), (a4_1, .inl (cB, z4_4, .inl z4_5)), (a4_2, .inl (cI, z4_6, .inl z4_7)), (b5, .inr (1, [.ref a6_0, .int z6_3])), (a6_0, .inl (cB, z6_1, .inl z6_2)), (b7, .inr (3, [.null, .null, .int 0, .null, .int 0, .null, .int 0, .int 0, .int 0, .int 0, .int 0, .int 0, .int 0, .int 0, .int 0, .int 0, .null, .int 0, .null, .int 0]))] H := hP
  have hD : va_D A [(o_Engine, .inr (9, [.ref b3, .null, .ref b5, .null])), (b1, .inr (2, [.ref a2_0, .int z2_3, .ref a2_1, .ref a2_2, .ref a2_3, .ref a2_4, .int z2_12, .ref a2_5, .ref a2_6, .ref a2_7, .ref a2_8, .int z2_21])), (a2_0, .inl (cL, z2_1, .inr (.inl z2_2))), (a2_1, .inl (cI, z2_4, .inl z2_5)), (a2_2, .inl (cI, z2_6, .inl z2_7)), (a2_3, .inl (cI, z2_8, .inl z2_9)), (a2_4, .inl (cL, z2_10, .inr (.inl z2_11))), (a2_5, .inl (cI, z2_13, .inl z2_14)), (a2_6, .inl (cI, z2_15, .inl z2_16)), (a2_7, .inl (cI, z2_17, .inl z2_18)), (a2_8, .inl (cI, z2_19, .inl z2_20)), (b3, .inr (0, [.ref a4_0, .int z4_3, .ref a4_1, .ref a4_2, .int z4_8, .int z4_9, .int z4_10])), (a4_0, .inl (cI, z4_1, .inl z4_2)), (a4_1, .inl (cB, z4_4, .inl z4_5)), (a4_2, .inl (cI, z4_6, .inl z4_7)), (b5, .inr (1, [.ref a6_0, .int z6_3])), (a6_0, .inl (cB, z6_1, .inl z6_2)), (b7, .inr (3, [.null, .null, .int 0, .null, .int 0, .null, .int 0, .int 0, .int 0, .int 0, .int 0, .int 0, .int 0, .int 0, .int 0, .int 0, .null, .int 0, .null, .int 0]))] := hD
  refine lv_dup hx hb d_Engine_init_38 rfl ?_
  refine lv_aload_n hx hb d_Engine_init_39 rfl (lv_at hl 0 rfl) ?_
  obtain ⟨⟨⟨z8_1, z8_2, z8_3, z8_4, z8_5, z8_6, z8_7, z8_8, z8_9, z8_10, z8_11, z8_12, z8_13, z8_14, z8_15, z8_16, z8_17, z8_18, z8_19, z8_20, z8_21, z8_22, z8_23, z8_24⟩, zc8, zs8⟩, hc8, h⟩ := dz_ob h
  try dsimp only at h
  obtain ⟨z, h, hG⟩ := dz_tkG h hG
  have hPc := hP.sub (ws' := [(b7, .inr (3, [.null, .null, .int 0, .null, .int 0, .null, .int 0, .int 0, .int 0, .int 0, .int 0, .int 0, .int 0, .int 0, .int 0, .int 0, .null, .int 0, .null, .int 0]))]) [17] rfl
  have hKc := hK.sub (tys' := [(cL, .long)]) [2] rfl
  have hDc := hD.sub (ws' := [(b7, .inr (3, [.null, .null, .int 0, .null, .int 0, .null, .int 0, .int 0, .int 0, .int 0, .int 0, .int 0, .int 0, .int 0, .int 0, .int 0, .null, .int 0, .null, .int 0]))]) [17] (by decide) rfl
  have hFc := va_free (wc := [(b7, .inr (3, [.null, .null, .int 0, .null, .int 0, .null, .int 0, .int 0, .int 0, .int 0, .int 0, .int 0, .int 0, .int 0, .int 0, .int 0, .null, .int 0, .null, .int 0]))]) hD hS hA [17] rfl
  refine va_callv (va_runI (As := [.ref b1]) (rest := [.ref b7, .ref o_Engine]) ⟨hx, hb, hml, hown, hg⟩ (c_Heap_init l dC dI N cL b7 b1 H.size (z8_1, z8_2, z8_3, z8_4, z8_5, z8_6, z8_7, z8_8, z8_9, z8_10, z8_11, z8_12, z8_13, z8_14, z8_15, z8_16, z8_17, z8_18, z8_19, z8_20, z8_21, z8_22, z8_23, z8_24) zc8 zs8 hc8) (cwI 1 hg (gd_N k1101) rfl rfl rfl (hg _ k130) (hg _ k1102) (hg _ k1103) rfl (by decide +kernel) ⟨Nat.le_of_ble_eq_true rfl, Nat.le_of_ble_eq_true rfl⟩) ⟨dz_blind, fun U hU hW => ⟨rfl, dz_Nw hW hN, by rw [hU], by rw [hU]; exact hPc, va_K.moved hW.alike hKc, hDc.weaken (fun _ _ _ _ => trivial)⟩⟩ rfl rfl hl.1 rfl (lv_room (Nat.le_of_ble_eq_true rfl)) d_Engine_init_40 ⟨dz_Gc hG, dz_Gs hG⟩) hS (fun q _ h => hFc q h) hFc (fun u8 t8 H1 locs ht hvm hw hB hz1 hk1 hS => ?_)
  obtain ⟨a8_0, a8_1, a8_2, a8_3, a8_4⟩ := u8
  obtain ⟨hP1, hK1, hD1⟩ := hB
  rw [ht] at hP1
  obtain ⟨hP, hD⟩ := va_join (wr := [(o_Engine, .inr (9, [.ref b3, .null, .ref b5, .null])), (b1, .inr (2, [.ref a2_0, .int z2_3, .ref a2_1, .ref a2_2, .ref a2_3, .ref a2_4, .int z2_12, .ref a2_5, .ref a2_6, .ref a2_7, .ref a2_8, .int z2_21])), (a2_0, .inl (cL, z2_1, .inr (.inl z2_2))), (a2_1, .inl (cI, z2_4, .inl z2_5)), (a2_2, .inl (cI, z2_6, .inl z2_7)), (a2_3, .inl (cI, z2_8, .inl z2_9)), (a2_4, .inl (cL, z2_10, .inr (.inl z2_11))), (a2_5, .inl (cI, z2_13, .inl z2_14)), (a2_6, .inl (cI, z2_15, .inl z2_16)), (a2_7, .inl (cI, z2_17, .inl z2_18)), (a2_8, .inl (cI, z2_19, .inl z2_20)), (b3, .inr (0, [.ref a4_0, .int z4_3, .ref a4_1, .ref a4_2, .int z4_8, .int z4_9, .int z4_10])), (a4_0, .inl (cI, z4_1, .inl z4_2)), (a4_1, .inl (cB, z4_4, .inl z4_5)), (a4_2, .inl (cI, z4_6, .inl z4_7)), (b5, .inr (1, [.ref a6_0, .int z6_3])), (a6_0, .inl (cB, z6_1, .inl z6_2))]) (w1 := [(b7, .inr (3, [.ref b1, .ref a8_0, .int z8_3, .ref a8_1, .int z8_6, .ref a8_2, .int z8_9, .int z8_10, .int z8_11, .int z8_12, .int z8_13, .int z8_14, .int z8_15, .int z8_16, .int z8_17, .int z8_18, .ref a8_3, .int z8_21, .ref a8_4, .int z8_24])), (a8_0, .inl (cL, z8_1, .inr (.inl z8_2))), (a8_1, .inl (cL, z8_4, .inr (.inl z8_5))), (a8_2, .inl (cL, z8_7, .inr (.inl z8_8))), (a8_3, .inl (cL, z8_19, .inr (.inl z8_20))), (a8_4, .inl (cL, z8_22, .inr (.inl z8_23)))]) hP hD [17] [0, 1, 2, 3, 4, 5, 6, 7, 8, 9, 10, 11, 12, 13, 14, 15, 16] rfl rfl (by decide) (by decide) hk1 hFc hP1 hD1
  generalize H1 = H at hP hS ⊢
  have hP : va_P (dC, dI) classes [(o_Engine, .inr (9, [.ref b3, .null, .ref b5, .null])), (b1, .inr (2, [.ref a2_0, .int z2_3, .ref a2_1, .ref a2_2, .ref a2_3, .ref a2_4, .int z2_12, .ref a2_5, .ref a2_6, .ref a2_7, .ref a2_8, .int z2_21])), (a2_0, .inl (cL, z2_1, .inr (.inl z2_2))), (a2_1, .inl (cI, z2_4, .inl z2_5)), (a2_2, .inl (cI, z2_6, .inl z2_7)), (a2_3, .inl (cI, z2_8, .inl z2_9)), (a2_4, .inl (cL, z2_10, .inr (.inl z2_11))), (a2_5, .inl (cI, z2_13, .inl z2_14)), (a2_6, .inl (cI, z2_15, .inl z2_16)), (a2_7, .inl (cI, z2_17, .inl z2_18)), (a2_8, .inl (cI, z2_19, .inl z2_20)), (b3, .inr (0, [.ref a4_0, .int z4_3, .ref a4_1, .ref a4_2, .int z4_8, .int z4_9, .int z4_10])), (a4_0, .inl (cI, z4_1, .inl z4_2)), (a4_1, .inl (cB, z4_4, .inl z4_5)), (a4_2, .inl (cI, z4_6, .inl z4_7)), (b5, .inr (1, [.ref a6_0, .int z6_3])), (a6_0, .inl (cB, z6_1, .inl z6_2)), (b7, .inr (3, [.ref b1, .ref a8_0, .int z8_3, .ref a8_1, .int z8_6, .ref a8_2, .int z8_9, .int z8_10, .int z8_11, .int z8_12, .int z8_13, .int z8_14, .int z8_15, .int z8_16, .int z8_17, .int z8_18, .ref a8_3, .int z8_21, .ref a8_4, .int z8_24])), (a8_0, .inl (cL, z8_1, .inr (.inl z8_2))), (a8_1, .inl (cL, z8_4, .inr (.inl z8_5))), (a8_2, .inl (cL, z8_7, .inr (.inl z8_8))), (a8_3, .inl (cL, z8_19, .inr (.inl z8_20))), (a8_4, .inl (cL, z8_22, .inr (.inl z8_23)))] H := hP
  have hD : va_D A [(o_Engine, .inr (9, [.ref b3, .null, .ref b5, .null])), (b1, .inr (2, [.ref a2_0, .int z2_3, .ref a2_1, .ref a2_2, .ref a2_3, .ref a2_4, .int z2_12, .ref a2_5, .ref a2_6, .ref a2_7, .ref a2_8, .int z2_21])), (a2_0, .inl (cL, z2_1, .inr (.inl z2_2))), (a2_1, .inl (cI, z2_4, .inl z2_5)), (a2_2, .inl (cI, z2_6, .inl z2_7)), (a2_3, .inl (cI, z2_8, .inl z2_9)), (a2_4, .inl (cL, z2_10, .inr (.inl z2_11))), (a2_5, .inl (cI, z2_13, .inl z2_14)), (a2_6, .inl (cI, z2_15, .inl z2_16)), (a2_7, .inl (cI, z2_17, .inl z2_18)), (a2_8, .inl (cI, z2_19, .inl z2_20)), (b3, .inr (0, [.ref a4_0, .int z4_3, .ref a4_1, .ref a4_2, .int z4_8, .int z4_9, .int z4_10])), (a4_0, .inl (cI, z4_1, .inl z4_2)), (a4_1, .inl (cB, z4_4, .inl z4_5)), (a4_2, .inl (cI, z4_6, .inl z4_7)), (b5, .inr (1, [.ref a6_0, .int z6_3])), (a6_0, .inl (cB, z6_1, .inl z6_2)), (b7, .inr (3, [.ref b1, .ref a8_0, .int z8_3, .ref a8_1, .int z8_6, .ref a8_2, .int z8_9, .int z8_10, .int z8_11, .int z8_12, .int z8_13, .int z8_14, .int z8_15, .int z8_16, .int z8_17, .int z8_18, .ref a8_3, .int z8_21, .ref a8_4, .int z8_24])), (a8_0, .inl (cL, z8_1, .inr (.inl z8_2))), (a8_1, .inl (cL, z8_4, .inr (.inl z8_5))), (a8_2, .inl (cL, z8_7, .inr (.inl z8_8))), (a8_3, .inl (cL, z8_19, .inr (.inl z8_20))), (a8_4, .inl (cL, z8_22, .inr (.inl z8_23)))] := hD
  refine va_putF (D := (dC, dI)) (ci := 9) (v := .ref b7) (ty := .object "CellEngine$Heap") (C := R_Engine) (T := F_Engine) (N := 4) hx hb hg i_Engine t_Engine t_Engine_ok n_Engine hown hK hP hD hS 0 rfl rfl 1 (by decide) (hg _ k660) (fun _ h9 => h9) rfl hin rfl (by decide +kernel) rfl rfl (Nat.le_of_ble_eq_true rfl) d_Engine_init_43 (fun H locs hP hD hS => ?_)
  have hP : va_P (dC, dI) classes [(o_Engine, .inr (9, [.ref b3, .ref b7, .ref b5, .null])), (b1, .inr (2, [.ref a2_0, .int z2_3, .ref a2_1, .ref a2_2, .ref a2_3, .ref a2_4, .int z2_12, .ref a2_5, .ref a2_6, .ref a2_7, .ref a2_8, .int z2_21])), (a2_0, .inl (cL, z2_1, .inr (.inl z2_2))), (a2_1, .inl (cI, z2_4, .inl z2_5)), (a2_2, .inl (cI, z2_6, .inl z2_7)), (a2_3, .inl (cI, z2_8, .inl z2_9)), (a2_4, .inl (cL, z2_10, .inr (.inl z2_11))), (a2_5, .inl (cI, z2_13, .inl z2_14)), (a2_6, .inl (cI, z2_15, .inl z2_16)), (a2_7, .inl (cI, z2_17, .inl z2_18)), (a2_8, .inl (cI, z2_19, .inl z2_20)), (b3, .inr (0, [.ref a4_0, .int z4_3, .ref a4_1, .ref a4_2, .int z4_8, .int z4_9, .int z4_10])), (a4_0, .inl (cI, z4_1, .inl z4_2)), (a4_1, .inl (cB, z4_4, .inl z4_5)), (a4_2, .inl (cI, z4_6, .inl z4_7)), (b5, .inr (1, [.ref a6_0, .int z6_3])), (a6_0, .inl (cB, z6_1, .inl z6_2)), (b7, .inr (3, [.ref b1, .ref a8_0, .int z8_3, .ref a8_1, .int z8_6, .ref a8_2, .int z8_9, .int z8_10, .int z8_11, .int z8_12, .int z8_13, .int z8_14, .int z8_15, .int z8_16, .int z8_17, .int z8_18, .ref a8_3, .int z8_21, .ref a8_4, .int z8_24])), (a8_0, .inl (cL, z8_1, .inr (.inl z8_2))), (a8_1, .inl (cL, z8_4, .inr (.inl z8_5))), (a8_2, .inl (cL, z8_7, .inr (.inl z8_8))), (a8_3, .inl (cL, z8_19, .inr (.inl z8_20))), (a8_4, .inl (cL, z8_22, .inr (.inl z8_23)))] H := hP
  have hD : va_D A [(o_Engine, .inr (9, [.ref b3, .ref b7, .ref b5, .null])), (b1, .inr (2, [.ref a2_0, .int z2_3, .ref a2_1, .ref a2_2, .ref a2_3, .ref a2_4, .int z2_12, .ref a2_5, .ref a2_6, .ref a2_7, .ref a2_8, .int z2_21])), (a2_0, .inl (cL, z2_1, .inr (.inl z2_2))), (a2_1, .inl (cI, z2_4, .inl z2_5)), (a2_2, .inl (cI, z2_6, .inl z2_7)), (a2_3, .inl (cI, z2_8, .inl z2_9)), (a2_4, .inl (cL, z2_10, .inr (.inl z2_11))), (a2_5, .inl (cI, z2_13, .inl z2_14)), (a2_6, .inl (cI, z2_15, .inl z2_16)), (a2_7, .inl (cI, z2_17, .inl z2_18)), (a2_8, .inl (cI, z2_19, .inl z2_20)), (b3, .inr (0, [.ref a4_0, .int z4_3, .ref a4_1, .ref a4_2, .int z4_8, .int z4_9, .int z4_10])), (a4_0, .inl (cI, z4_1, .inl z4_2)), (a4_1, .inl (cB, z4_4, .inl z4_5)), (a4_2, .inl (cI, z4_6, .inl z4_7)), (b5, .inr (1, [.ref a6_0, .int z6_3])), (a6_0, .inl (cB, z6_1, .inl z6_2)), (b7, .inr (3, [.ref b1, .ref a8_0, .int z8_3, .ref a8_1, .int z8_6, .ref a8_2, .int z8_9, .int z8_10, .int z8_11, .int z8_12, .int z8_13, .int z8_14, .int z8_15, .int z8_16, .int z8_17, .int z8_18, .ref a8_3, .int z8_21, .ref a8_4, .int z8_24])), (a8_0, .inl (cL, z8_1, .inr (.inl z8_2))), (a8_1, .inl (cL, z8_4, .inr (.inl z8_5))), (a8_2, .inl (cL, z8_7, .inr (.inl z8_8))), (a8_3, .inl (cL, z8_19, .inr (.inl z8_20))), (a8_4, .inl (cL, z8_22, .inr (.inl z8_23)))] := hD
  refine lv_aload_n hx hb d_Engine_init_46 rfl (lv_at hl 1 rfl) ?_
  obtain ⟨z, h, hG⟩ := dz_tkG h hG
  refine va_new (D := (dC, dI)) (ci := 8) (fs := [.null, .null, .null, .null, .null, .null, .null, .int 0, .int 0, .int 0, .int 0, .int 0, .int 0, .int 0, .int 0]) (C := R_Machine) (T := F_Machine) (N := 15) hx hb hg i_Machine t_Machine t_Machine_ok hown (hg _ k1104) (hg _ k1105) (hg _ k436) hK hP hD hS hA rfl (fun j hj => by rcases (show j = 0 ∨ j = 1 ∨ j = 2 ∨ j = 3 ∨ j = 4 ∨ j = 5 ∨ j = 6 ∨ j = 7 ∨ j = 8 ∨ j = 9 ∨ j = 10 ∨ j = 11 ∨ j = 12 ∨ j = 13 ∨ j = 14 by omega) with rfl | rfl | rfl | rfl | rfl | rfl | rfl | rfl | rfl | rfl | rfl | rfl | rfl | rfl | rfl <;> rfl) (dz_Gc hG) (dz_Gs hG) d_Engine_init_47 (fun b9 H hP hD hS => ?_)
  have hP : va_P (dC, dI) classes [(o_Engine, .inr (9, [.ref b3, .ref b7, .ref b5, .null])), (b1, .inr (2, [.ref a2_0, .int z2_3, .ref a2_1, .ref a2_2, .ref a2_3, .ref a2_4, .int z2_12, .ref a2_5, .ref a2_6, .ref a2_7, .ref a2_8, .int z2_21])), (a2_0, .inl (cL, z2_1, .inr (.inl z2_2))), (a2_1, .inl (cI, z2_4, .inl z2_5)), (a2_2, .inl (cI, z2_6, .inl z2_7)), (a2_3, .inl (cI, z2_8, .inl z2_9)), (a2_4, .inl (cL, z2_10, .inr (.inl z2_11))), (a2_5, .inl (cI, z2_13, .inl z2_14)), (a2_6, .inl (cI, z2_15, .inl z2_16)), (a2_7, .inl (cI, z2_17, .inl z2_18)), (a2_8, .inl (cI, z2_19, .inl z2_20)), (b3, .inr (0, [.ref a4_0, .int z4_3, .ref a4_1, .ref a4_2, .int z4_8, .int z4_9, .int z4_10])), (a4_0, .inl (cI, z4_1, .inl z4_2)), (a4_1, .inl (cB, z4_4, .inl z4_5)), (a4_2, .inl (cI, z4_6, .inl z4_7)), (b5, .inr (1, [.ref a6_0, .int z6_3])), (a6_0, .inl (cB, z6_1, .inl z6_2)), (b7, .inr (3, [.ref b1, .ref a8_0, .int z8_3, .ref a8_1, .int z8_6, .ref a8_2, .int z8_9, .int z8_10, .int z8_11, .int z8_12, .int z8_13, .int z8_14, .int z8_15, .int z8_16, .int z8_17, .int z8_18, .ref a8_3, .int z8_21, .ref a8_4, .int z8_24])), (a8_0, .inl (cL, z8_1, .inr (.inl z8_2))), (a8_1, .inl (cL, z8_4, .inr (.inl z8_5))), (a8_2, .inl (cL, z8_7, .inr (.inl z8_8))), (a8_3, .inl (cL, z8_19, .inr (.inl z8_20))), (a8_4, .inl (cL, z8_22, .inr (.inl z8_23))), (b9, .inr (8, [.null, .null, .null, .null, .null, .null, .null, .int 0, .int 0, .int 0, .int 0, .int 0, .int 0, .int 0, .int 0]))] H := hP
  have hD : va_D A [(o_Engine, .inr (9, [.ref b3, .ref b7, .ref b5, .null])), (b1, .inr (2, [.ref a2_0, .int z2_3, .ref a2_1, .ref a2_2, .ref a2_3, .ref a2_4, .int z2_12, .ref a2_5, .ref a2_6, .ref a2_7, .ref a2_8, .int z2_21])), (a2_0, .inl (cL, z2_1, .inr (.inl z2_2))), (a2_1, .inl (cI, z2_4, .inl z2_5)), (a2_2, .inl (cI, z2_6, .inl z2_7)), (a2_3, .inl (cI, z2_8, .inl z2_9)), (a2_4, .inl (cL, z2_10, .inr (.inl z2_11))), (a2_5, .inl (cI, z2_13, .inl z2_14)), (a2_6, .inl (cI, z2_15, .inl z2_16)), (a2_7, .inl (cI, z2_17, .inl z2_18)), (a2_8, .inl (cI, z2_19, .inl z2_20)), (b3, .inr (0, [.ref a4_0, .int z4_3, .ref a4_1, .ref a4_2, .int z4_8, .int z4_9, .int z4_10])), (a4_0, .inl (cI, z4_1, .inl z4_2)), (a4_1, .inl (cB, z4_4, .inl z4_5)), (a4_2, .inl (cI, z4_6, .inl z4_7)), (b5, .inr (1, [.ref a6_0, .int z6_3])), (a6_0, .inl (cB, z6_1, .inl z6_2)), (b7, .inr (3, [.ref b1, .ref a8_0, .int z8_3, .ref a8_1, .int z8_6, .ref a8_2, .int z8_9, .int z8_10, .int z8_11, .int z8_12, .int z8_13, .int z8_14, .int z8_15, .int z8_16, .int z8_17, .int z8_18, .ref a8_3, .int z8_21, .ref a8_4, .int z8_24])), (a8_0, .inl (cL, z8_1, .inr (.inl z8_2))), (a8_1, .inl (cL, z8_4, .inr (.inl z8_5))), (a8_2, .inl (cL, z8_7, .inr (.inl z8_8))), (a8_3, .inl (cL, z8_19, .inr (.inl z8_20))), (a8_4, .inl (cL, z8_22, .inr (.inl z8_23))), (b9, .inr (8, [.null, .null, .null, .null, .null, .null, .null, .int 0, .int 0, .int 0, .int 0, .int 0, .int 0, .int 0, .int 0]))] := hD
  refine lv_dup hx hb d_Engine_init_50 rfl ?_
  refine lv_aload_n hx hb d_Engine_init_51 rfl (lv_at hl 1 rfl) ?_
  refine va_get (D := (dC, dI)) (ci := 9) (v := .ref b3) (C := R_Engine) (T := F_Engine) (N := 4) hx hb hg i_Engine hown hK hP 0 rfl rfl 0 (by decide) (hg _ k629) (fun _ h9 => h9) rfl d_Engine_init_52 ?_
  refine lv_aload_n hx hb d_Engine_init_55 rfl (lv_at hl 0 rfl) ?_
  refine lv_aload_n hx hb d_Engine_init_56 rfl (lv_at hl 1 rfl) ?_
  refine va_get (D := (dC, dI)) (ci := 9) (v := .ref b7) (C := R_Engine) (T := F_Engine) (N := 4) hx hb hg i_Engine hown hK hP 0 rfl rfl 1 (by decide) (hg _ k660) (fun _ h9 => h9) rfl d_Engine_init_57 ?_
  refine lv_aload_n hx hb d_Engine_init_60 rfl (lv_at hl 1 rfl) ?_
  refine va_get (D := (dC, dI)) (ci := 9) (v := .ref b5) (C := R_Engine) (T := F_Engine) (N := 4) hx hb hg i_Engine hown hK hP 0 rfl rfl 2 (by decide) (hg _ k649) (fun _ h9 => h9) rfl d_Engine_init_61 ?_
  obtain ⟨⟨⟨z10_1, z10_2, z10_3, z10_4, z10_5, z10_6, z10_7, z10_8, z10_9, z10_10, z10_11, z10_12, z10_13, z10_14⟩, zc10, zs10⟩, hc10, h⟩ := dz_ob h
  try dsimp only at h
  obtain ⟨z, h, hG⟩ := dz_tkG h hG
  have hPc := hP.sub (ws' := [(b9, .inr (8, [.null, .null, .null, .null, .null, .null, .null, .int 0, .int 0, .int 0, .int 0, .int 0, .int 0, .int 0, .int 0]))]) [23] rfl
  have hKc := hK.sub (tys' := [(cI, .int), (cL, .long)]) [1, 2] rfl
  have hDc := hD.sub (ws' := [(b9, .inr (8, [.null, .null, .null, .null, .null, .null, .null, .int 0, .int 0, .int 0, .int 0, .int 0, .int 0, .int 0, .int 0]))]) [23] (by decide) rfl
  have hFc := va_free (wc := [(b9, .inr (8, [.null, .null, .null, .null, .null, .null, .null, .int 0, .int 0, .int 0, .int 0, .int 0, .int 0, .int 0, .int 0]))]) hD hS hA [23] rfl
  refine va_callv (va_runI (As := [.ref b3, .ref b1, .ref b7, .ref b5]) (rest := [.ref b9, .ref o_Engine]) ⟨hx, hb, hml, hown, hg⟩ (c_Machine_init l dC dI N cI cL b9 b3 b1 b7 b5 H.size (z10_1, z10_2, z10_3, z10_4, z10_5, z10_6, z10_7, z10_8, z10_9, z10_10, z10_11, z10_12, z10_13, z10_14) zc10 zs10 hc10) (cwI 4 hg (gd_N k1106) rfl rfl rfl (hg _ k436) (hg _ k1107) (hg _ k1108) rfl (by decide +kernel) ⟨Nat.le_of_ble_eq_true rfl, Nat.le_of_ble_eq_true rfl⟩) ⟨dz_blind, fun U hU hW => ⟨rfl, dz_Nw hW hN, by rw [hU], by rw [hU]; exact hPc, va_K.moved hW.alike hKc, hDc.weaken (fun _ _ _ _ => trivial)⟩⟩ rfl rfl hl.1 rfl (lv_room (Nat.le_of_ble_eq_true rfl)) d_Engine_init_64 ⟨dz_Gc hG, dz_Gs hG⟩) hS (fun q _ h => hFc q h) hFc (fun u10 t10 H1 locs ht hvm hw hB hz1 hk1 hS => ?_)
  obtain ⟨a10_0, a10_1, a10_2, a10_3, a10_4, a10_5⟩ := u10
  obtain ⟨hP1, hK1, hD1⟩ := hB
  rw [ht] at hP1
  obtain ⟨hP, hD⟩ := va_join (wr := [(o_Engine, .inr (9, [.ref b3, .ref b7, .ref b5, .null])), (b1, .inr (2, [.ref a2_0, .int z2_3, .ref a2_1, .ref a2_2, .ref a2_3, .ref a2_4, .int z2_12, .ref a2_5, .ref a2_6, .ref a2_7, .ref a2_8, .int z2_21])), (a2_0, .inl (cL, z2_1, .inr (.inl z2_2))), (a2_1, .inl (cI, z2_4, .inl z2_5)), (a2_2, .inl (cI, z2_6, .inl z2_7)), (a2_3, .inl (cI, z2_8, .inl z2_9)), (a2_4, .inl (cL, z2_10, .inr (.inl z2_11))), (a2_5, .inl (cI, z2_13, .inl z2_14)), (a2_6, .inl (cI, z2_15, .inl z2_16)), (a2_7, .inl (cI, z2_17, .inl z2_18)), (a2_8, .inl (cI, z2_19, .inl z2_20)), (b3, .inr (0, [.ref a4_0, .int z4_3, .ref a4_1, .ref a4_2, .int z4_8, .int z4_9, .int z4_10])), (a4_0, .inl (cI, z4_1, .inl z4_2)), (a4_1, .inl (cB, z4_4, .inl z4_5)), (a4_2, .inl (cI, z4_6, .inl z4_7)), (b5, .inr (1, [.ref a6_0, .int z6_3])), (a6_0, .inl (cB, z6_1, .inl z6_2)), (b7, .inr (3, [.ref b1, .ref a8_0, .int z8_3, .ref a8_1, .int z8_6, .ref a8_2, .int z8_9, .int z8_10, .int z8_11, .int z8_12, .int z8_13, .int z8_14, .int z8_15, .int z8_16, .int z8_17, .int z8_18, .ref a8_3, .int z8_21, .ref a8_4, .int z8_24])), (a8_0, .inl (cL, z8_1, .inr (.inl z8_2))), (a8_1, .inl (cL, z8_4, .inr (.inl z8_5))), (a8_2, .inl (cL, z8_7, .inr (.inl z8_8))), (a8_3, .inl (cL, z8_19, .inr (.inl z8_20))), (a8_4, .inl (cL, z8_22, .inr (.inl z8_23)))]) (w1 := [(b9, .inr (8, [.ref b3, .ref b1, .ref b7, .ref a10_0, .ref a10_1, .ref a10_2, .ref a10_3, .int z10_1, .int z10_2, .int z10_3, .int z10_4, .int z10_5, .int z10_6, .int z10_7, .int z10_8])), (a10_0, .inr (4, [.ref b3, .ref b1, .ref b7, .int z10_9])), (a10_1, .inr (5, [.ref b7, .ref a10_4, .ref a10_5, .int z10_14])), (a10_2, .inr (6, [.ref b1])), (a10_3, .inr (7, [.ref b1, .ref b7, .ref b5])), (a10_4, .inl (cI, z10_10, .inl z10_11)), (a10_5, .inl (cL, z10_12, .inr (.inl z10_13)))]) hP hD [23] [0, 1, 2, 3, 4, 5, 6, 7, 8, 9, 10, 11, 12, 13, 14, 15, 16, 17, 18, 19, 20, 21, 22] rfl rfl (by decide) (by decide) hk1 hFc hP1 hD1
  generalize H1 = H at hP hS ⊢
  have hP : va_P (dC, dI) classes [(o_Engine, .inr (9, [.ref b3, .ref b7, .ref b5, .null])), (b1, .inr (2, [.ref a2_0, .int z2_3, .ref a2_1, .ref a2_2, .ref a2_3, .ref a2_4, .int z2_12, .ref a2_5, .ref a2_6, .ref a2_7, .ref a2_8, .int z2_21])), (a2_0, .inl (cL, z2_1, .inr (.inl z2_2))), (a2_1, .inl (cI, z2_4, .inl z2_5)), (a2_2, .inl (cI, z2_6, .inl z2_7)), (a2_3, .inl (cI, z2_8, .inl z2_9)), (a2_4, .inl (cL, z2_10, .inr (.inl z2_11))), (a2_5, .inl (cI, z2_13, .inl z2_14)), (a2_6, .inl (cI, z2_15, .inl z2_16)), (a2_7, .inl (cI, z2_17, .inl z2_18)), (a2_8, .inl (cI, z2_19, .inl z2_20)), (b3, .inr (0, [.ref a4_0, .int z4_3, .ref a4_1, .ref a4_2, .int z4_8, .int z4_9, .int z4_10])), (a4_0, .inl (cI, z4_1, .inl z4_2)), (a4_1, .inl (cB, z4_4, .inl z4_5)), (a4_2, .inl (cI, z4_6, .inl z4_7)), (b5, .inr (1, [.ref a6_0, .int z6_3])), (a6_0, .inl (cB, z6_1, .inl z6_2)), (b7, .inr (3, [.ref b1, .ref a8_0, .int z8_3, .ref a8_1, .int z8_6, .ref a8_2, .int z8_9, .int z8_10, .int z8_11, .int z8_12, .int z8_13, .int z8_14, .int z8_15, .int z8_16, .int z8_17, .int z8_18, .ref a8_3, .int z8_21, .ref a8_4, .int z8_24])), (a8_0, .inl (cL, z8_1, .inr (.inl z8_2))), (a8_1, .inl (cL, z8_4, .inr (.inl z8_5))), (a8_2, .inl (cL, z8_7, .inr (.inl z8_8))), (a8_3, .inl (cL, z8_19, .inr (.inl z8_20))), (a8_4, .inl (cL, z8_22, .inr (.inl z8_23))), (b9, .inr (8, [.ref b3, .ref b1, .ref b7, .ref a10_0, .ref a10_1, .ref a10_2, .ref a10_3, .int z10_1, .int z10_2, .int z10_3, .int z10_4, .int z10_5, .int z10_6, .int z10_7, .int z10_8])), (a10_0, .inr (4, [.ref b3, .ref b1, .ref b7, .int z10_9])), (a10_1, .inr (5, [.ref b7, .ref a10_4, .ref a10_5, .int z10_14])), (a10_2, .inr (6, [.ref b1])), (a10_3, .inr (7, [.ref b1, .ref b7, .ref b5])), (a10_4, .inl (cI, z10_10, .inl z10_11)), (a10_5, .inl (cL, z10_12, .inr (.inl z10_13)))] H := hP
  have hD : va_D A [(o_Engine, .inr (9, [.ref b3, .ref b7, .ref b5, .null])), (b1, .inr (2, [.ref a2_0, .int z2_3, .ref a2_1, .ref a2_2, .ref a2_3, .ref a2_4, .int z2_12, .ref a2_5, .ref a2_6, .ref a2_7, .ref a2_8, .int z2_21])), (a2_0, .inl (cL, z2_1, .inr (.inl z2_2))), (a2_1, .inl (cI, z2_4, .inl z2_5)), (a2_2, .inl (cI, z2_6, .inl z2_7)), (a2_3, .inl (cI, z2_8, .inl z2_9)), (a2_4, .inl (cL, z2_10, .inr (.inl z2_11))), (a2_5, .inl (cI, z2_13, .inl z2_14)), (a2_6, .inl (cI, z2_15, .inl z2_16)), (a2_7, .inl (cI, z2_17, .inl z2_18)), (a2_8, .inl (cI, z2_19, .inl z2_20)), (b3, .inr (0, [.ref a4_0, .int z4_3, .ref a4_1, .ref a4_2, .int z4_8, .int z4_9, .int z4_10])), (a4_0, .inl (cI, z4_1, .inl z4_2)), (a4_1, .inl (cB, z4_4, .inl z4_5)), (a4_2, .inl (cI, z4_6, .inl z4_7)), (b5, .inr (1, [.ref a6_0, .int z6_3])), (a6_0, .inl (cB, z6_1, .inl z6_2)), (b7, .inr (3, [.ref b1, .ref a8_0, .int z8_3, .ref a8_1, .int z8_6, .ref a8_2, .int z8_9, .int z8_10, .int z8_11, .int z8_12, .int z8_13, .int z8_14, .int z8_15, .int z8_16, .int z8_17, .int z8_18, .ref a8_3, .int z8_21, .ref a8_4, .int z8_24])), (a8_0, .inl (cL, z8_1, .inr (.inl z8_2))), (a8_1, .inl (cL, z8_4, .inr (.inl z8_5))), (a8_2, .inl (cL, z8_7, .inr (.inl z8_8))), (a8_3, .inl (cL, z8_19, .inr (.inl z8_20))), (a8_4, .inl (cL, z8_22, .inr (.inl z8_23))), (b9, .inr (8, [.ref b3, .ref b1, .ref b7, .ref a10_0, .ref a10_1, .ref a10_2, .ref a10_3, .int z10_1, .int z10_2, .int z10_3, .int z10_4, .int z10_5, .int z10_6, .int z10_7, .int z10_8])), (a10_0, .inr (4, [.ref b3, .ref b1, .ref b7, .int z10_9])), (a10_1, .inr (5, [.ref b7, .ref a10_4, .ref a10_5, .int z10_14])), (a10_2, .inr (6, [.ref b1])), (a10_3, .inr (7, [.ref b1, .ref b7, .ref b5])), (a10_4, .inl (cI, z10_10, .inl z10_11)), (a10_5, .inl (cL, z10_12, .inr (.inl z10_13)))] := hD
  refine va_putF (D := (dC, dI)) (ci := 9) (v := .ref b9) (ty := .object "CellEngine$Machine") (C := R_Engine) (T := F_Engine) (N := 4) hx hb hg i_Engine t_Engine t_Engine_ok n_Engine hown hK hP hD hS 0 rfl rfl 3 (by decide) (hg _ k634) (fun _ h9 => h9) rfl hin rfl (by decide +kernel) rfl rfl (Nat.le_of_ble_eq_true rfl) d_Engine_init_67 (fun H locs hP hD hS => ?_)
  have hP : va_P (dC, dI) classes [(o_Engine, .inr (9, [.ref b3, .ref b7, .ref b5, .ref b9])), (b1, .inr (2, [.ref a2_0, .int z2_3, .ref a2_1, .ref a2_2, .ref a2_3, .ref a2_4, .int z2_12, .ref a2_5, .ref a2_6, .ref a2_7, .ref a2_8, .int z2_21])), (a2_0, .inl (cL, z2_1, .inr (.inl z2_2))), (a2_1, .inl (cI, z2_4, .inl z2_5)), (a2_2, .inl (cI, z2_6, .inl z2_7)), (a2_3, .inl (cI, z2_8, .inl z2_9)), (a2_4, .inl (cL, z2_10, .inr (.inl z2_11))), (a2_5, .inl (cI, z2_13, .inl z2_14)), (a2_6, .inl (cI, z2_15, .inl z2_16)), (a2_7, .inl (cI, z2_17, .inl z2_18)), (a2_8, .inl (cI, z2_19, .inl z2_20)), (b3, .inr (0, [.ref a4_0, .int z4_3, .ref a4_1, .ref a4_2, .int z4_8, .int z4_9, .int z4_10])), (a4_0, .inl (cI, z4_1, .inl z4_2)), (a4_1, .inl (cB, z4_4, .inl z4_5)), (a4_2, .inl (cI, z4_6, .inl z4_7)), (b5, .inr (1, [.ref a6_0, .int z6_3])), (a6_0, .inl (cB, z6_1, .inl z6_2)), (b7, .inr (3, [.ref b1, .ref a8_0, .int z8_3, .ref a8_1, .int z8_6, .ref a8_2, .int z8_9, .int z8_10, .int z8_11, .int z8_12, .int z8_13, .int z8_14, .int z8_15, .int z8_16, .int z8_17, .int z8_18, .ref a8_3, .int z8_21, .ref a8_4, .int z8_24])), (a8_0, .inl (cL, z8_1, .inr (.inl z8_2))), (a8_1, .inl (cL, z8_4, .inr (.inl z8_5))), (a8_2, .inl (cL, z8_7, .inr (.inl z8_8))), (a8_3, .inl (cL, z8_19, .inr (.inl z8_20))), (a8_4, .inl (cL, z8_22, .inr (.inl z8_23))), (b9, .inr (8, [.ref b3, .ref b1, .ref b7, .ref a10_0, .ref a10_1, .ref a10_2, .ref a10_3, .int z10_1, .int z10_2, .int z10_3, .int z10_4, .int z10_5, .int z10_6, .int z10_7, .int z10_8])), (a10_0, .inr (4, [.ref b3, .ref b1, .ref b7, .int z10_9])), (a10_1, .inr (5, [.ref b7, .ref a10_4, .ref a10_5, .int z10_14])), (a10_2, .inr (6, [.ref b1])), (a10_3, .inr (7, [.ref b1, .ref b7, .ref b5])), (a10_4, .inl (cI, z10_10, .inl z10_11)), (a10_5, .inl (cL, z10_12, .inr (.inl z10_13)))] H := hP
  have hD : va_D A [(o_Engine, .inr (9, [.ref b3, .ref b7, .ref b5, .ref b9])), (b1, .inr (2, [.ref a2_0, .int z2_3, .ref a2_1, .ref a2_2, .ref a2_3, .ref a2_4, .int z2_12, .ref a2_5, .ref a2_6, .ref a2_7, .ref a2_8, .int z2_21])), (a2_0, .inl (cL, z2_1, .inr (.inl z2_2))), (a2_1, .inl (cI, z2_4, .inl z2_5)), (a2_2, .inl (cI, z2_6, .inl z2_7)), (a2_3, .inl (cI, z2_8, .inl z2_9)), (a2_4, .inl (cL, z2_10, .inr (.inl z2_11))), (a2_5, .inl (cI, z2_13, .inl z2_14)), (a2_6, .inl (cI, z2_15, .inl z2_16)), (a2_7, .inl (cI, z2_17, .inl z2_18)), (a2_8, .inl (cI, z2_19, .inl z2_20)), (b3, .inr (0, [.ref a4_0, .int z4_3, .ref a4_1, .ref a4_2, .int z4_8, .int z4_9, .int z4_10])), (a4_0, .inl (cI, z4_1, .inl z4_2)), (a4_1, .inl (cB, z4_4, .inl z4_5)), (a4_2, .inl (cI, z4_6, .inl z4_7)), (b5, .inr (1, [.ref a6_0, .int z6_3])), (a6_0, .inl (cB, z6_1, .inl z6_2)), (b7, .inr (3, [.ref b1, .ref a8_0, .int z8_3, .ref a8_1, .int z8_6, .ref a8_2, .int z8_9, .int z8_10, .int z8_11, .int z8_12, .int z8_13, .int z8_14, .int z8_15, .int z8_16, .int z8_17, .int z8_18, .ref a8_3, .int z8_21, .ref a8_4, .int z8_24])), (a8_0, .inl (cL, z8_1, .inr (.inl z8_2))), (a8_1, .inl (cL, z8_4, .inr (.inl z8_5))), (a8_2, .inl (cL, z8_7, .inr (.inl z8_8))), (a8_3, .inl (cL, z8_19, .inr (.inl z8_20))), (a8_4, .inl (cL, z8_22, .inr (.inl z8_23))), (b9, .inr (8, [.ref b3, .ref b1, .ref b7, .ref a10_0, .ref a10_1, .ref a10_2, .ref a10_3, .int z10_1, .int z10_2, .int z10_3, .int z10_4, .int z10_5, .int z10_6, .int z10_7, .int z10_8])), (a10_0, .inr (4, [.ref b3, .ref b1, .ref b7, .int z10_9])), (a10_1, .inr (5, [.ref b7, .ref a10_4, .ref a10_5, .int z10_14])), (a10_2, .inr (6, [.ref b1])), (a10_3, .inr (7, [.ref b1, .ref b7, .ref b5])), (a10_4, .inl (cI, z10_10, .inl z10_11)), (a10_5, .inl (cL, z10_12, .inr (.inl z10_13)))] := hD
  obtain rfl := Option.some.inj h
  have hP9 := hP.sub (ws' := [(o_Engine, .inr (9, [.ref b3, .ref b7, .ref b5, .ref b9])), (b3, .inr (0, [.ref a4_0, .int z4_3, .ref a4_1, .ref a4_2, .int z4_8, .int z4_9, .int z4_10])), (b5, .inr (1, [.ref a6_0, .int z6_3])), (b1, .inr (2, [.ref a2_0, .int z2_3, .ref a2_1, .ref a2_2, .ref a2_3, .ref a2_4, .int z2_12, .ref a2_5, .ref a2_6, .ref a2_7, .ref a2_8, .int z2_21])), (b7, .inr (3, [.ref b1, .ref a8_0, .int z8_3, .ref a8_1, .int z8_6, .ref a8_2, .int z8_9, .int z8_10, .int z8_11, .int z8_12, .int z8_13, .int z8_14, .int z8_15, .int z8_16, .int z8_17, .int z8_18, .ref a8_3, .int z8_21, .ref a8_4, .int z8_24])), (a10_0, .inr (4, [.ref b3, .ref b1, .ref b7, .int z10_9])), (a10_1, .inr (5, [.ref b7, .ref a10_4, .ref a10_5, .int z10_14])), (a10_2, .inr (6, [.ref b1])), (a10_3, .inr (7, [.ref b1, .ref b7, .ref b5])), (b9, .inr (8, [.ref b3, .ref b1, .ref b7, .ref a10_0, .ref a10_1, .ref a10_2, .ref a10_3, .int z10_1, .int z10_2, .int z10_3, .int z10_4, .int z10_5, .int z10_6, .int z10_7, .int z10_8])), (a4_0, .inl (cI, z4_1, .inl z4_2)), (a4_1, .inl (cB, z4_4, .inl z4_5)), (a4_2, .inl (cI, z4_6, .inl z4_7)), (a6_0, .inl (cB, z6_1, .inl z6_2)), (a2_0, .inl (cL, z2_1, .inr (.inl z2_2))), (a2_1, .inl (cI, z2_4, .inl z2_5)), (a2_2, .inl (cI, z2_6, .inl z2_7)), (a2_3, .inl (cI, z2_8, .inl z2_9)), (a2_4, .inl (cL, z2_10, .inr (.inl z2_11))), (a2_5, .inl (cI, z2_13, .inl z2_14)), (a2_6, .inl (cI, z2_15, .inl z2_16)), (a2_7, .inl (cI, z2_17, .inl z2_18)), (a2_8, .inl (cI, z2_19, .inl z2_20)), (a8_0, .inl (cL, z8_1, .inr (.inl z8_2))), (a8_1, .inl (cL, z8_4, .inr (.inl z8_5))), (a8_2, .inl (cL, z8_7, .inr (.inl z8_8))), (a8_3, .inl (cL, z8_19, .inr (.inl z8_20))), (a8_4, .inl (cL, z8_22, .inr (.inl z8_23))), (a10_4, .inl (cI, z10_10, .inl z10_11)), (a10_5, .inl (cL, z10_12, .inr (.inl z10_13)))]) [0, 11, 15, 1, 17, 24, 25, 26, 27, 23, 12, 13, 14, 16, 2, 3, 4, 5, 6, 7, 8, 9, 10, 18, 19, 20, 21, 22, 28, 29] rfl
  have hD9 := hD.sub (ws' := [(o_Engine, .inr (9, [.ref b3, .ref b7, .ref b5, .ref b9])), (b3, .inr (0, [.ref a4_0, .int z4_3, .ref a4_1, .ref a4_2, .int z4_8, .int z4_9, .int z4_10])), (b5, .inr (1, [.ref a6_0, .int z6_3])), (b1, .inr (2, [.ref a2_0, .int z2_3, .ref a2_1, .ref a2_2, .ref a2_3, .ref a2_4, .int z2_12, .ref a2_5, .ref a2_6, .ref a2_7, .ref a2_8, .int z2_21])), (b7, .inr (3, [.ref b1, .ref a8_0, .int z8_3, .ref a8_1, .int z8_6, .ref a8_2, .int z8_9, .int z8_10, .int z8_11, .int z8_12, .int z8_13, .int z8_14, .int z8_15, .int z8_16, .int z8_17, .int z8_18, .ref a8_3, .int z8_21, .ref a8_4, .int z8_24])), (a10_0, .inr (4, [.ref b3, .ref b1, .ref b7, .int z10_9])), (a10_1, .inr (5, [.ref b7, .ref a10_4, .ref a10_5, .int z10_14])), (a10_2, .inr (6, [.ref b1])), (a10_3, .inr (7, [.ref b1, .ref b7, .ref b5])), (b9, .inr (8, [.ref b3, .ref b1, .ref b7, .ref a10_0, .ref a10_1, .ref a10_2, .ref a10_3, .int z10_1, .int z10_2, .int z10_3, .int z10_4, .int z10_5, .int z10_6, .int z10_7, .int z10_8])), (a4_0, .inl (cI, z4_1, .inl z4_2)), (a4_1, .inl (cB, z4_4, .inl z4_5)), (a4_2, .inl (cI, z4_6, .inl z4_7)), (a6_0, .inl (cB, z6_1, .inl z6_2)), (a2_0, .inl (cL, z2_1, .inr (.inl z2_2))), (a2_1, .inl (cI, z2_4, .inl z2_5)), (a2_2, .inl (cI, z2_6, .inl z2_7)), (a2_3, .inl (cI, z2_8, .inl z2_9)), (a2_4, .inl (cL, z2_10, .inr (.inl z2_11))), (a2_5, .inl (cI, z2_13, .inl z2_14)), (a2_6, .inl (cI, z2_15, .inl z2_16)), (a2_7, .inl (cI, z2_17, .inl z2_18)), (a2_8, .inl (cI, z2_19, .inl z2_20)), (a8_0, .inl (cL, z8_1, .inr (.inl z8_2))), (a8_1, .inl (cL, z8_4, .inr (.inl z8_5))), (a8_2, .inl (cL, z8_7, .inr (.inl z8_8))), (a8_3, .inl (cL, z8_19, .inr (.inl z8_20))), (a8_4, .inl (cL, z8_22, .inr (.inl z8_23))), (a10_4, .inl (cI, z10_10, .inl z10_11)), (a10_5, .inl (cL, z10_12, .inr (.inl z10_13)))]) [0, 11, 15, 1, 17, 24, 25, 26, 27, 23, 12, 13, 14, 16, 2, 3, 4, 5, 6, 7, 8, 9, 10, 18, 19, 20, 21, 22, 28, 29] (by decide) rfl
  have hK9 := hK.sub (tys' := [(cB, .byte), (cI, .int), (cL, .long)]) [0, 1, 2] rfl
  refine W.widen (dz_Gc hG) (dz_Gs hG) ?_
  obtain ⟨rfl, -, -⟩ := hG
  exact W.vret hx hb hr (fun t ht hW => ⟨⟨(b3, b5, b1, b7, a10_0, a10_1, a10_2, a10_3, b9, a4_0, a4_1, a4_2, a6_0, a2_0, a2_1, a2_2, a2_3, a2_4, a2_5, a2_6, a2_7, a2_8, a8_0, a8_1, a8_2, a8_3, a8_4, a10_4, a10_5), rfl, trivial, by rw [ht]; exact hP9, va_K.moved hW.alike hK9, hD9⟩, hS.F ht⟩) hS.2.2 d_Engine_init_70
